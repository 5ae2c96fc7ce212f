section
-- ===== PART A: goes FIRST, ahead of the names: the tables' words, and 'selects' of the private methods out of them =====
/-- a private method of a class that the tables say can be made, by its rows of tables_1 -/
def lw_okq (q : MethodName × Nat) : Prop := (q.1.cls ≠ "java/lang/invoke/MethodHandle" ∧ q.1.cls ≠ "java/lang/invoke/VarHandle") ∧ Cond.instantiable q.1.cls q.2 ∈ tables_1 ∧ Cond.privateMethod q.1 ∈ tables_1 ∧ Cond.instanceMethod q.1 ∈ tables_1
theorem lw_p0 : lw_okq (⟨"IntervalRouting", "isPair", "(II)Z"⟩, 8) := ⟨⟨by decide +kernel, by decide +kernel⟩, List.mem_of_getElem? (i := 16) (by decide +kernel), List.mem_of_getElem? (i := 277) (by decide +kernel), List.mem_of_getElem? (i := 278) (by decide +kernel)⟩
theorem lw_p1 : lw_okq (⟨"IntervalRouting", "isNode", "(I)Z"⟩, 8) := ⟨⟨by decide +kernel, by decide +kernel⟩, List.mem_of_getElem? (i := 16) (by decide +kernel), List.mem_of_getElem? (i := 281) (by decide +kernel), List.mem_of_getElem? (i := 282) (by decide +kernel)⟩
theorem lw_p2 : lw_okq (⟨"IntervalRouting", "makeTick", "(LIntervalRouting$State;)I"⟩, 8) := ⟨⟨by decide +kernel, by decide +kernel⟩, List.mem_of_getElem? (i := 16) (by decide +kernel), List.mem_of_getElem? (i := 350) (by decide +kernel), List.mem_of_getElem? (i := 351) (by decide +kernel)⟩
theorem lw_p3 : lw_okq (⟨"IntervalRouting", "chooseSpeakers", "(LIntervalRouting$State;)V"⟩, 8) := ⟨⟨by decide +kernel, by decide +kernel⟩, List.mem_of_getElem? (i := 16) (by decide +kernel), List.mem_of_getElem? (i := 412) (by decide +kernel), List.mem_of_getElem? (i := 413) (by decide +kernel)⟩
theorem lw_p4 : lw_okq (⟨"IntervalRouting", "isDue", "(LIntervalRouting$State;I)Z"⟩, 8) := ⟨⟨by decide +kernel, by decide +kernel⟩, List.mem_of_getElem? (i := 16) (by decide +kernel), List.mem_of_getElem? (i := 416) (by decide +kernel), List.mem_of_getElem? (i := 417) (by decide +kernel)⟩
theorem lw_p5 : lw_okq (⟨"IntervalRouting", "speak", "(LIntervalRouting$State;I)V"⟩, 8) := ⟨⟨by decide +kernel, by decide +kernel⟩, List.mem_of_getElem? (i := 16) (by decide +kernel), List.mem_of_getElem? (i := 429) (by decide +kernel), List.mem_of_getElem? (i := 430) (by decide +kernel)⟩
theorem lw_p6 : lw_okq (⟨"IntervalRouting", "announce", "(LIntervalRouting$State;III)V"⟩, 8) := ⟨⟨by decide +kernel, by decide +kernel⟩, List.mem_of_getElem? (i := 16) (by decide +kernel), List.mem_of_getElem? (i := 434) (by decide +kernel), List.mem_of_getElem? (i := 435) (by decide +kernel)⟩
theorem lw_p7 : lw_okq (⟨"IntervalRouting", "noteChanges", "(LIntervalRouting$State;)I"⟩, 8) := ⟨⟨by decide +kernel, by decide +kernel⟩, List.mem_of_getElem? (i := 16) (by decide +kernel), List.mem_of_getElem? (i := 452) (by decide +kernel), List.mem_of_getElem? (i := 453) (by decide +kernel)⟩
theorem lw_p8 : lw_okq (⟨"IntervalRouting", "counts", "(IIII)Z"⟩, 8) := ⟨⟨by decide +kernel, by decide +kernel⟩, List.mem_of_getElem? (i := 16) (by decide +kernel), List.mem_of_getElem? (i := 508) (by decide +kernel), List.mem_of_getElem? (i := 509) (by decide +kernel)⟩
theorem lw_p9 : lw_okq (⟨"IntervalRouting", "isWrong", "(I)Z"⟩, 8) := ⟨⟨by decide +kernel, by decide +kernel⟩, List.mem_of_getElem? (i := 16) (by decide +kernel), List.mem_of_getElem? (i := 562) (by decide +kernel), List.mem_of_getElem? (i := 563) (by decide +kernel)⟩
theorem lw_p10 : lw_okq (⟨"IntervalRoutingModel", "begins", "()V"⟩, 15) := ⟨⟨by decide +kernel, by decide +kernel⟩, List.mem_of_getElem? (i := 635) (by decide +kernel), List.mem_of_getElem? (i := 641) (by decide +kernel), List.mem_of_getElem? (i := 642) (by decide +kernel)⟩
theorem lw_p11 : lw_okq (⟨"IntervalRoutingModel", "arePair", "(II)Z"⟩, 15) := ⟨⟨by decide +kernel, by decide +kernel⟩, List.mem_of_getElem? (i := 635) (by decide +kernel), List.mem_of_getElem? (i := 702) (by decide +kernel), List.mem_of_getElem? (i := 703) (by decide +kernel)⟩
theorem lw_p12 : lw_okq (⟨"IntervalRoutingModel", "isNode", "(I)Z"⟩, 15) := ⟨⟨by decide +kernel, by decide +kernel⟩, List.mem_of_getElem? (i := 635) (by decide +kernel), List.mem_of_getElem? (i := 706) (by decide +kernel), List.mem_of_getElem? (i := 707) (by decide +kernel)⟩
theorem lw_p13 : lw_okq (⟨"IntervalRoutingModel", "isLink", "(II)Z"⟩, 15) := ⟨⟨by decide +kernel, by decide +kernel⟩, List.mem_of_getElem? (i := 635) (by decide +kernel), List.mem_of_getElem? (i := 710) (by decide +kernel), List.mem_of_getElem? (i := 711) (by decide +kernel)⟩
theorem lw_p14 : lw_okq (⟨"IntervalRoutingModel", "sets", "(IIII)V"⟩, 15) := ⟨⟨by decide +kernel, by decide +kernel⟩, List.mem_of_getElem? (i := 635) (by decide +kernel), List.mem_of_getElem? (i := 717) (by decide +kernel), List.mem_of_getElem? (i := 718) (by decide +kernel)⟩
theorem lw_p15 : lw_okq (⟨"IntervalRoutingModel", "tick", "()V"⟩, 15) := ⟨⟨by decide +kernel, by decide +kernel⟩, List.mem_of_getElem? (i := 635) (by decide +kernel), List.mem_of_getElem? (i := 746) (by decide +kernel), List.mem_of_getElem? (i := 747) (by decide +kernel)⟩
def lw_privs_1 : List (MethodName × Nat) := [(⟨"IntervalRouting", "isPair", "(II)Z"⟩, 8), (⟨"IntervalRouting", "isNode", "(I)Z"⟩, 8), (⟨"IntervalRouting", "makeTick", "(LIntervalRouting$State;)I"⟩, 8), (⟨"IntervalRouting", "chooseSpeakers", "(LIntervalRouting$State;)V"⟩, 8), (⟨"IntervalRouting", "isDue", "(LIntervalRouting$State;I)Z"⟩, 8), (⟨"IntervalRouting", "speak", "(LIntervalRouting$State;I)V"⟩, 8), (⟨"IntervalRouting", "announce", "(LIntervalRouting$State;III)V"⟩, 8), (⟨"IntervalRouting", "noteChanges", "(LIntervalRouting$State;)I"⟩, 8), (⟨"IntervalRouting", "counts", "(IIII)Z"⟩, 8), (⟨"IntervalRouting", "isWrong", "(I)Z"⟩, 8), (⟨"IntervalRoutingModel", "begins", "()V"⟩, 15), (⟨"IntervalRoutingModel", "arePair", "(II)Z"⟩, 15), (⟨"IntervalRoutingModel", "isNode", "(I)Z"⟩, 15), (⟨"IntervalRoutingModel", "isLink", "(II)Z"⟩, 15), (⟨"IntervalRoutingModel", "sets", "(IIII)V"⟩, 15), (⟨"IntervalRoutingModel", "tick", "()V"⟩, 15)]
theorem lw_r1 : ∀ q ∈ lw_privs_1, lw_okq q := List.forall_mem_cons.mpr ⟨lw_p0, List.forall_mem_cons.mpr ⟨lw_p1, List.forall_mem_cons.mpr ⟨lw_p2, List.forall_mem_cons.mpr ⟨lw_p3, List.forall_mem_cons.mpr ⟨lw_p4, List.forall_mem_cons.mpr ⟨lw_p5, List.forall_mem_cons.mpr ⟨lw_p6, List.forall_mem_cons.mpr ⟨lw_p7, List.forall_mem_cons.mpr ⟨lw_p8, List.forall_mem_cons.mpr ⟨lw_p9, List.forall_mem_cons.mpr ⟨lw_p10, List.forall_mem_cons.mpr ⟨lw_p11, List.forall_mem_cons.mpr ⟨lw_p12, List.forall_mem_cons.mpr ⟨lw_p13, List.forall_mem_cons.mpr ⟨lw_p14, List.forall_mem_cons.mpr ⟨lw_p15, fun _ h => absurd h List.not_mem_nil⟩⟩⟩⟩⟩⟩⟩⟩⟩⟩⟩⟩⟩⟩⟩⟩
theorem lw_p16 : lw_okq (⟨"IntervalRoutingModel", "looks", "()V"⟩, 15) := ⟨⟨by decide +kernel, by decide +kernel⟩, List.mem_of_getElem? (i := 635) (by decide +kernel), List.mem_of_getElem? (i := 750) (by decide +kernel), List.mem_of_getElem? (i := 751) (by decide +kernel)⟩
theorem lw_p17 : lw_okq (⟨"IntervalRoutingModel", "boundOf", "(III)I"⟩, 15) := ⟨⟨by decide +kernel, by decide +kernel⟩, List.mem_of_getElem? (i := 635) (by decide +kernel), List.mem_of_getElem? (i := 754) (by decide +kernel), List.mem_of_getElem? (i := 755) (by decide +kernel)⟩
theorem lw_p18 : lw_okq (⟨"IntervalRoutingModel", "least", "(IIII)I"⟩, 15) := ⟨⟨by decide +kernel, by decide +kernel⟩, List.mem_of_getElem? (i := 635) (by decide +kernel), List.mem_of_getElem? (i := 758) (by decide +kernel), List.mem_of_getElem? (i := 759) (by decide +kernel)⟩
theorem lw_p19 : lw_okq (⟨"IntervalRoutingModel", "isUsable", "(III)Z"⟩, 15) := ⟨⟨by decide +kernel, by decide +kernel⟩, List.mem_of_getElem? (i := 635) (by decide +kernel), List.mem_of_getElem? (i := 762) (by decide +kernel), List.mem_of_getElem? (i := 763) (by decide +kernel)⟩
theorem lw_p20 : lw_okq (⟨"IntervalRoutingModel", "isEntry", "(III)Z"⟩, 15) := ⟨⟨by decide +kernel, by decide +kernel⟩, List.mem_of_getElem? (i := 635) (by decide +kernel), List.mem_of_getElem? (i := 766) (by decide +kernel), List.mem_of_getElem? (i := 767) (by decide +kernel)⟩
theorem lw_p21 : lw_okq (⟨"IntervalRoutingModel", "of", "(IIII)I"⟩, 15) := ⟨⟨by decide +kernel, by decide +kernel⟩, List.mem_of_getElem? (i := 635) (by decide +kernel), List.mem_of_getElem? (i := 770) (by decide +kernel), List.mem_of_getElem? (i := 771) (by decide +kernel)⟩
theorem lw_p22 : lw_okq (⟨"IntervalRoutingModel", "areNear", "(II)Z"⟩, 15) := ⟨⟨by decide +kernel, by decide +kernel⟩, List.mem_of_getElem? (i := 635) (by decide +kernel), List.mem_of_getElem? (i := 777) (by decide +kernel), List.mem_of_getElem? (i := 778) (by decide +kernel)⟩
theorem lw_p23 : lw_okq (⟨"IntervalRoutingModel", "choiceOf", "(II)I"⟩, 15) := ⟨⟨by decide +kernel, by decide +kernel⟩, List.mem_of_getElem? (i := 635) (by decide +kernel), List.mem_of_getElem? (i := 781) (by decide +kernel), List.mem_of_getElem? (i := 782) (by decide +kernel)⟩
theorem lw_p24 : lw_okq (⟨"IntervalRoutingModel", "weight", "(IIIZ)I"⟩, 15) := ⟨⟨by decide +kernel, by decide +kernel⟩, List.mem_of_getElem? (i := 635) (by decide +kernel), List.mem_of_getElem? (i := 785) (by decide +kernel), List.mem_of_getElem? (i := 786) (by decide +kernel)⟩
theorem lw_p25 : lw_okq (⟨"IntervalRoutingModel", "isNew", "(I)Z"⟩, 15) := ⟨⟨by decide +kernel, by decide +kernel⟩, List.mem_of_getElem? (i := 635) (by decide +kernel), List.mem_of_getElem? (i := 789) (by decide +kernel), List.mem_of_getElem? (i := 790) (by decide +kernel)⟩
theorem lw_p26 : lw_okq (⟨"IntervalRoutingModel", "sendsAll", "(I)V"⟩, 15) := ⟨⟨by decide +kernel, by decide +kernel⟩, List.mem_of_getElem? (i := 635) (by decide +kernel), List.mem_of_getElem? (i := 796) (by decide +kernel), List.mem_of_getElem? (i := 797) (by decide +kernel)⟩
theorem lw_p27 : lw_okq (⟨"IntervalRoutingModel", "receives", "(IIIZ)V"⟩, 15) := ⟨⟨by decide +kernel, by decide +kernel⟩, List.mem_of_getElem? (i := 635) (by decide +kernel), List.mem_of_getElem? (i := 800) (by decide +kernel), List.mem_of_getElem? (i := 801) (by decide +kernel)⟩
theorem lw_p28 : lw_okq (⟨"IntervalRoutingModel", "keepsSent", "(I)V"⟩, 15) := ⟨⟨by decide +kernel, by decide +kernel⟩, List.mem_of_getElem? (i := 635) (by decide +kernel), List.mem_of_getElem? (i := 807) (by decide +kernel), List.mem_of_getElem? (i := 808) (by decide +kernel)⟩
theorem lw_p29 : lw_okq (⟨"IntervalRoutingModel", "notes", "(III)V"⟩, 15) := ⟨⟨by decide +kernel, by decide +kernel⟩, List.mem_of_getElem? (i := 635) (by decide +kernel), List.mem_of_getElem? (i := 811) (by decide +kernel), List.mem_of_getElem? (i := 812) (by decide +kernel)⟩
theorem lw_p30 : lw_okq (⟨"IntervalRoutingModel", "isDominated", "(III)Z"⟩, 15) := ⟨⟨by decide +kernel, by decide +kernel⟩, List.mem_of_getElem? (i := 635) (by decide +kernel), List.mem_of_getElem? (i := 827) (by decide +kernel), List.mem_of_getElem? (i := 828) (by decide +kernel)⟩
theorem lw_p31 : lw_okq (⟨"IntervalRoutingModel", "measures", "()V"⟩, 15) := ⟨⟨by decide +kernel, by decide +kernel⟩, List.mem_of_getElem? (i := 635) (by decide +kernel), List.mem_of_getElem? (i := 869) (by decide +kernel), List.mem_of_getElem? (i := 870) (by decide +kernel)⟩
def lw_privs_2 : List (MethodName × Nat) := [(⟨"IntervalRoutingModel", "looks", "()V"⟩, 15), (⟨"IntervalRoutingModel", "boundOf", "(III)I"⟩, 15), (⟨"IntervalRoutingModel", "least", "(IIII)I"⟩, 15), (⟨"IntervalRoutingModel", "isUsable", "(III)Z"⟩, 15), (⟨"IntervalRoutingModel", "isEntry", "(III)Z"⟩, 15), (⟨"IntervalRoutingModel", "of", "(IIII)I"⟩, 15), (⟨"IntervalRoutingModel", "areNear", "(II)Z"⟩, 15), (⟨"IntervalRoutingModel", "choiceOf", "(II)I"⟩, 15), (⟨"IntervalRoutingModel", "weight", "(IIIZ)I"⟩, 15), (⟨"IntervalRoutingModel", "isNew", "(I)Z"⟩, 15), (⟨"IntervalRoutingModel", "sendsAll", "(I)V"⟩, 15), (⟨"IntervalRoutingModel", "receives", "(IIIZ)V"⟩, 15), (⟨"IntervalRoutingModel", "keepsSent", "(I)V"⟩, 15), (⟨"IntervalRoutingModel", "notes", "(III)V"⟩, 15), (⟨"IntervalRoutingModel", "isDominated", "(III)Z"⟩, 15), (⟨"IntervalRoutingModel", "measures", "()V"⟩, 15)]
theorem lw_r2 : ∀ q ∈ lw_privs_2, lw_okq q := List.forall_mem_cons.mpr ⟨lw_p16, List.forall_mem_cons.mpr ⟨lw_p17, List.forall_mem_cons.mpr ⟨lw_p18, List.forall_mem_cons.mpr ⟨lw_p19, List.forall_mem_cons.mpr ⟨lw_p20, List.forall_mem_cons.mpr ⟨lw_p21, List.forall_mem_cons.mpr ⟨lw_p22, List.forall_mem_cons.mpr ⟨lw_p23, List.forall_mem_cons.mpr ⟨lw_p24, List.forall_mem_cons.mpr ⟨lw_p25, List.forall_mem_cons.mpr ⟨lw_p26, List.forall_mem_cons.mpr ⟨lw_p27, List.forall_mem_cons.mpr ⟨lw_p28, List.forall_mem_cons.mpr ⟨lw_p29, List.forall_mem_cons.mpr ⟨lw_p30, List.forall_mem_cons.mpr ⟨lw_p31, fun _ h => absurd h List.not_mem_nil⟩⟩⟩⟩⟩⟩⟩⟩⟩⟩⟩⟩⟩⟩⟩⟩
theorem lw_p32 : lw_okq (⟨"IntervalRoutingModel", "follows", "(II)I"⟩, 15) := ⟨⟨by decide +kernel, by decide +kernel⟩, List.mem_of_getElem? (i := 635) (by decide +kernel), List.mem_of_getElem? (i := 881) (by decide +kernel), List.mem_of_getElem? (i := 882) (by decide +kernel)⟩
theorem lw_p33 : lw_okq (⟨"IntervalRoutingModel", "putsAside", "()V"⟩, 15) := ⟨⟨by decide +kernel, by decide +kernel⟩, List.mem_of_getElem? (i := 635) (by decide +kernel), List.mem_of_getElem? (i := 893) (by decide +kernel), List.mem_of_getElem? (i := 894) (by decide +kernel)⟩
theorem lw_p34 : lw_okq (⟨"IntervalRoutingModel", "putsBack", "()V"⟩, 15) := ⟨⟨by decide +kernel, by decide +kernel⟩, List.mem_of_getElem? (i := 635) (by decide +kernel), List.mem_of_getElem? (i := 897) (by decide +kernel), List.mem_of_getElem? (i := 898) (by decide +kernel)⟩
theorem lw_p35 : lw_okq (⟨"IntervalRoutingModel", "pairs", "()I"⟩, 15) := ⟨⟨by decide +kernel, by decide +kernel⟩, List.mem_of_getElem? (i := 635) (by decide +kernel), List.mem_of_getElem? (i := 905) (by decide +kernel), List.mem_of_getElem? (i := 906) (by decide +kernel)⟩
def lw_privs_3 : List (MethodName × Nat) := [(⟨"IntervalRoutingModel", "follows", "(II)I"⟩, 15), (⟨"IntervalRoutingModel", "putsAside", "()V"⟩, 15), (⟨"IntervalRoutingModel", "putsBack", "()V"⟩, 15), (⟨"IntervalRoutingModel", "pairs", "()I"⟩, 15)]
theorem lw_r3 : ∀ q ∈ lw_privs_3, lw_okq q := List.forall_mem_cons.mpr ⟨lw_p32, List.forall_mem_cons.mpr ⟨lw_p33, List.forall_mem_cons.mpr ⟨lw_p34, List.forall_mem_cons.mpr ⟨lw_p35, fun _ h => absurd h List.not_mem_nil⟩⟩⟩⟩
def lw_privs : List (MethodName × Nat) := lw_privs_1 ++ (lw_privs_2 ++ (lw_privs_3))
def lw_tbl : List Cond := k2_sels lw_privs ++ tables_1
theorem lw_privs_ok : ∀ q ∈ lw_privs, lw_okq q := by
  show ∀ q ∈ lw_privs_1 ++ (lw_privs_2 ++ (lw_privs_3)), lw_okq q
  exact List.forall_mem_append.mpr ⟨lw_r1, List.forall_mem_append.mpr ⟨lw_r2, lw_r3⟩⟩
/-- the streams that the claim lets the run draw from -/
abbrev lw_cs : List Choice := [Jvm.Choice.named "NaN.bits"]
theorem lw_bits : nanBits ∈ lw_cs := by first | decide | exact List.mem_cons_self | simp [lw_cs, nanBits]
end
section
/-! names: printed by wip/whole/names.py out of the claim's NAMES.whole.lean.txt: class tables, methods, decode rows, the tables' words by their places -/
abbrev mi_T : Type := MethodName × ByteArray × Nat × Option FieldType × Nat × Nat
def dc_at (y : mi_T) (pc : Nat) (i : Instr) (n : Nat) : Prop := decode y.2.1 pc = .ok (i, n)
def gd_T (w : Cond) : Prop := w ∈ lw_tbl ∧ goodWord w = true
def RX0 : String := "IntervalRouting$Journal"
def TX0 : u_T := fun k => match k with
  | 0 => ("IntervalRouting$Journal", "rows", "[I", true)
  | _ => ("IntervalRouting$Journal", "added", "I", false)
def tyX0 : Nat → FieldType := fun k => match k with
  | 0 => .array .int
  | _ => .int
theorem nmX0 : ∀ a, a < 2 → ∀ b, b < 2 → a ≠ b → (TX0 a).2.1 ≠ (TX0 b).2.1 := by decide +kernel
theorem tyX0_ok : ∀ k, k < 2 → parseFieldDescriptor (TX0 k).2.2.1 = some (tyX0 k) := by decide +kernel
abbrev cX0_init : ByteArray := prog_2_method_1_code
def yX0_init : MethodName := ⟨RX0, "<init>", "()V"⟩
abbrev cX0_size : ByteArray := prog_2_method_2_code
def yX0_size : MethodName := ⟨RX0, "size", "()I"⟩
abbrev cX0_add : ByteArray := prog_2_method_3_code
def yX0_add : MethodName := ⟨RX0, "add", "(IIII)V"⟩
abbrev cX0_value : ByteArray := prog_2_method_4_code
def yX0_value : MethodName := ⟨RX0, "value", "(II)I"⟩
abbrev cX0_clear : ByteArray := prog_2_method_5_code
def yX0_clear : MethodName := ⟨RX0, "clear", "()V"⟩
abbrev cX0_copyFrom : ByteArray := prog_2_method_6_code
def yX0_copyFrom : MethodName := ⟨RX0, "copyFrom", "(LIntervalRouting$Journal;)V"⟩
def RX1 : String := "IntervalRouting$Links"
def TX1 : u_T := fun k => match k with
  | 0 => ("IntervalRouting$Links", "count", "I", false)
  | 1 => ("IntervalRouting$Links", "lower", "[I", true)
  | 2 => ("IntervalRouting$Links", "upper", "[I", true)
  | 3 => ("IntervalRouting$Links", "cost", "[I", true)
  | _ => ("IntervalRouting$Links", "up", "[I", true)
def tyX1 : Nat → FieldType := fun k => match k with
  | 0 => .int
  | 1 => .array .int
  | 2 => .array .int
  | 3 => .array .int
  | _ => .array .int
theorem nmX1 : ∀ a, a < 5 → ∀ b, b < 5 → a ≠ b → (TX1 a).2.1 ≠ (TX1 b).2.1 := by decide +kernel
theorem tyX1_ok : ∀ k, k < 5 → parseFieldDescriptor (TX1 k).2.2.1 = some (tyX1 k) := by decide +kernel
abbrev cX1_init : ByteArray := prog_3_method_1_code
def yX1_init : MethodName := ⟨RX1, "<init>", "()V"⟩
abbrev cX1_joins : ByteArray := prog_3_method_2_code
def yX1_joins : MethodName := ⟨RX1, "joins", "(II)Z"⟩
abbrev cX1_isUp : ByteArray := prog_3_method_3_code
def yX1_isUp : MethodName := ⟨RX1, "isUp", "(II)Z"⟩
abbrev cX1_insert : ByteArray := prog_3_method_4_code
def yX1_insert : MethodName := ⟨RX1, "insert", "(IIII)V"⟩
abbrev cX1_delete : ByteArray := prog_3_method_5_code
def yX1_delete : MethodName := ⟨RX1, "delete", "(II)V"⟩
abbrev cX1_putBounds : ByteArray := prog_3_method_6_code
def yX1_putBounds : MethodName := ⟨RX1, "putBounds", "(IIII)V"⟩
abbrev cX1_putCost : ByteArray := prog_3_method_7_code
def yX1_putCost : MethodName := ⟨RX1, "putCost", "(III)V"⟩
abbrev cX1_putUp : ByteArray := prog_3_method_8_code
def yX1_putUp : MethodName := ⟨RX1, "putUp", "(III)V"⟩
abbrev cX1_clear : ByteArray := prog_3_method_9_code
def yX1_clear : MethodName := ⟨RX1, "clear", "()V"⟩
abbrev cX1_copyFrom : ByteArray := prog_3_method_10_code
def yX1_copyFrom : MethodName := ⟨RX1, "copyFrom", "(LIntervalRouting$Links;)V"⟩
def RX2 : String := "IntervalRouting$State"
def TX2 : u_T := fun k => match k with
  | 0 => ("IntervalRouting$State", "nodes", "I", false)
  | 1 => ("IntervalRouting$State", "tick", "I", false)
  | 2 => ("IntervalRouting$State", "sent", "I", false)
  | 3 => ("IntervalRouting$State", "links", "LIntervalRouting$Links;", true)
  | 4 => ("IntervalRouting$State", "tables", "LIntervalRouting$Tables;", true)
  | 5 => ("IntervalRouting$State", "vectors", "LIntervalRouting$Vectors;", true)
  | 6 => ("IntervalRouting$State", "journal", "LIntervalRouting$Journal;", true)
  | _ => ("IntervalRouting$State", "lastChosen", "[I", true)
def tyX2 : Nat → FieldType := fun k => match k with
  | 0 => .int
  | 1 => .int
  | 2 => .int
  | 3 => .object "IntervalRouting$Links"
  | 4 => .object "IntervalRouting$Tables"
  | 5 => .object "IntervalRouting$Vectors"
  | 6 => .object "IntervalRouting$Journal"
  | _ => .array .int
theorem nmX2 : ∀ a, a < 8 → ∀ b, b < 8 → a ≠ b → (TX2 a).2.1 ≠ (TX2 b).2.1 := by decide +kernel
theorem tyX2_ok : ∀ k, k < 8 → parseFieldDescriptor (TX2 k).2.2.1 = some (tyX2 k) := by decide +kernel
abbrev cX2_init : ByteArray := prog_4_method_1_code
def yX2_init : MethodName := ⟨RX2, "<init>", "()V"⟩
abbrev cX2_startAnew : ByteArray := prog_4_method_2_code
def yX2_startAnew : MethodName := ⟨RX2, "startAnew", "(I)V"⟩
abbrev cX2_copyFrom : ByteArray := prog_4_method_3_code
def yX2_copyFrom : MethodName := ⟨RX2, "copyFrom", "(LIntervalRouting$State;)V"⟩
abbrev cX2_isUsable : ByteArray := prog_4_method_4_code
def yX2_isUsable : MethodName := ⟨RX2, "isUsable", "(IIII)Z"⟩
abbrev cX2_isDominated : ByteArray := prog_4_method_5_code
def yX2_isDominated : MethodName := ⟨RX2, "isDominated", "(IIII)Z"⟩
def RX3 : String := "IntervalRouting$Survey"
def TX3 : u_T := fun k => match k with
  | 0 => ("IntervalRouting$Survey", "lower", "[I", true)
  | 1 => ("IntervalRouting$Survey", "upper", "[I", true)
  | 2 => ("IntervalRouting$Survey", "chosen", "[I", true)
  | 3 => ("IntervalRouting$Survey", "neighbours", "[I", true)
  | 4 => ("IntervalRouting$Survey", "near", "I", false)
  | 5 => ("IntervalRouting$Survey", "senders", "[I", true)
  | 6 => ("IntervalRouting$Survey", "lowers", "[I", true)
  | 7 => ("IntervalRouting$Survey", "uppers", "[I", true)
  | 8 => ("IntervalRouting$Survey", "ranks", "[I", true)
  | 9 => ("IntervalRouting$Survey", "secondRanks", "[I", true)
  | _ => ("IntervalRouting$Survey", "usable", "I", false)
def tyX3 : Nat → FieldType := fun k => match k with
  | 0 => .array .int
  | 1 => .array .int
  | 2 => .array .int
  | 3 => .array .int
  | 4 => .int
  | 5 => .array .int
  | 6 => .array .int
  | 7 => .array .int
  | 8 => .array .int
  | 9 => .array .int
  | _ => .int
theorem nmX3 : ∀ a, a < 11 → ∀ b, b < 11 → a ≠ b → (TX3 a).2.1 ≠ (TX3 b).2.1 := by decide +kernel
theorem tyX3_ok : ∀ k, k < 11 → parseFieldDescriptor (TX3 k).2.2.1 = some (tyX3 k) := by decide +kernel
abbrev cX3_init : ByteArray := prog_5_method_1_code
def yX3_init : MethodName := ⟨RX3, "<init>", "()V"⟩
abbrev cX3_reaches : ByteArray := prog_5_method_2_code
def yX3_reaches : MethodName := ⟨RX3, "reaches", "(I)Z"⟩
abbrev cX3_take : ByteArray := prog_5_method_3_code
def yX3_take : MethodName := ⟨RX3, "take", "(LIntervalRouting$State;[I)V"⟩
abbrev cX3_takeOne : ByteArray := prog_5_method_4_code
def yX3_takeOne : MethodName := ⟨RX3, "takeOne", "(LIntervalRouting$State;[III)V"⟩
abbrev cX3_findNeighbours : ByteArray := prog_5_method_5_code
def yX3_findNeighbours : MethodName := ⟨RX3, "findNeighbours", "(LIntervalRouting$State;I)V"⟩
abbrev cX3_look : ByteArray := prog_5_method_6_code
def yX3_look : MethodName := ⟨RX3, "look", "(LIntervalRouting$State;[III)V"⟩
abbrev cX3_gather : ByteArray := prog_5_method_7_code
def yX3_gather : MethodName := ⟨RX3, "gather", "(LIntervalRouting$State;III)V"⟩
abbrev cX3_putDistance : ByteArray := prog_5_method_8_code
def yX3_putDistance : MethodName := ⟨RX3, "putDistance", "(IZ)V"⟩
abbrev cX3_rankAll : ByteArray := prog_5_method_9_code
def yX3_rankAll : MethodName := ⟨RX3, "rankAll", "(I)V"⟩
abbrev cX3_choose : ByteArray := prog_5_method_10_code
def yX3_choose : MethodName := ⟨RX3, "choose", "()I"⟩
abbrev cX3_isBetter : ByteArray := prog_5_method_11_code
def yX3_isBetter : MethodName := ⟨RX3, "isBetter", "(II)Z"⟩
abbrev cX3_regret : ByteArray := prog_5_method_12_code
def yX3_regret : MethodName := ⟨RX3, "regret", "(I)I"⟩
abbrev cX3_walk : ByteArray := prog_5_method_13_code
def yX3_walk : MethodName := ⟨RX3, "walk", "(II)I"⟩
abbrev cX3_countLoops : ByteArray := prog_5_method_14_code
def yX3_countLoops : MethodName := ⟨RX3, "countLoops", "(I)I"⟩
def RX4 : String := "IntervalRouting$Tables"
def TX4 : u_T := fun k => match k with
  | 0 => ("IntervalRouting$Tables", "lower", "[I", true)
  | 1 => ("IntervalRouting$Tables", "upper", "[I", true)
  | 2 => ("IntervalRouting$Tables", "expiry", "[I", true)
  | 3 => ("IntervalRouting$Tables", "growth", "[I", true)
  | _ => ("IntervalRouting$Tables", "heldUpTo", "[I", true)
def tyX4 : Nat → FieldType := fun k => match k with
  | 0 => .array .int
  | 1 => .array .int
  | 2 => .array .int
  | 3 => .array .int
  | _ => .array .int
theorem nmX4 : ∀ a, a < 5 → ∀ b, b < 5 → a ≠ b → (TX4 a).2.1 ≠ (TX4 b).2.1 := by decide +kernel
theorem tyX4_ok : ∀ k, k < 5 → parseFieldDescriptor (TX4 k).2.2.1 = some (tyX4 k) := by decide +kernel
abbrev cX4_init : ByteArray := prog_6_method_1_code
def yX4_init : MethodName := ⟨RX4, "<init>", "()V"⟩
abbrev cX4_has : ByteArray := prog_6_method_2_code
def yX4_has : MethodName := ⟨RX4, "has", "(I)Z"⟩
abbrev cX4_isOpen : ByteArray := prog_6_method_3_code
def yX4_isOpen : MethodName := ⟨RX4, "isOpen", "(III)Z"⟩
abbrev cX4_dominates : ByteArray := prog_6_method_4_code
def yX4_dominates : MethodName := ⟨RX4, "dominates", "(II)Z"⟩
abbrev cX4_receive : ByteArray := prog_6_method_5_code
def yX4_receive : MethodName := ⟨RX4, "receive", "(IIII[I)V"⟩
abbrev cX4_countGrowth : ByteArray := prog_6_method_6_code
def yX4_countGrowth : MethodName := ⟨RX4, "countGrowth", "(II)V"⟩
abbrev cX4_clear : ByteArray := prog_6_method_7_code
def yX4_clear : MethodName := ⟨RX4, "clear", "()V"⟩
abbrev cX4_copyFrom : ByteArray := prog_6_method_8_code
def yX4_copyFrom : MethodName := ⟨RX4, "copyFrom", "(LIntervalRouting$Tables;)V"⟩
def RX5 : String := "IntervalRouting$Vectors"
def TX5 : u_T := fun k => match k with
  | 0 => ("IntervalRouting$Vectors", "lower", "[I", true)
  | _ => ("IntervalRouting$Vectors", "upper", "[I", true)
def tyX5 : Nat → FieldType := fun k => match k with
  | 0 => .array .int
  | _ => .array .int
theorem nmX5 : ∀ a, a < 2 → ∀ b, b < 2 → a ≠ b → (TX5 a).2.1 ≠ (TX5 b).2.1 := by decide +kernel
theorem tyX5_ok : ∀ k, k < 2 → parseFieldDescriptor (TX5 k).2.2.1 = some (tyX5 k) := by decide +kernel
abbrev cX5_init : ByteArray := prog_7_method_1_code
def yX5_init : MethodName := ⟨RX5, "<init>", "()V"⟩
abbrev cX5_differs : ByteArray := prog_7_method_2_code
def yX5_differs : MethodName := ⟨RX5, "differs", "(IILIntervalRouting$Survey;)Z"⟩
abbrev cX5_keep : ByteArray := prog_7_method_3_code
def yX5_keep : MethodName := ⟨RX5, "keep", "(IILIntervalRouting$Survey;)V"⟩
abbrev cX5_clear : ByteArray := prog_7_method_4_code
def yX5_clear : MethodName := ⟨RX5, "clear", "()V"⟩
abbrev cX5_copyFrom : ByteArray := prog_7_method_5_code
def yX5_copyFrom : MethodName := ⟨RX5, "copyFrom", "(LIntervalRouting$Vectors;)V"⟩
def RX6 : String := "IntervalRouting$Ways"
def TX6 : u_T := fun k => match k with
  | _ => ("IntervalRouting$Ways", "length", "[I", true)
def tyX6 : Nat → FieldType := fun k => match k with
  | _ => .array .int
theorem nmX6 : ∀ a, a < 1 → ∀ b, b < 1 → a ≠ b → (TX6 a).2.1 ≠ (TX6 b).2.1 := by decide +kernel
theorem tyX6_ok : ∀ k, k < 1 → parseFieldDescriptor (TX6 k).2.2.1 = some (tyX6 k) := by decide +kernel
abbrev cX6_init : ByteArray := prog_8_method_1_code
def yX6_init : MethodName := ⟨RX6, "<init>", "()V"⟩
abbrev cX6_exists : ByteArray := prog_8_method_2_code
def yX6_exists : MethodName := ⟨RX6, "exists", "(I)Z"⟩
abbrev cX6_measure : ByteArray := prog_8_method_3_code
def yX6_measure : MethodName := ⟨RX6, "measure", "(LIntervalRouting$Links;I)V"⟩
abbrev cX6_shorten : ByteArray := prog_8_method_4_code
def yX6_shorten : MethodName := ⟨RX6, "shorten", "(II)V"⟩
abbrev cX6_countPairs : ByteArray := prog_8_method_5_code
def yX6_countPairs : MethodName := ⟨RX6, "countPairs", "(I)I"⟩
def RX7 : String := "IntervalRouting"
def TX7 : u_T := fun k => match k with
  | 0 => ("IntervalRouting", "settings", "[I", true)
  | 1 => ("IntervalRouting", "live", "LIntervalRouting$State;", true)
  | 2 => ("IntervalRouting", "stored", "LIntervalRouting$State;", true)
  | 3 => ("IntervalRouting", "trial", "LIntervalRouting$State;", true)
  | 4 => ("IntervalRouting", "survey", "LIntervalRouting$Survey;", true)
  | 5 => ("IntervalRouting", "ways", "LIntervalRouting$Ways;", true)
  | 6 => ("IntervalRouting", "speaking", "[Z", true)
  | _ => ("IntervalRouting", "isStored", "Z", false)
def tyX7 : Nat → FieldType := fun k => match k with
  | 0 => .array .int
  | 1 => .object "IntervalRouting$State"
  | 2 => .object "IntervalRouting$State"
  | 3 => .object "IntervalRouting$State"
  | 4 => .object "IntervalRouting$Survey"
  | 5 => .object "IntervalRouting$Ways"
  | 6 => .array .boolean
  | _ => .boolean
theorem nmX7 : ∀ a, a < 8 → ∀ b, b < 8 → a ≠ b → (TX7 a).2.1 ≠ (TX7 b).2.1 := by decide +kernel
theorem tyX7_ok : ∀ k, k < 8 → parseFieldDescriptor (TX7 k).2.2.1 = some (tyX7 k) := by decide +kernel
abbrev cX7_init : ByteArray := prog_1_method_1_code
def yX7_init : MethodName := ⟨RX7, "<init>", "()V"⟩
abbrev cX7_reset : ByteArray := prog_1_method_2_code
def yX7_reset : MethodName := ⟨RX7, "reset", "(I)I"⟩
abbrev cX7_addLink : ByteArray := prog_1_method_3_code
def yX7_addLink : MethodName := ⟨RX7, "addLink", "(IIII)I"⟩
abbrev cX7_removeLink : ByteArray := prog_1_method_4_code
def yX7_removeLink : MethodName := ⟨RX7, "removeLink", "(II)I"⟩
abbrev cX7_setCost : ByteArray := prog_1_method_5_code
def yX7_setCost : MethodName := ⟨RX7, "setCost", "(III)I"⟩
abbrev cX7_setUp : ByteArray := prog_1_method_6_code
def yX7_setUp : MethodName := ⟨RX7, "setUp", "(III)I"⟩
abbrev cX7_link : ByteArray := prog_1_method_7_code
def yX7_link : MethodName := ⟨RX7, "link", "(III)I"⟩
abbrev cX7_set : ByteArray := prog_1_method_8_code
def yX7_set : MethodName := ⟨RX7, "set", "(II)I"⟩
abbrev cX7_run : ByteArray := prog_1_method_9_code
def yX7_run : MethodName := ⟨RX7, "run", "(I)I"⟩
abbrev cX7_time : ByteArray := prog_1_method_10_code
def yX7_time : MethodName := ⟨RX7, "time", "()I"⟩
abbrev cX7_sent : ByteArray := prog_1_method_11_code
def yX7_sent : MethodName := ⟨RX7, "sent", "()I"⟩
abbrev cX7_entry : ByteArray := prog_1_method_12_code
def yX7_entry : MethodName := ⟨RX7, "entry", "(IIII)I"⟩
abbrev cX7_distance : ByteArray := prog_1_method_13_code
def yX7_distance : MethodName := ⟨RX7, "distance", "(III)I"⟩
abbrev cX7_choice : ByteArray := prog_1_method_14_code
def yX7_choice : MethodName := ⟨RX7, "choice", "(II)I"⟩
abbrev cX7_entries : ByteArray := prog_1_method_15_code
def yX7_entries : MethodName := ⟨RX7, "entries", "(III)I"⟩
abbrev cX7_meanWidthBits : ByteArray := prog_1_method_16_code
def yX7_meanWidthBits : MethodName := ⟨RX7, "meanWidthBits", "()I"⟩
abbrev cX7_journalSize : ByteArray := prog_1_method_17_code
def yX7_journalSize : MethodName := ⟨RX7, "journalSize", "()I"⟩
abbrev cX7_journal : ByteArray := prog_1_method_18_code
def yX7_journal : MethodName := ⟨RX7, "journal", "(II)I"⟩
abbrev cX7_trueDistance : ByteArray := prog_1_method_19_code
def yX7_trueDistance : MethodName := ⟨RX7, "trueDistance", "(II)I"⟩
abbrev cX7_wrongPairs : ByteArray := prog_1_method_20_code
def yX7_wrongPairs : MethodName := ⟨RX7, "wrongPairs", "()I"⟩
abbrev cX7_follow : ByteArray := prog_1_method_21_code
def yX7_follow : MethodName := ⟨RX7, "follow", "(II)I"⟩
abbrev cX7_loops : ByteArray := prog_1_method_22_code
def yX7_loops : MethodName := ⟨RX7, "loops", "()I"⟩
abbrev cX7_settling : ByteArray := prog_1_method_23_code
def yX7_settling : MethodName := ⟨RX7, "settling", "()I"⟩
abbrev cX7_loss : ByteArray := prog_1_method_24_code
def yX7_loss : MethodName := ⟨RX7, "loss", "(II)I"⟩
abbrev cX7_recovery : ByteArray := prog_1_method_25_code
def yX7_recovery : MethodName := ⟨RX7, "recovery", "(II)I"⟩
abbrev cX7_store : ByteArray := prog_1_method_26_code
def yX7_store : MethodName := ⟨RX7, "store", "()I"⟩
abbrev cX7_recall : ByteArray := prog_1_method_27_code
def yX7_recall : MethodName := ⟨RX7, "recall", "()I"⟩
abbrev cX7_isNode : ByteArray := prog_1_method_28_code
def yX7_isNode : MethodName := ⟨RX7, "isNode", "(I)Z"⟩
abbrev cX7_isPair : ByteArray := prog_1_method_29_code
def yX7_isPair : MethodName := ⟨RX7, "isPair", "(II)Z"⟩
abbrev cX7_isBetween : ByteArray := prog_1_method_30_code
def yX7_isBetween : MethodName := ⟨RX7, "isBetween", "(III)Z"⟩
abbrev cX7_isSetting : ByteArray := prog_1_method_31_code
def yX7_isSetting : MethodName := ⟨RX7, "isSetting", "(I)Z"⟩
abbrev cX7_asNumber : ByteArray := prog_1_method_32_code
def yX7_asNumber : MethodName := ⟨RX7, "asNumber", "(Z)I"⟩
abbrev cX7_pair : ByteArray := prog_1_method_33_code
def yX7_pair : MethodName := ⟨RX7, "pair", "(II)I"⟩
abbrev cX7_slot : ByteArray := prog_1_method_34_code
def yX7_slot : MethodName := ⟨RX7, "slot", "(III)I"⟩
abbrev cX7_counts : ByteArray := prog_1_method_35_code
def yX7_counts : MethodName := ⟨RX7, "counts", "(IIII)Z"⟩
abbrev cX7_isWrong : ByteArray := prog_1_method_36_code
def yX7_isWrong : MethodName := ⟨RX7, "isWrong", "(I)Z"⟩
abbrev cX7_bitsOf : ByteArray := prog_1_method_37_code
def yX7_bitsOf : MethodName := ⟨RX7, "bitsOf", "(F)I"⟩
abbrev cX7_makeTick : ByteArray := prog_1_method_38_code
def yX7_makeTick : MethodName := ⟨RX7, "makeTick", "(LIntervalRouting$State;)I"⟩
abbrev cX7_chooseSpeakers : ByteArray := prog_1_method_39_code
def yX7_chooseSpeakers : MethodName := ⟨RX7, "chooseSpeakers", "(LIntervalRouting$State;)V"⟩
abbrev cX7_isDue : ByteArray := prog_1_method_40_code
def yX7_isDue : MethodName := ⟨RX7, "isDue", "(LIntervalRouting$State;I)Z"⟩
abbrev cX7_speak : ByteArray := prog_1_method_41_code
def yX7_speak : MethodName := ⟨RX7, "speak", "(LIntervalRouting$State;I)V"⟩
abbrev cX7_announce : ByteArray := prog_1_method_42_code
def yX7_announce : MethodName := ⟨RX7, "announce", "(LIntervalRouting$State;III)V"⟩
abbrev cX7_noteChanges : ByteArray := prog_1_method_43_code
def yX7_noteChanges : MethodName := ⟨RX7, "noteChanges", "(LIntervalRouting$State;)I"⟩
def RX8 : String := "IntervalRoutingModel"
def TX8 : u_T := fun k => match k with
  | 0 => ("IntervalRoutingModel", "n", "I", false)
  | 1 => ("IntervalRoutingModel", "now", "[I", true)
  | 2 => ("IntervalRoutingModel", "aside", "[I", true)
  | 3 => ("IntervalRoutingModel", "stored", "[I", true)
  | 4 => ("IntervalRoutingModel", "isStored", "Z", false)
  | 5 => ("IntervalRoutingModel", "settings", "[I", true)
  | 6 => ("IntervalRoutingModel", "low", "[I", true)
  | 7 => ("IntervalRoutingModel", "high", "[I", true)
  | 8 => ("IntervalRoutingModel", "lowers", "[I", true)
  | 9 => ("IntervalRoutingModel", "uppers", "[I", true)
  | 10 => ("IntervalRoutingModel", "picks", "[I", true)
  | 11 => ("IntervalRoutingModel", "sends", "[Z", true)
  | 12 => ("IntervalRoutingModel", "ways", "[I", true)
  | 13 => ("IntervalRoutingModel", "changed", "[Z", true)
  | _ => ("IntervalRoutingModel", "changes", "I", false)
def tyX8 : Nat → FieldType := fun k => match k with
  | 0 => .int
  | 1 => .array .int
  | 2 => .array .int
  | 3 => .array .int
  | 4 => .boolean
  | 5 => .array .int
  | 6 => .array .int
  | 7 => .array .int
  | 8 => .array .int
  | 9 => .array .int
  | 10 => .array .int
  | 11 => .array .boolean
  | 12 => .array .int
  | 13 => .array .boolean
  | _ => .int
theorem nmX8 : ∀ a, a < 15 → ∀ b, b < 15 → a ≠ b → (TX8 a).2.1 ≠ (TX8 b).2.1 := by decide +kernel
theorem tyX8_ok : ∀ k, k < 15 → parseFieldDescriptor (TX8 k).2.2.1 = some (tyX8 k) := by decide +kernel
abbrev cX8_init : ByteArray := prog_10_method_1_code
def yX8_init : MethodName := ⟨RX8, "<init>", "()V"⟩
abbrev cX8_begins : ByteArray := prog_10_method_2_code
def yX8_begins : MethodName := ⟨RX8, "begins", "()V"⟩
abbrev cX8_in : ByteArray := prog_10_method_3_code
def yX8_in : MethodName := ⟨RX8, "in", "(III)Z"⟩
abbrev cX8_isNode : ByteArray := prog_10_method_4_code
def yX8_isNode : MethodName := ⟨RX8, "isNode", "(I)Z"⟩
abbrev cX8_arePair : ByteArray := prog_10_method_5_code
def yX8_arePair : MethodName := ⟨RX8, "arePair", "(II)Z"⟩
abbrev cX8_linkAt : ByteArray := prog_10_method_6_code
def yX8_linkAt : MethodName := ⟨RX8, "linkAt", "(III)I"⟩
abbrev cX8_entryAt : ByteArray := prog_10_method_7_code
def yX8_entryAt : MethodName := ⟨RX8, "entryAt", "(IIII)I"⟩
abbrev cX8_isLink : ByteArray := prog_10_method_8_code
def yX8_isLink : MethodName := ⟨RX8, "isLink", "(II)Z"⟩
abbrev cX8_areNear : ByteArray := prog_10_method_9_code
def yX8_areNear : MethodName := ⟨RX8, "areNear", "(II)Z"⟩
abbrev cX8_sets : ByteArray := prog_10_method_10_code
def yX8_sets : MethodName := ⟨RX8, "sets", "(IIII)V"⟩
abbrev cX8_reset : ByteArray := prog_10_method_11_code
def yX8_reset : MethodName := ⟨RX8, "reset", "(I)I"⟩
abbrev cX8_addLink : ByteArray := prog_10_method_12_code
def yX8_addLink : MethodName := ⟨RX8, "addLink", "(IIII)I"⟩
abbrev cX8_removeLink : ByteArray := prog_10_method_13_code
def yX8_removeLink : MethodName := ⟨RX8, "removeLink", "(II)I"⟩
abbrev cX8_setCost : ByteArray := prog_10_method_14_code
def yX8_setCost : MethodName := ⟨RX8, "setCost", "(III)I"⟩
abbrev cX8_setUp : ByteArray := prog_10_method_15_code
def yX8_setUp : MethodName := ⟨RX8, "setUp", "(III)I"⟩
abbrev cX8_link : ByteArray := prog_10_method_16_code
def yX8_link : MethodName := ⟨RX8, "link", "(III)I"⟩
abbrev cX8_set : ByteArray := prog_10_method_17_code
def yX8_set : MethodName := ⟨RX8, "set", "(II)I"⟩
abbrev cX8_of : ByteArray := prog_10_method_18_code
def yX8_of : MethodName := ⟨RX8, "of", "(IIII)I"⟩
abbrev cX8_isEntry : ByteArray := prog_10_method_19_code
def yX8_isEntry : MethodName := ⟨RX8, "isEntry", "(III)Z"⟩
abbrev cX8_isUsable : ByteArray := prog_10_method_20_code
def yX8_isUsable : MethodName := ⟨RX8, "isUsable", "(III)Z"⟩
abbrev cX8_least : ByteArray := prog_10_method_21_code
def yX8_least : MethodName := ⟨RX8, "least", "(IIII)I"⟩
abbrev cX8_boundOf : ByteArray := prog_10_method_22_code
def yX8_boundOf : MethodName := ⟨RX8, "boundOf", "(III)I"⟩
abbrev cX8_weight : ByteArray := prog_10_method_23_code
def yX8_weight : MethodName := ⟨RX8, "weight", "(IIIZ)I"⟩
abbrev cX8_choiceOf : ByteArray := prog_10_method_24_code
def yX8_choiceOf : MethodName := ⟨RX8, "choiceOf", "(II)I"⟩
abbrev cX8_isDominated : ByteArray := prog_10_method_25_code
def yX8_isDominated : MethodName := ⟨RX8, "isDominated", "(III)Z"⟩
abbrev cX8_looks : ByteArray := prog_10_method_26_code
def yX8_looks : MethodName := ⟨RX8, "looks", "()V"⟩
abbrev cX8_sentAt : ByteArray := prog_10_method_27_code
def yX8_sentAt : MethodName := ⟨RX8, "sentAt", "(II)I"⟩
abbrev cX8_isNew : ByteArray := prog_10_method_28_code
def yX8_isNew : MethodName := ⟨RX8, "isNew", "(I)Z"⟩
abbrev cX8_keepsSent : ByteArray := prog_10_method_29_code
def yX8_keepsSent : MethodName := ⟨RX8, "keepsSent", "(I)V"⟩
abbrev cX8_limited : ByteArray := prog_10_method_30_code
def yX8_limited : MethodName := ⟨RX8, "limited", "(II)I"⟩
abbrev cX8_receives : ByteArray := prog_10_method_31_code
def yX8_receives : MethodName := ⟨RX8, "receives", "(IIIZ)V"⟩
abbrev cX8_sendsAll : ByteArray := prog_10_method_32_code
def yX8_sendsAll : MethodName := ⟨RX8, "sendsAll", "(I)V"⟩
abbrev cX8_notes : ByteArray := prog_10_method_33_code
def yX8_notes : MethodName := ⟨RX8, "notes", "(III)V"⟩
abbrev cX8_tick : ByteArray := prog_10_method_34_code
def yX8_tick : MethodName := ⟨RX8, "tick", "()V"⟩
abbrev cX8_run : ByteArray := prog_10_method_35_code
def yX8_run : MethodName := ⟨RX8, "run", "(I)I"⟩
abbrev cX8_time : ByteArray := prog_10_method_36_code
def yX8_time : MethodName := ⟨RX8, "time", "()I"⟩
abbrev cX8_sent : ByteArray := prog_10_method_37_code
def yX8_sent : MethodName := ⟨RX8, "sent", "()I"⟩
abbrev cX8_entry : ByteArray := prog_10_method_38_code
def yX8_entry : MethodName := ⟨RX8, "entry", "(IIII)I"⟩
abbrev cX8_distance : ByteArray := prog_10_method_39_code
def yX8_distance : MethodName := ⟨RX8, "distance", "(III)I"⟩
abbrev cX8_choice : ByteArray := prog_10_method_40_code
def yX8_choice : MethodName := ⟨RX8, "choice", "(II)I"⟩
abbrev cX8_entries : ByteArray := prog_10_method_41_code
def yX8_entries : MethodName := ⟨RX8, "entries", "(III)I"⟩
abbrev cX8_meanWidthBits : ByteArray := prog_10_method_42_code
def yX8_meanWidthBits : MethodName := ⟨RX8, "meanWidthBits", "()I"⟩
abbrev cX8_journalSize : ByteArray := prog_10_method_43_code
def yX8_journalSize : MethodName := ⟨RX8, "journalSize", "()I"⟩
abbrev cX8_journal : ByteArray := prog_10_method_44_code
def yX8_journal : MethodName := ⟨RX8, "journal", "(II)I"⟩
abbrev cX8_measures : ByteArray := prog_10_method_45_code
def yX8_measures : MethodName := ⟨RX8, "measures", "()V"⟩
abbrev cX8_trueDistance : ByteArray := prog_10_method_46_code
def yX8_trueDistance : MethodName := ⟨RX8, "trueDistance", "(II)I"⟩
abbrev cX8_wrongPairs : ByteArray := prog_10_method_47_code
def yX8_wrongPairs : MethodName := ⟨RX8, "wrongPairs", "()I"⟩
abbrev cX8_follows : ByteArray := prog_10_method_48_code
def yX8_follows : MethodName := ⟨RX8, "follows", "(II)I"⟩
abbrev cX8_follow : ByteArray := prog_10_method_49_code
def yX8_follow : MethodName := ⟨RX8, "follow", "(II)I"⟩
abbrev cX8_loops : ByteArray := prog_10_method_50_code
def yX8_loops : MethodName := ⟨RX8, "loops", "()I"⟩
abbrev cX8_putsAside : ByteArray := prog_10_method_51_code
def yX8_putsAside : MethodName := ⟨RX8, "putsAside", "()V"⟩
abbrev cX8_putsBack : ByteArray := prog_10_method_52_code
def yX8_putsBack : MethodName := ⟨RX8, "putsBack", "()V"⟩
abbrev cX8_settling : ByteArray := prog_10_method_53_code
def yX8_settling : MethodName := ⟨RX8, "settling", "()I"⟩
abbrev cX8_pairs : ByteArray := prog_10_method_54_code
def yX8_pairs : MethodName := ⟨RX8, "pairs", "()I"⟩
abbrev cX8_loss : ByteArray := prog_10_method_55_code
def yX8_loss : MethodName := ⟨RX8, "loss", "(II)I"⟩
abbrev cX8_recovery : ByteArray := prog_10_method_56_code
def yX8_recovery : MethodName := ⟨RX8, "recovery", "(II)I"⟩
abbrev cX8_store : ByteArray := prog_10_method_57_code
def yX8_store : MethodName := ⟨RX8, "store", "()I"⟩
abbrev cX8_recall : ByteArray := prog_10_method_58_code
def yX8_recall : MethodName := ⟨RX8, "recall", "()I"⟩
def RJxf58ca : String := "java/lang/Float"
abbrev cJxf58ca_isNaN_12338 : ByteArray := prog_12_method_6_code
def yJxf58ca_isNaN_12338 : MethodName := ⟨RJxf58ca, "isNaN", "(F)Z"⟩
abbrev cJxf58ca_floatToIntBits_5c35a : ByteArray := prog_12_method_24_code
def yJxf58ca_floatToIntBits_5c35a : MethodName := ⟨RJxf58ca, "floatToIntBits", "(F)I"⟩
def RJ9 : String := "java/lang/Math"
abbrev cJ9_max_7cf53 : ByteArray := prog_13_method_65_code
def yJ9_max_7cf53 : MethodName := ⟨RJ9, "max", "(II)I"⟩
abbrev cJ9_min_7cf53 : ByteArray := prog_13_method_69_code
def yJ9_min_7cf53 : MethodName := ⟨RJ9, "min", "(II)I"⟩
def RJ10 : String := "java/lang/System"
def RJ7 : String := "java/util/Arrays"
abbrev cJ7_fill_53178 : ByteArray := prog_16_method_103_code
def yJ7_fill_53178 : MethodName := ⟨RJ7, "fill", "([II)V"⟩
abbrev vwCl : List vw_C := [(RX0, TX0, 2), (RX1, TX1, 5), (RX2, TX2, 8), (RX3, TX3, 11), (RX4, TX4, 5), (RX5, TX5, 2), (RX6, TX6, 1), (RX7, TX7, 8), (RX8, TX8, 15)]
theorem tw_0 : gd_T (Cond.selects "IntervalRouting" ⟨"IntervalRouting", "isPair", "(II)Z"⟩ ⟨"IntervalRouting", "isPair", "(II)Z"⟩) := ⟨List.mem_of_getElem? (i := 0) (by decide +kernel), by decide +kernel⟩
theorem tw_1 : gd_T (Cond.selects "IntervalRouting" ⟨"IntervalRouting", "isNode", "(I)Z"⟩ ⟨"IntervalRouting", "isNode", "(I)Z"⟩) := ⟨List.mem_of_getElem? (i := 1) (by decide +kernel), by decide +kernel⟩
theorem tw_2 : gd_T (Cond.selects "IntervalRouting" ⟨"IntervalRouting", "makeTick", "(LIntervalRouting$State;)I"⟩ ⟨"IntervalRouting", "makeTick", "(LIntervalRouting$State;)I"⟩) := ⟨List.mem_of_getElem? (i := 2) (by decide +kernel), by decide +kernel⟩
theorem tw_3 : gd_T (Cond.selects "IntervalRouting" ⟨"IntervalRouting", "chooseSpeakers", "(LIntervalRouting$State;)V"⟩ ⟨"IntervalRouting", "chooseSpeakers", "(LIntervalRouting$State;)V"⟩) := ⟨List.mem_of_getElem? (i := 3) (by decide +kernel), by decide +kernel⟩
theorem tw_4 : gd_T (Cond.selects "IntervalRouting" ⟨"IntervalRouting", "isDue", "(LIntervalRouting$State;I)Z"⟩ ⟨"IntervalRouting", "isDue", "(LIntervalRouting$State;I)Z"⟩) := ⟨List.mem_of_getElem? (i := 4) (by decide +kernel), by decide +kernel⟩
theorem tw_5 : gd_T (Cond.selects "IntervalRouting" ⟨"IntervalRouting", "speak", "(LIntervalRouting$State;I)V"⟩ ⟨"IntervalRouting", "speak", "(LIntervalRouting$State;I)V"⟩) := ⟨List.mem_of_getElem? (i := 5) (by decide +kernel), by decide +kernel⟩
theorem tw_6 : gd_T (Cond.selects "IntervalRouting" ⟨"IntervalRouting", "announce", "(LIntervalRouting$State;III)V"⟩ ⟨"IntervalRouting", "announce", "(LIntervalRouting$State;III)V"⟩) := ⟨List.mem_of_getElem? (i := 6) (by decide +kernel), by decide +kernel⟩
theorem tw_7 : gd_T (Cond.selects "IntervalRouting" ⟨"IntervalRouting", "noteChanges", "(LIntervalRouting$State;)I"⟩ ⟨"IntervalRouting", "noteChanges", "(LIntervalRouting$State;)I"⟩) := ⟨List.mem_of_getElem? (i := 7) (by decide +kernel), by decide +kernel⟩
theorem tw_8 : gd_T (Cond.selects "IntervalRouting" ⟨"IntervalRouting", "counts", "(IIII)Z"⟩ ⟨"IntervalRouting", "counts", "(IIII)Z"⟩) := ⟨List.mem_of_getElem? (i := 8) (by decide +kernel), by decide +kernel⟩
theorem tw_9 : gd_T (Cond.selects "IntervalRouting" ⟨"IntervalRouting", "isWrong", "(I)Z"⟩ ⟨"IntervalRouting", "isWrong", "(I)Z"⟩) := ⟨List.mem_of_getElem? (i := 9) (by decide +kernel), by decide +kernel⟩
theorem tw_10 : gd_T (Cond.selects "IntervalRoutingModel" ⟨"IntervalRoutingModel", "begins", "()V"⟩ ⟨"IntervalRoutingModel", "begins", "()V"⟩) := ⟨List.mem_of_getElem? (i := 10) (by decide +kernel), by decide +kernel⟩
theorem tw_11 : gd_T (Cond.selects "IntervalRoutingModel" ⟨"IntervalRoutingModel", "arePair", "(II)Z"⟩ ⟨"IntervalRoutingModel", "arePair", "(II)Z"⟩) := ⟨List.mem_of_getElem? (i := 11) (by decide +kernel), by decide +kernel⟩
theorem tw_12 : gd_T (Cond.selects "IntervalRoutingModel" ⟨"IntervalRoutingModel", "isNode", "(I)Z"⟩ ⟨"IntervalRoutingModel", "isNode", "(I)Z"⟩) := ⟨List.mem_of_getElem? (i := 12) (by decide +kernel), by decide +kernel⟩
theorem tw_13 : gd_T (Cond.selects "IntervalRoutingModel" ⟨"IntervalRoutingModel", "isLink", "(II)Z"⟩ ⟨"IntervalRoutingModel", "isLink", "(II)Z"⟩) := ⟨List.mem_of_getElem? (i := 13) (by decide +kernel), by decide +kernel⟩
theorem tw_14 : gd_T (Cond.selects "IntervalRoutingModel" ⟨"IntervalRoutingModel", "sets", "(IIII)V"⟩ ⟨"IntervalRoutingModel", "sets", "(IIII)V"⟩) := ⟨List.mem_of_getElem? (i := 14) (by decide +kernel), by decide +kernel⟩
theorem tw_15 : gd_T (Cond.selects "IntervalRoutingModel" ⟨"IntervalRoutingModel", "tick", "()V"⟩ ⟨"IntervalRoutingModel", "tick", "()V"⟩) := ⟨List.mem_of_getElem? (i := 15) (by decide +kernel), by decide +kernel⟩
theorem tw_16 : gd_T (Cond.selects "IntervalRoutingModel" ⟨"IntervalRoutingModel", "looks", "()V"⟩ ⟨"IntervalRoutingModel", "looks", "()V"⟩) := ⟨List.mem_of_getElem? (i := 16) (by decide +kernel), by decide +kernel⟩
theorem tw_17 : gd_T (Cond.selects "IntervalRoutingModel" ⟨"IntervalRoutingModel", "boundOf", "(III)I"⟩ ⟨"IntervalRoutingModel", "boundOf", "(III)I"⟩) := ⟨List.mem_of_getElem? (i := 17) (by decide +kernel), by decide +kernel⟩
theorem tw_18 : gd_T (Cond.selects "IntervalRoutingModel" ⟨"IntervalRoutingModel", "least", "(IIII)I"⟩ ⟨"IntervalRoutingModel", "least", "(IIII)I"⟩) := ⟨List.mem_of_getElem? (i := 18) (by decide +kernel), by decide +kernel⟩
theorem tw_19 : gd_T (Cond.selects "IntervalRoutingModel" ⟨"IntervalRoutingModel", "isUsable", "(III)Z"⟩ ⟨"IntervalRoutingModel", "isUsable", "(III)Z"⟩) := ⟨List.mem_of_getElem? (i := 19) (by decide +kernel), by decide +kernel⟩
theorem tw_20 : gd_T (Cond.selects "IntervalRoutingModel" ⟨"IntervalRoutingModel", "isEntry", "(III)Z"⟩ ⟨"IntervalRoutingModel", "isEntry", "(III)Z"⟩) := ⟨List.mem_of_getElem? (i := 20) (by decide +kernel), by decide +kernel⟩
theorem tw_21 : gd_T (Cond.selects "IntervalRoutingModel" ⟨"IntervalRoutingModel", "of", "(IIII)I"⟩ ⟨"IntervalRoutingModel", "of", "(IIII)I"⟩) := ⟨List.mem_of_getElem? (i := 21) (by decide +kernel), by decide +kernel⟩
theorem tw_22 : gd_T (Cond.selects "IntervalRoutingModel" ⟨"IntervalRoutingModel", "areNear", "(II)Z"⟩ ⟨"IntervalRoutingModel", "areNear", "(II)Z"⟩) := ⟨List.mem_of_getElem? (i := 22) (by decide +kernel), by decide +kernel⟩
theorem tw_23 : gd_T (Cond.selects "IntervalRoutingModel" ⟨"IntervalRoutingModel", "choiceOf", "(II)I"⟩ ⟨"IntervalRoutingModel", "choiceOf", "(II)I"⟩) := ⟨List.mem_of_getElem? (i := 23) (by decide +kernel), by decide +kernel⟩
theorem tw_24 : gd_T (Cond.selects "IntervalRoutingModel" ⟨"IntervalRoutingModel", "weight", "(IIIZ)I"⟩ ⟨"IntervalRoutingModel", "weight", "(IIIZ)I"⟩) := ⟨List.mem_of_getElem? (i := 24) (by decide +kernel), by decide +kernel⟩
theorem tw_25 : gd_T (Cond.selects "IntervalRoutingModel" ⟨"IntervalRoutingModel", "isNew", "(I)Z"⟩ ⟨"IntervalRoutingModel", "isNew", "(I)Z"⟩) := ⟨List.mem_of_getElem? (i := 25) (by decide +kernel), by decide +kernel⟩
theorem tw_26 : gd_T (Cond.selects "IntervalRoutingModel" ⟨"IntervalRoutingModel", "sendsAll", "(I)V"⟩ ⟨"IntervalRoutingModel", "sendsAll", "(I)V"⟩) := ⟨List.mem_of_getElem? (i := 26) (by decide +kernel), by decide +kernel⟩
theorem tw_27 : gd_T (Cond.selects "IntervalRoutingModel" ⟨"IntervalRoutingModel", "receives", "(IIIZ)V"⟩ ⟨"IntervalRoutingModel", "receives", "(IIIZ)V"⟩) := ⟨List.mem_of_getElem? (i := 27) (by decide +kernel), by decide +kernel⟩
theorem tw_28 : gd_T (Cond.selects "IntervalRoutingModel" ⟨"IntervalRoutingModel", "keepsSent", "(I)V"⟩ ⟨"IntervalRoutingModel", "keepsSent", "(I)V"⟩) := ⟨List.mem_of_getElem? (i := 28) (by decide +kernel), by decide +kernel⟩
theorem tw_29 : gd_T (Cond.selects "IntervalRoutingModel" ⟨"IntervalRoutingModel", "notes", "(III)V"⟩ ⟨"IntervalRoutingModel", "notes", "(III)V"⟩) := ⟨List.mem_of_getElem? (i := 29) (by decide +kernel), by decide +kernel⟩
theorem tw_30 : gd_T (Cond.selects "IntervalRoutingModel" ⟨"IntervalRoutingModel", "isDominated", "(III)Z"⟩ ⟨"IntervalRoutingModel", "isDominated", "(III)Z"⟩) := ⟨List.mem_of_getElem? (i := 30) (by decide +kernel), by decide +kernel⟩
theorem tw_31 : gd_T (Cond.selects "IntervalRoutingModel" ⟨"IntervalRoutingModel", "measures", "()V"⟩ ⟨"IntervalRoutingModel", "measures", "()V"⟩) := ⟨List.mem_of_getElem? (i := 31) (by decide +kernel), by decide +kernel⟩
theorem tw_32 : gd_T (Cond.selects "IntervalRoutingModel" ⟨"IntervalRoutingModel", "follows", "(II)I"⟩ ⟨"IntervalRoutingModel", "follows", "(II)I"⟩) := ⟨List.mem_of_getElem? (i := 32) (by decide +kernel), by decide +kernel⟩
theorem tw_33 : gd_T (Cond.selects "IntervalRoutingModel" ⟨"IntervalRoutingModel", "putsAside", "()V"⟩ ⟨"IntervalRoutingModel", "putsAside", "()V"⟩) := ⟨List.mem_of_getElem? (i := 33) (by decide +kernel), by decide +kernel⟩
theorem tw_34 : gd_T (Cond.selects "IntervalRoutingModel" ⟨"IntervalRoutingModel", "putsBack", "()V"⟩ ⟨"IntervalRoutingModel", "putsBack", "()V"⟩) := ⟨List.mem_of_getElem? (i := 34) (by decide +kernel), by decide +kernel⟩
theorem tw_35 : gd_T (Cond.selects "IntervalRoutingModel" ⟨"IntervalRoutingModel", "pairs", "()I"⟩ ⟨"IntervalRoutingModel", "pairs", "()I"⟩) := ⟨List.mem_of_getElem? (i := 35) (by decide +kernel), by decide +kernel⟩
theorem tw_36 : gd_T (Cond.initialized "IntervalRoutingLaw") := ⟨List.mem_of_getElem? (i := 36) (by decide +kernel), by decide +kernel⟩
theorem tw_37 : gd_T (Cond.initialized "IntervalRouting") := ⟨List.mem_of_getElem? (i := 37) (by decide +kernel), by decide +kernel⟩
theorem tw_38 : gd_T (Cond.initialized "IntervalRouting$State") := ⟨List.mem_of_getElem? (i := 38) (by decide +kernel), by decide +kernel⟩
theorem tw_39 : gd_T (Cond.initialized "IntervalRouting$Links") := ⟨List.mem_of_getElem? (i := 39) (by decide +kernel), by decide +kernel⟩
theorem tw_40 : gd_T (Cond.initialized "IntervalRouting$Tables") := ⟨List.mem_of_getElem? (i := 40) (by decide +kernel), by decide +kernel⟩
theorem tw_41 : gd_T (Cond.initialized "IntervalRouting$Vectors") := ⟨List.mem_of_getElem? (i := 41) (by decide +kernel), by decide +kernel⟩
theorem tw_42 : gd_T (Cond.initialized "IntervalRouting$Journal") := ⟨List.mem_of_getElem? (i := 42) (by decide +kernel), by decide +kernel⟩
theorem tw_43 : gd_T (Cond.initialized "IntervalRouting$Survey") := ⟨List.mem_of_getElem? (i := 43) (by decide +kernel), by decide +kernel⟩
theorem tw_44 : gd_T (Cond.initialized "IntervalRouting$Ways") := ⟨List.mem_of_getElem? (i := 44) (by decide +kernel), by decide +kernel⟩
theorem tw_45 : gd_T (Cond.initialized "java/util/Arrays") := ⟨List.mem_of_getElem? (i := 45) (by decide +kernel), by decide +kernel⟩
theorem tw_46 : gd_T (Cond.initialized "IntervalRoutingModel") := ⟨List.mem_of_getElem? (i := 46) (by decide +kernel), by decide +kernel⟩
theorem tw_47 : gd_T (Cond.initialized "java/lang/Math") := ⟨List.mem_of_getElem? (i := 47) (by decide +kernel), by decide +kernel⟩
theorem tw_48 : gd_T (Cond.initialized "java/lang/Number") := ⟨List.mem_of_getElem? (i := 48) (by decide +kernel), by decide +kernel⟩
theorem tw_49 : gd_T (Cond.initialized "java/lang/Float") := ⟨List.mem_of_getElem? (i := 49) (by decide +kernel), by decide +kernel⟩
theorem tw_50 : gd_T (Cond.initialized "java/lang/System") := ⟨List.mem_of_getElem? (i := 50) (by decide +kernel), by decide +kernel⟩
theorem tw_51 : gd_T (Cond.classLink "IntervalRoutingLaw" 7 "IntervalRouting") := ⟨List.mem_of_getElem? (i := 51) (by decide +kernel), by decide +kernel⟩
theorem tw_52 : gd_T (Cond.instantiable "IntervalRouting" 8) := ⟨List.mem_of_getElem? (i := 52) (by decide +kernel), by decide +kernel⟩
theorem tw_53 : gd_T (Cond.methodLink "IntervalRoutingLaw" 9 ⟨"IntervalRouting", "<init>", "()V"⟩) := ⟨List.mem_of_getElem? (i := 53) (by decide +kernel), by decide +kernel⟩
theorem tw_54 : gd_T (Cond.instanceMethod ⟨"IntervalRouting", "<init>", "()V"⟩) := ⟨List.mem_of_getElem? (i := 54) (by decide +kernel), by decide +kernel⟩
theorem tw_55 : gd_T (Cond.code ⟨"IntervalRouting", "<init>", "()V"⟩ prog_1_method_1_code 1 (Option.none : Option Jvm.ClassFile.FieldType)) := ⟨List.mem_of_getElem? (i := 55) (by decide +kernel), by decide +kernel⟩
theorem tw_56 : gd_T (Cond.methodLink "IntervalRouting" 3 ⟨"java/lang/Object", "<init>", "()V"⟩) := ⟨List.mem_of_getElem? (i := 56) (by decide +kernel), by decide +kernel⟩
theorem tw_57 : gd_T (Cond.instanceMethod ⟨"java/lang/Object", "<init>", "()V"⟩) := ⟨List.mem_of_getElem? (i := 57) (by decide +kernel), by decide +kernel⟩
theorem tw_58 : gd_T (Cond.code ⟨"java/lang/Object", "<init>", "()V"⟩ object_method_1_code 1 (Option.none : Option Jvm.ClassFile.FieldType)) := ⟨List.mem_of_getElem? (i := 58) (by decide +kernel), by decide +kernel⟩
theorem tw_59 : gd_T (Cond.fieldLink "IntervalRouting" 9 "IntervalRouting" "FIRST_SETTING" "[I") := ⟨List.mem_of_getElem? (i := 59) (by decide +kernel), by decide +kernel⟩
theorem tm_60 : Cond.laysStatic "IntervalRouting" "FIRST_SETTING" "[I" ∈ lw_tbl := List.mem_of_getElem? (i := 60) (by decide +kernel)
theorem tw_61 : gd_T (Cond.methodLink "IntervalRouting" 13 ⟨"[I", "clone", "()Ljava/lang/Object;"⟩) := ⟨List.mem_of_getElem? (i := 61) (by decide +kernel), by decide +kernel⟩
theorem tw_62 : gd_T (Cond.sameMethod "[I" "java/lang/Object" "clone" "()Ljava/lang/Object;") := ⟨List.mem_of_getElem? (i := 62) (by decide +kernel), by decide +kernel⟩
theorem tw_63 : gd_T (Cond.native ⟨"java/lang/Object", "clone", "()Ljava/lang/Object;"⟩) := ⟨List.mem_of_getElem? (i := 63) (by decide +kernel), by decide +kernel⟩
theorem tw_64 : gd_T (Cond.instanceMethod ⟨"java/lang/Object", "clone", "()Ljava/lang/Object;"⟩) := ⟨List.mem_of_getElem? (i := 64) (by decide +kernel), by decide +kernel⟩
theorem tw_65 : gd_T (Cond.selects "[I" ⟨"[I", "clone", "()Ljava/lang/Object;"⟩ ⟨"java/lang/Object", "clone", "()Ljava/lang/Object;"⟩) := ⟨List.mem_of_getElem? (i := 65) (by decide +kernel), by decide +kernel⟩
theorem tm_66 : Cond.castable "[I" "java/lang/Cloneable" ∈ lw_tbl := List.mem_of_getElem? (i := 66) (by decide +kernel)
theorem tw_67 : gd_T (Cond.classLink "IntervalRouting" 14 "[I") := ⟨List.mem_of_getElem? (i := 67) (by decide +kernel), by decide +kernel⟩
theorem tw_68 : gd_T (Cond.classLink "IntervalRouting" 21 "IntervalRouting$State") := ⟨List.mem_of_getElem? (i := 68) (by decide +kernel), by decide +kernel⟩
theorem tw_69 : gd_T (Cond.instantiable "IntervalRouting$State" 8) := ⟨List.mem_of_getElem? (i := 69) (by decide +kernel), by decide +kernel⟩
theorem tw_71 : gd_T (Cond.instanceMethod ⟨"IntervalRouting$State", "<init>", "()V"⟩) := ⟨List.mem_of_getElem? (i := 71) (by decide +kernel), by decide +kernel⟩
theorem tw_72 : gd_T (Cond.code ⟨"IntervalRouting$State", "<init>", "()V"⟩ prog_4_method_1_code 1 (Option.none : Option Jvm.ClassFile.FieldType)) := ⟨List.mem_of_getElem? (i := 72) (by decide +kernel), by decide +kernel⟩
theorem tw_73 : gd_T (Cond.methodLink "IntervalRouting$State" 3 ⟨"java/lang/Object", "<init>", "()V"⟩) := ⟨List.mem_of_getElem? (i := 73) (by decide +kernel), by decide +kernel⟩
theorem tw_74 : gd_T (Cond.classLink "IntervalRouting$State" 9 "IntervalRouting$Links") := ⟨List.mem_of_getElem? (i := 74) (by decide +kernel), by decide +kernel⟩
theorem tw_75 : gd_T (Cond.instantiable "IntervalRouting$Links" 5) := ⟨List.mem_of_getElem? (i := 75) (by decide +kernel), by decide +kernel⟩
theorem tw_77 : gd_T (Cond.instanceMethod ⟨"IntervalRouting$Links", "<init>", "()V"⟩) := ⟨List.mem_of_getElem? (i := 77) (by decide +kernel), by decide +kernel⟩
theorem tw_78 : gd_T (Cond.code ⟨"IntervalRouting$Links", "<init>", "()V"⟩ prog_3_method_1_code 1 (Option.none : Option Jvm.ClassFile.FieldType)) := ⟨List.mem_of_getElem? (i := 78) (by decide +kernel), by decide +kernel⟩
theorem tw_79 : gd_T (Cond.methodLink "IntervalRouting$Links" 3 ⟨"java/lang/Object", "<init>", "()V"⟩) := ⟨List.mem_of_getElem? (i := 79) (by decide +kernel), by decide +kernel⟩
theorem tw_80 : gd_T (Cond.fieldLink "IntervalRouting" 77 "IntervalRouting$Links" "count" "I") := ⟨List.mem_of_getElem? (i := 80) (by decide +kernel), by decide +kernel⟩
theorem tw_81 : gd_T (Cond.fieldLink "IntervalRouting$Links" 39 "IntervalRouting$Links" "count" "I") := ⟨List.mem_of_getElem? (i := 81) (by decide +kernel), by decide +kernel⟩
theorem tw_82 : gd_T (Cond.fieldLink "IntervalRouting$Links" 9 "IntervalRouting$Links" "lower" "[I") := ⟨List.mem_of_getElem? (i := 82) (by decide +kernel), by decide +kernel⟩
theorem tw_83 : gd_T (Cond.fieldLink "IntervalRouting" 92 "IntervalRouting$Links" "lower" "[I") := ⟨List.mem_of_getElem? (i := 83) (by decide +kernel), by decide +kernel⟩
theorem tw_84 : gd_T (Cond.fieldLink "IntervalRouting$Links" 15 "IntervalRouting$Links" "upper" "[I") := ⟨List.mem_of_getElem? (i := 84) (by decide +kernel), by decide +kernel⟩
theorem tw_85 : gd_T (Cond.fieldLink "IntervalRouting" 95 "IntervalRouting$Links" "upper" "[I") := ⟨List.mem_of_getElem? (i := 85) (by decide +kernel), by decide +kernel⟩
theorem tw_86 : gd_T (Cond.fieldLink "IntervalRouting$Links" 18 "IntervalRouting$Links" "cost" "[I") := ⟨List.mem_of_getElem? (i := 86) (by decide +kernel), by decide +kernel⟩
theorem tw_87 : gd_T (Cond.fieldLink "IntervalRouting$Ways" 26 "IntervalRouting$Links" "cost" "[I") := ⟨List.mem_of_getElem? (i := 87) (by decide +kernel), by decide +kernel⟩
theorem tw_88 : gd_T (Cond.fieldLink "IntervalRouting" 98 "IntervalRouting$Links" "cost" "[I") := ⟨List.mem_of_getElem? (i := 88) (by decide +kernel), by decide +kernel⟩
theorem tw_89 : gd_T (Cond.fieldLink "IntervalRouting$Links" 21 "IntervalRouting$Links" "up" "[I") := ⟨List.mem_of_getElem? (i := 89) (by decide +kernel), by decide +kernel⟩
theorem tw_90 : gd_T (Cond.fieldLink "IntervalRouting" 109 "IntervalRouting$Links" "up" "[I") := ⟨List.mem_of_getElem? (i := 90) (by decide +kernel), by decide +kernel⟩
theorem tw_91 : gd_T (Cond.lays "IntervalRouting$Links" "IntervalRouting$Links" "count" "I") := ⟨List.mem_of_getElem? (i := 91) (by decide +kernel), by decide +kernel⟩
theorem tw_93 : gd_T (Cond.laysFinal "IntervalRouting$Links" "IntervalRouting$Links" "lower" "[I") := ⟨List.mem_of_getElem? (i := 93) (by decide +kernel), by decide +kernel⟩
theorem tw_95 : gd_T (Cond.laysFinal "IntervalRouting$Links" "IntervalRouting$Links" "upper" "[I") := ⟨List.mem_of_getElem? (i := 95) (by decide +kernel), by decide +kernel⟩
theorem tw_97 : gd_T (Cond.laysFinal "IntervalRouting$Links" "IntervalRouting$Links" "cost" "[I") := ⟨List.mem_of_getElem? (i := 97) (by decide +kernel), by decide +kernel⟩
theorem tw_99 : gd_T (Cond.laysFinal "IntervalRouting$Links" "IntervalRouting$Links" "up" "[I") := ⟨List.mem_of_getElem? (i := 99) (by decide +kernel), by decide +kernel⟩
theorem tw_102 : gd_T (Cond.arrayClass FieldType.int) := ⟨List.mem_of_getElem? (i := 102) (by decide +kernel), by decide +kernel⟩
theorem tw_103 : gd_T (Cond.classLink "IntervalRouting$State" 18 "IntervalRouting$Tables") := ⟨List.mem_of_getElem? (i := 103) (by decide +kernel), by decide +kernel⟩
theorem tw_104 : gd_T (Cond.instantiable "IntervalRouting$Tables" 5) := ⟨List.mem_of_getElem? (i := 104) (by decide +kernel), by decide +kernel⟩
theorem tw_106 : gd_T (Cond.instanceMethod ⟨"IntervalRouting$Tables", "<init>", "()V"⟩) := ⟨List.mem_of_getElem? (i := 106) (by decide +kernel), by decide +kernel⟩
theorem tw_107 : gd_T (Cond.code ⟨"IntervalRouting$Tables", "<init>", "()V"⟩ prog_6_method_1_code 1 (Option.none : Option Jvm.ClassFile.FieldType)) := ⟨List.mem_of_getElem? (i := 107) (by decide +kernel), by decide +kernel⟩
theorem tw_108 : gd_T (Cond.methodLink "IntervalRouting$Tables" 3 ⟨"java/lang/Object", "<init>", "()V"⟩) := ⟨List.mem_of_getElem? (i := 108) (by decide +kernel), by decide +kernel⟩
theorem tw_109 : gd_T (Cond.fieldLink "IntervalRouting$Tables" 9 "IntervalRouting$Tables" "lower" "[I") := ⟨List.mem_of_getElem? (i := 109) (by decide +kernel), by decide +kernel⟩
theorem tw_110 : gd_T (Cond.fieldLink "IntervalRouting$Survey" 106 "IntervalRouting$Tables" "lower" "[I") := ⟨List.mem_of_getElem? (i := 110) (by decide +kernel), by decide +kernel⟩
theorem tw_111 : gd_T (Cond.fieldLink "IntervalRouting" 149 "IntervalRouting$Tables" "lower" "[I") := ⟨List.mem_of_getElem? (i := 111) (by decide +kernel), by decide +kernel⟩
theorem tw_112 : gd_T (Cond.fieldLink "IntervalRouting$Tables" 15 "IntervalRouting$Tables" "upper" "[I") := ⟨List.mem_of_getElem? (i := 112) (by decide +kernel), by decide +kernel⟩
theorem tw_113 : gd_T (Cond.fieldLink "IntervalRouting$Survey" 107 "IntervalRouting$Tables" "upper" "[I") := ⟨List.mem_of_getElem? (i := 113) (by decide +kernel), by decide +kernel⟩
theorem tw_114 : gd_T (Cond.fieldLink "IntervalRouting" 150 "IntervalRouting$Tables" "upper" "[I") := ⟨List.mem_of_getElem? (i := 114) (by decide +kernel), by decide +kernel⟩
theorem tw_115 : gd_T (Cond.fieldLink "IntervalRouting$Tables" 18 "IntervalRouting$Tables" "expiry" "[I") := ⟨List.mem_of_getElem? (i := 115) (by decide +kernel), by decide +kernel⟩
theorem tw_116 : gd_T (Cond.fieldLink "IntervalRouting" 151 "IntervalRouting$Tables" "expiry" "[I") := ⟨List.mem_of_getElem? (i := 116) (by decide +kernel), by decide +kernel⟩
theorem tw_117 : gd_T (Cond.fieldLink "IntervalRouting$Tables" 21 "IntervalRouting$Tables" "growth" "[I") := ⟨List.mem_of_getElem? (i := 117) (by decide +kernel), by decide +kernel⟩
theorem tw_118 : gd_T (Cond.fieldLink "IntervalRouting" 154 "IntervalRouting$Tables" "growth" "[I") := ⟨List.mem_of_getElem? (i := 118) (by decide +kernel), by decide +kernel⟩
theorem tw_119 : gd_T (Cond.fieldLink "IntervalRouting$Tables" 24 "IntervalRouting$Tables" "heldUpTo" "[I") := ⟨List.mem_of_getElem? (i := 119) (by decide +kernel), by decide +kernel⟩
theorem tw_120 : gd_T (Cond.fieldLink "IntervalRouting" 157 "IntervalRouting$Tables" "heldUpTo" "[I") := ⟨List.mem_of_getElem? (i := 120) (by decide +kernel), by decide +kernel⟩
theorem tw_121 : gd_T (Cond.laysFinal "IntervalRouting$Tables" "IntervalRouting$Tables" "lower" "[I") := ⟨List.mem_of_getElem? (i := 121) (by decide +kernel), by decide +kernel⟩
theorem tw_123 : gd_T (Cond.laysFinal "IntervalRouting$Tables" "IntervalRouting$Tables" "upper" "[I") := ⟨List.mem_of_getElem? (i := 123) (by decide +kernel), by decide +kernel⟩
theorem tw_125 : gd_T (Cond.laysFinal "IntervalRouting$Tables" "IntervalRouting$Tables" "expiry" "[I") := ⟨List.mem_of_getElem? (i := 125) (by decide +kernel), by decide +kernel⟩
theorem tw_127 : gd_T (Cond.laysFinal "IntervalRouting$Tables" "IntervalRouting$Tables" "growth" "[I") := ⟨List.mem_of_getElem? (i := 127) (by decide +kernel), by decide +kernel⟩
theorem tw_129 : gd_T (Cond.laysFinal "IntervalRouting$Tables" "IntervalRouting$Tables" "heldUpTo" "[I") := ⟨List.mem_of_getElem? (i := 129) (by decide +kernel), by decide +kernel⟩
theorem tw_132 : gd_T (Cond.classLink "IntervalRouting$State" 25 "IntervalRouting$Vectors") := ⟨List.mem_of_getElem? (i := 132) (by decide +kernel), by decide +kernel⟩
theorem tw_133 : gd_T (Cond.instantiable "IntervalRouting$Vectors" 2) := ⟨List.mem_of_getElem? (i := 133) (by decide +kernel), by decide +kernel⟩
theorem tw_135 : gd_T (Cond.instanceMethod ⟨"IntervalRouting$Vectors", "<init>", "()V"⟩) := ⟨List.mem_of_getElem? (i := 135) (by decide +kernel), by decide +kernel⟩
theorem tw_136 : gd_T (Cond.code ⟨"IntervalRouting$Vectors", "<init>", "()V"⟩ prog_7_method_1_code 1 (Option.none : Option Jvm.ClassFile.FieldType)) := ⟨List.mem_of_getElem? (i := 136) (by decide +kernel), by decide +kernel⟩
theorem tw_137 : gd_T (Cond.methodLink "IntervalRouting$Vectors" 3 ⟨"java/lang/Object", "<init>", "()V"⟩) := ⟨List.mem_of_getElem? (i := 137) (by decide +kernel), by decide +kernel⟩
theorem tw_138 : gd_T (Cond.fieldLink "IntervalRouting$Vectors" 9 "IntervalRouting$Vectors" "lower" "[I") := ⟨List.mem_of_getElem? (i := 138) (by decide +kernel), by decide +kernel⟩
theorem tw_139 : gd_T (Cond.fieldLink "IntervalRouting$Vectors" 15 "IntervalRouting$Vectors" "upper" "[I") := ⟨List.mem_of_getElem? (i := 139) (by decide +kernel), by decide +kernel⟩
theorem tw_140 : gd_T (Cond.laysFinal "IntervalRouting$Vectors" "IntervalRouting$Vectors" "lower" "[I") := ⟨List.mem_of_getElem? (i := 140) (by decide +kernel), by decide +kernel⟩
theorem tw_142 : gd_T (Cond.laysFinal "IntervalRouting$Vectors" "IntervalRouting$Vectors" "upper" "[I") := ⟨List.mem_of_getElem? (i := 142) (by decide +kernel), by decide +kernel⟩
theorem tw_145 : gd_T (Cond.classLink "IntervalRouting$State" 32 "IntervalRouting$Journal") := ⟨List.mem_of_getElem? (i := 145) (by decide +kernel), by decide +kernel⟩
theorem tw_146 : gd_T (Cond.instantiable "IntervalRouting$Journal" 2) := ⟨List.mem_of_getElem? (i := 146) (by decide +kernel), by decide +kernel⟩
theorem tw_148 : gd_T (Cond.instanceMethod ⟨"IntervalRouting$Journal", "<init>", "()V"⟩) := ⟨List.mem_of_getElem? (i := 148) (by decide +kernel), by decide +kernel⟩
theorem tw_149 : gd_T (Cond.code ⟨"IntervalRouting$Journal", "<init>", "()V"⟩ prog_2_method_1_code 1 (Option.none : Option Jvm.ClassFile.FieldType)) := ⟨List.mem_of_getElem? (i := 149) (by decide +kernel), by decide +kernel⟩
theorem tw_150 : gd_T (Cond.methodLink "IntervalRouting$Journal" 3 ⟨"java/lang/Object", "<init>", "()V"⟩) := ⟨List.mem_of_getElem? (i := 150) (by decide +kernel), by decide +kernel⟩
theorem tw_151 : gd_T (Cond.fieldLink "IntervalRouting$Journal" 9 "IntervalRouting$Journal" "rows" "[I") := ⟨List.mem_of_getElem? (i := 151) (by decide +kernel), by decide +kernel⟩
theorem tw_152 : gd_T (Cond.fieldLink "IntervalRouting$Journal" 15 "IntervalRouting$Journal" "added" "I") := ⟨List.mem_of_getElem? (i := 152) (by decide +kernel), by decide +kernel⟩
theorem tw_153 : gd_T (Cond.laysFinal "IntervalRouting$Journal" "IntervalRouting$Journal" "rows" "[I") := ⟨List.mem_of_getElem? (i := 153) (by decide +kernel), by decide +kernel⟩
theorem tw_155 : gd_T (Cond.lays "IntervalRouting$Journal" "IntervalRouting$Journal" "added" "I") := ⟨List.mem_of_getElem? (i := 155) (by decide +kernel), by decide +kernel⟩
theorem tw_158 : gd_T (Cond.fieldLink "IntervalRouting$State" 43 "IntervalRouting$State" "nodes" "I") := ⟨List.mem_of_getElem? (i := 158) (by decide +kernel), by decide +kernel⟩
theorem tw_159 : gd_T (Cond.fieldLink "IntervalRouting" 60 "IntervalRouting$State" "nodes" "I") := ⟨List.mem_of_getElem? (i := 159) (by decide +kernel), by decide +kernel⟩
theorem tw_160 : gd_T (Cond.fieldLink "IntervalRouting$Survey" 39 "IntervalRouting$State" "nodes" "I") := ⟨List.mem_of_getElem? (i := 160) (by decide +kernel), by decide +kernel⟩
theorem tw_161 : gd_T (Cond.fieldLink "IntervalRouting$State" 47 "IntervalRouting$State" "tick" "I") := ⟨List.mem_of_getElem? (i := 161) (by decide +kernel), by decide +kernel⟩
theorem tw_162 : gd_T (Cond.fieldLink "IntervalRouting$Survey" 97 "IntervalRouting$State" "tick" "I") := ⟨List.mem_of_getElem? (i := 162) (by decide +kernel), by decide +kernel⟩
theorem tw_163 : gd_T (Cond.fieldLink "IntervalRouting" 125 "IntervalRouting$State" "tick" "I") := ⟨List.mem_of_getElem? (i := 163) (by decide +kernel), by decide +kernel⟩
theorem tw_164 : gd_T (Cond.fieldLink "IntervalRouting$State" 50 "IntervalRouting$State" "sent" "I") := ⟨List.mem_of_getElem? (i := 164) (by decide +kernel), by decide +kernel⟩
theorem tw_165 : gd_T (Cond.fieldLink "IntervalRouting" 133 "IntervalRouting$State" "sent" "I") := ⟨List.mem_of_getElem? (i := 165) (by decide +kernel), by decide +kernel⟩
theorem tw_166 : gd_T (Cond.fieldLink "IntervalRouting$State" 12 "IntervalRouting$State" "links" "LIntervalRouting$Links;") := ⟨List.mem_of_getElem? (i := 166) (by decide +kernel), by decide +kernel⟩
theorem tw_167 : gd_T (Cond.fieldLink "IntervalRouting" 68 "IntervalRouting$State" "links" "LIntervalRouting$Links;") := ⟨List.mem_of_getElem? (i := 167) (by decide +kernel), by decide +kernel⟩
theorem tw_168 : gd_T (Cond.fieldLink "IntervalRouting$Survey" 56 "IntervalRouting$State" "links" "LIntervalRouting$Links;") := ⟨List.mem_of_getElem? (i := 168) (by decide +kernel), by decide +kernel⟩
theorem tw_169 : gd_T (Cond.fieldLink "IntervalRouting$State" 21 "IntervalRouting$State" "tables" "LIntervalRouting$Tables;") := ⟨List.mem_of_getElem? (i := 169) (by decide +kernel), by decide +kernel⟩
theorem tw_170 : gd_T (Cond.fieldLink "IntervalRouting$Survey" 93 "IntervalRouting$State" "tables" "LIntervalRouting$Tables;") := ⟨List.mem_of_getElem? (i := 170) (by decide +kernel), by decide +kernel⟩
theorem tw_171 : gd_T (Cond.fieldLink "IntervalRouting" 140 "IntervalRouting$State" "tables" "LIntervalRouting$Tables;") := ⟨List.mem_of_getElem? (i := 171) (by decide +kernel), by decide +kernel⟩
theorem tw_172 : gd_T (Cond.fieldLink "IntervalRouting$State" 28 "IntervalRouting$State" "vectors" "LIntervalRouting$Vectors;") := ⟨List.mem_of_getElem? (i := 172) (by decide +kernel), by decide +kernel⟩
theorem tw_173 : gd_T (Cond.fieldLink "IntervalRouting" 256 "IntervalRouting$State" "vectors" "LIntervalRouting$Vectors;") := ⟨List.mem_of_getElem? (i := 173) (by decide +kernel), by decide +kernel⟩
theorem tw_174 : gd_T (Cond.fieldLink "IntervalRouting$State" 35 "IntervalRouting$State" "journal" "LIntervalRouting$Journal;") := ⟨List.mem_of_getElem? (i := 174) (by decide +kernel), by decide +kernel⟩
theorem tw_175 : gd_T (Cond.fieldLink "IntervalRouting" 197 "IntervalRouting$State" "journal" "LIntervalRouting$Journal;") := ⟨List.mem_of_getElem? (i := 175) (by decide +kernel), by decide +kernel⟩
theorem tw_176 : gd_T (Cond.fieldLink "IntervalRouting$State" 39 "IntervalRouting$State" "lastChosen" "[I") := ⟨List.mem_of_getElem? (i := 176) (by decide +kernel), by decide +kernel⟩
theorem tw_177 : gd_T (Cond.fieldLink "IntervalRouting" 283 "IntervalRouting$State" "lastChosen" "[I") := ⟨List.mem_of_getElem? (i := 177) (by decide +kernel), by decide +kernel⟩
theorem tw_178 : gd_T (Cond.lays "IntervalRouting$State" "IntervalRouting$State" "nodes" "I") := ⟨List.mem_of_getElem? (i := 178) (by decide +kernel), by decide +kernel⟩
theorem tw_180 : gd_T (Cond.lays "IntervalRouting$State" "IntervalRouting$State" "tick" "I") := ⟨List.mem_of_getElem? (i := 180) (by decide +kernel), by decide +kernel⟩
theorem tw_182 : gd_T (Cond.lays "IntervalRouting$State" "IntervalRouting$State" "sent" "I") := ⟨List.mem_of_getElem? (i := 182) (by decide +kernel), by decide +kernel⟩
theorem tw_184 : gd_T (Cond.laysFinal "IntervalRouting$State" "IntervalRouting$State" "links" "LIntervalRouting$Links;") := ⟨List.mem_of_getElem? (i := 184) (by decide +kernel), by decide +kernel⟩
theorem tw_186 : gd_T (Cond.laysFinal "IntervalRouting$State" "IntervalRouting$State" "tables" "LIntervalRouting$Tables;") := ⟨List.mem_of_getElem? (i := 186) (by decide +kernel), by decide +kernel⟩
theorem tw_188 : gd_T (Cond.laysFinal "IntervalRouting$State" "IntervalRouting$State" "vectors" "LIntervalRouting$Vectors;") := ⟨List.mem_of_getElem? (i := 188) (by decide +kernel), by decide +kernel⟩
theorem tw_190 : gd_T (Cond.laysFinal "IntervalRouting$State" "IntervalRouting$State" "journal" "LIntervalRouting$Journal;") := ⟨List.mem_of_getElem? (i := 190) (by decide +kernel), by decide +kernel⟩
theorem tw_192 : gd_T (Cond.laysFinal "IntervalRouting$State" "IntervalRouting$State" "lastChosen" "[I") := ⟨List.mem_of_getElem? (i := 192) (by decide +kernel), by decide +kernel⟩
theorem tw_195 : gd_T (Cond.classLink "IntervalRouting" 34 "IntervalRouting$Survey") := ⟨List.mem_of_getElem? (i := 195) (by decide +kernel), by decide +kernel⟩
theorem tw_196 : gd_T (Cond.instantiable "IntervalRouting$Survey" 11) := ⟨List.mem_of_getElem? (i := 196) (by decide +kernel), by decide +kernel⟩
theorem tw_198 : gd_T (Cond.instanceMethod ⟨"IntervalRouting$Survey", "<init>", "()V"⟩) := ⟨List.mem_of_getElem? (i := 198) (by decide +kernel), by decide +kernel⟩
theorem tw_199 : gd_T (Cond.code ⟨"IntervalRouting$Survey", "<init>", "()V"⟩ prog_5_method_1_code 1 (Option.none : Option Jvm.ClassFile.FieldType)) := ⟨List.mem_of_getElem? (i := 199) (by decide +kernel), by decide +kernel⟩
theorem tw_200 : gd_T (Cond.methodLink "IntervalRouting$Survey" 3 ⟨"java/lang/Object", "<init>", "()V"⟩) := ⟨List.mem_of_getElem? (i := 200) (by decide +kernel), by decide +kernel⟩
theorem tw_201 : gd_T (Cond.fieldLink "IntervalRouting$Survey" 9 "IntervalRouting$Survey" "lower" "[I") := ⟨List.mem_of_getElem? (i := 201) (by decide +kernel), by decide +kernel⟩
theorem tw_202 : gd_T (Cond.fieldLink "IntervalRouting$Vectors" 22 "IntervalRouting$Survey" "lower" "[I") := ⟨List.mem_of_getElem? (i := 202) (by decide +kernel), by decide +kernel⟩
theorem tw_203 : gd_T (Cond.fieldLink "IntervalRouting" 181 "IntervalRouting$Survey" "lower" "[I") := ⟨List.mem_of_getElem? (i := 203) (by decide +kernel), by decide +kernel⟩
theorem tw_204 : gd_T (Cond.fieldLink "IntervalRouting$Survey" 15 "IntervalRouting$Survey" "upper" "[I") := ⟨List.mem_of_getElem? (i := 204) (by decide +kernel), by decide +kernel⟩
theorem tw_205 : gd_T (Cond.fieldLink "IntervalRouting$Vectors" 25 "IntervalRouting$Survey" "upper" "[I") := ⟨List.mem_of_getElem? (i := 205) (by decide +kernel), by decide +kernel⟩
theorem tw_206 : gd_T (Cond.fieldLink "IntervalRouting" 182 "IntervalRouting$Survey" "upper" "[I") := ⟨List.mem_of_getElem? (i := 206) (by decide +kernel), by decide +kernel⟩
theorem tw_207 : gd_T (Cond.fieldLink "IntervalRouting$Survey" 18 "IntervalRouting$Survey" "chosen" "[I") := ⟨List.mem_of_getElem? (i := 207) (by decide +kernel), by decide +kernel⟩
theorem tw_208 : gd_T (Cond.fieldLink "IntervalRouting" 183 "IntervalRouting$Survey" "chosen" "[I") := ⟨List.mem_of_getElem? (i := 208) (by decide +kernel), by decide +kernel⟩
theorem tw_209 : gd_T (Cond.fieldLink "IntervalRouting$Survey" 21 "IntervalRouting$Survey" "neighbours" "[I") := ⟨List.mem_of_getElem? (i := 209) (by decide +kernel), by decide +kernel⟩
theorem tw_210 : gd_T (Cond.fieldLink "IntervalRouting$Survey" 53 "IntervalRouting$Survey" "near" "I") := ⟨List.mem_of_getElem? (i := 210) (by decide +kernel), by decide +kernel⟩
theorem tw_211 : gd_T (Cond.fieldLink "IntervalRouting$Survey" 24 "IntervalRouting$Survey" "senders" "[I") := ⟨List.mem_of_getElem? (i := 211) (by decide +kernel), by decide +kernel⟩
theorem tw_212 : gd_T (Cond.fieldLink "IntervalRouting$Survey" 27 "IntervalRouting$Survey" "lowers" "[I") := ⟨List.mem_of_getElem? (i := 212) (by decide +kernel), by decide +kernel⟩
theorem tw_213 : gd_T (Cond.fieldLink "IntervalRouting$Survey" 30 "IntervalRouting$Survey" "uppers" "[I") := ⟨List.mem_of_getElem? (i := 213) (by decide +kernel), by decide +kernel⟩
theorem tw_214 : gd_T (Cond.fieldLink "IntervalRouting$Survey" 33 "IntervalRouting$Survey" "ranks" "[I") := ⟨List.mem_of_getElem? (i := 214) (by decide +kernel), by decide +kernel⟩
theorem tw_215 : gd_T (Cond.fieldLink "IntervalRouting$Survey" 36 "IntervalRouting$Survey" "secondRanks" "[I") := ⟨List.mem_of_getElem? (i := 215) (by decide +kernel), by decide +kernel⟩
theorem tw_216 : gd_T (Cond.fieldLink "IntervalRouting$Survey" 86 "IntervalRouting$Survey" "usable" "I") := ⟨List.mem_of_getElem? (i := 216) (by decide +kernel), by decide +kernel⟩
theorem tw_217 : gd_T (Cond.laysFinal "IntervalRouting$Survey" "IntervalRouting$Survey" "lower" "[I") := ⟨List.mem_of_getElem? (i := 217) (by decide +kernel), by decide +kernel⟩
theorem tw_219 : gd_T (Cond.laysFinal "IntervalRouting$Survey" "IntervalRouting$Survey" "upper" "[I") := ⟨List.mem_of_getElem? (i := 219) (by decide +kernel), by decide +kernel⟩
theorem tw_221 : gd_T (Cond.laysFinal "IntervalRouting$Survey" "IntervalRouting$Survey" "chosen" "[I") := ⟨List.mem_of_getElem? (i := 221) (by decide +kernel), by decide +kernel⟩
theorem tw_223 : gd_T (Cond.laysFinal "IntervalRouting$Survey" "IntervalRouting$Survey" "neighbours" "[I") := ⟨List.mem_of_getElem? (i := 223) (by decide +kernel), by decide +kernel⟩
theorem tw_225 : gd_T (Cond.lays "IntervalRouting$Survey" "IntervalRouting$Survey" "near" "I") := ⟨List.mem_of_getElem? (i := 225) (by decide +kernel), by decide +kernel⟩
theorem tw_227 : gd_T (Cond.laysFinal "IntervalRouting$Survey" "IntervalRouting$Survey" "senders" "[I") := ⟨List.mem_of_getElem? (i := 227) (by decide +kernel), by decide +kernel⟩
theorem tw_229 : gd_T (Cond.laysFinal "IntervalRouting$Survey" "IntervalRouting$Survey" "lowers" "[I") := ⟨List.mem_of_getElem? (i := 229) (by decide +kernel), by decide +kernel⟩
theorem tw_231 : gd_T (Cond.laysFinal "IntervalRouting$Survey" "IntervalRouting$Survey" "uppers" "[I") := ⟨List.mem_of_getElem? (i := 231) (by decide +kernel), by decide +kernel⟩
theorem tw_233 : gd_T (Cond.laysFinal "IntervalRouting$Survey" "IntervalRouting$Survey" "ranks" "[I") := ⟨List.mem_of_getElem? (i := 233) (by decide +kernel), by decide +kernel⟩
theorem tw_235 : gd_T (Cond.laysFinal "IntervalRouting$Survey" "IntervalRouting$Survey" "secondRanks" "[I") := ⟨List.mem_of_getElem? (i := 235) (by decide +kernel), by decide +kernel⟩
theorem tw_237 : gd_T (Cond.lays "IntervalRouting$Survey" "IntervalRouting$Survey" "usable" "I") := ⟨List.mem_of_getElem? (i := 237) (by decide +kernel), by decide +kernel⟩
theorem tw_240 : gd_T (Cond.classLink "IntervalRouting" 41 "IntervalRouting$Ways") := ⟨List.mem_of_getElem? (i := 240) (by decide +kernel), by decide +kernel⟩
theorem tw_241 : gd_T (Cond.instantiable "IntervalRouting$Ways" 1) := ⟨List.mem_of_getElem? (i := 241) (by decide +kernel), by decide +kernel⟩
theorem tw_243 : gd_T (Cond.instanceMethod ⟨"IntervalRouting$Ways", "<init>", "()V"⟩) := ⟨List.mem_of_getElem? (i := 243) (by decide +kernel), by decide +kernel⟩
theorem tw_244 : gd_T (Cond.code ⟨"IntervalRouting$Ways", "<init>", "()V"⟩ prog_8_method_1_code 1 (Option.none : Option Jvm.ClassFile.FieldType)) := ⟨List.mem_of_getElem? (i := 244) (by decide +kernel), by decide +kernel⟩
theorem tw_245 : gd_T (Cond.methodLink "IntervalRouting$Ways" 3 ⟨"java/lang/Object", "<init>", "()V"⟩) := ⟨List.mem_of_getElem? (i := 245) (by decide +kernel), by decide +kernel⟩
theorem tw_246 : gd_T (Cond.fieldLink "IntervalRouting$Ways" 9 "IntervalRouting$Ways" "length" "[I") := ⟨List.mem_of_getElem? (i := 246) (by decide +kernel), by decide +kernel⟩
theorem tw_247 : gd_T (Cond.fieldLink "IntervalRouting" 217 "IntervalRouting$Ways" "length" "[I") := ⟨List.mem_of_getElem? (i := 247) (by decide +kernel), by decide +kernel⟩
theorem tw_248 : gd_T (Cond.laysFinal "IntervalRouting$Ways" "IntervalRouting$Ways" "length" "[I") := ⟨List.mem_of_getElem? (i := 248) (by decide +kernel), by decide +kernel⟩
theorem tw_251 : gd_T (Cond.methodLink "IntervalRouting" 56 ⟨"IntervalRouting$State", "startAnew", "(I)V"⟩) := ⟨List.mem_of_getElem? (i := 251) (by decide +kernel), by decide +kernel⟩
theorem tw_252 : gd_T (Cond.instanceMethod ⟨"IntervalRouting$State", "startAnew", "(I)V"⟩) := ⟨List.mem_of_getElem? (i := 252) (by decide +kernel), by decide +kernel⟩
theorem tw_253 : gd_T (Cond.selects "IntervalRouting$State" ⟨"IntervalRouting$State", "startAnew", "(I)V"⟩ ⟨"IntervalRouting$State", "startAnew", "(I)V"⟩) := ⟨List.mem_of_getElem? (i := 253) (by decide +kernel), by decide +kernel⟩
theorem tw_254 : gd_T (Cond.code ⟨"IntervalRouting$State", "startAnew", "(I)V"⟩ prog_4_method_2_code 2 (Option.none : Option Jvm.ClassFile.FieldType)) := ⟨List.mem_of_getElem? (i := 254) (by decide +kernel), by decide +kernel⟩
theorem tw_255 : gd_T (Cond.methodLink "IntervalRouting$State" 53 ⟨"IntervalRouting$Links", "clear", "()V"⟩) := ⟨List.mem_of_getElem? (i := 255) (by decide +kernel), by decide +kernel⟩
theorem tw_256 : gd_T (Cond.instanceMethod ⟨"IntervalRouting$Links", "clear", "()V"⟩) := ⟨List.mem_of_getElem? (i := 256) (by decide +kernel), by decide +kernel⟩
theorem tw_257 : gd_T (Cond.selects "IntervalRouting$Links" ⟨"IntervalRouting$Links", "clear", "()V"⟩ ⟨"IntervalRouting$Links", "clear", "()V"⟩) := ⟨List.mem_of_getElem? (i := 257) (by decide +kernel), by decide +kernel⟩
theorem tw_258 : gd_T (Cond.code ⟨"IntervalRouting$Links", "clear", "()V"⟩ prog_3_method_9_code 1 (Option.none : Option Jvm.ClassFile.FieldType)) := ⟨List.mem_of_getElem? (i := 258) (by decide +kernel), by decide +kernel⟩
theorem tw_259 : gd_T (Cond.methodLink "IntervalRouting$Links" 43 ⟨"java/util/Arrays", "fill", "([II)V"⟩) := ⟨List.mem_of_getElem? (i := 259) (by decide +kernel), by decide +kernel⟩
theorem tw_260 : gd_T (Cond.static ⟨"java/util/Arrays", "fill", "([II)V"⟩) := ⟨List.mem_of_getElem? (i := 260) (by decide +kernel), by decide +kernel⟩
theorem tw_261 : gd_T (Cond.code ⟨"java/util/Arrays", "fill", "([II)V"⟩ prog_16_method_103_code 4 (Option.none : Option Jvm.ClassFile.FieldType)) := ⟨List.mem_of_getElem? (i := 261) (by decide +kernel), by decide +kernel⟩
theorem tw_262 : gd_T (Cond.methodLink "IntervalRouting$State" 56 ⟨"IntervalRouting$Tables", "clear", "()V"⟩) := ⟨List.mem_of_getElem? (i := 262) (by decide +kernel), by decide +kernel⟩
theorem tw_263 : gd_T (Cond.instanceMethod ⟨"IntervalRouting$Tables", "clear", "()V"⟩) := ⟨List.mem_of_getElem? (i := 263) (by decide +kernel), by decide +kernel⟩
theorem tw_264 : gd_T (Cond.selects "IntervalRouting$Tables" ⟨"IntervalRouting$Tables", "clear", "()V"⟩ ⟨"IntervalRouting$Tables", "clear", "()V"⟩) := ⟨List.mem_of_getElem? (i := 264) (by decide +kernel), by decide +kernel⟩
theorem tw_265 : gd_T (Cond.code ⟨"IntervalRouting$Tables", "clear", "()V"⟩ prog_6_method_7_code 1 (Option.none : Option Jvm.ClassFile.FieldType)) := ⟨List.mem_of_getElem? (i := 265) (by decide +kernel), by decide +kernel⟩
theorem tw_266 : gd_T (Cond.methodLink "IntervalRouting$Tables" 35 ⟨"java/util/Arrays", "fill", "([II)V"⟩) := ⟨List.mem_of_getElem? (i := 266) (by decide +kernel), by decide +kernel⟩
theorem tw_267 : gd_T (Cond.methodLink "IntervalRouting$State" 57 ⟨"IntervalRouting$Vectors", "clear", "()V"⟩) := ⟨List.mem_of_getElem? (i := 267) (by decide +kernel), by decide +kernel⟩
theorem tw_268 : gd_T (Cond.instanceMethod ⟨"IntervalRouting$Vectors", "clear", "()V"⟩) := ⟨List.mem_of_getElem? (i := 268) (by decide +kernel), by decide +kernel⟩
theorem tw_269 : gd_T (Cond.selects "IntervalRouting$Vectors" ⟨"IntervalRouting$Vectors", "clear", "()V"⟩ ⟨"IntervalRouting$Vectors", "clear", "()V"⟩) := ⟨List.mem_of_getElem? (i := 269) (by decide +kernel), by decide +kernel⟩
theorem tw_270 : gd_T (Cond.code ⟨"IntervalRouting$Vectors", "clear", "()V"⟩ prog_7_method_4_code 1 (Option.none : Option Jvm.ClassFile.FieldType)) := ⟨List.mem_of_getElem? (i := 270) (by decide +kernel), by decide +kernel⟩
theorem tw_271 : gd_T (Cond.methodLink "IntervalRouting$Vectors" 26 ⟨"java/util/Arrays", "fill", "([II)V"⟩) := ⟨List.mem_of_getElem? (i := 271) (by decide +kernel), by decide +kernel⟩
theorem tw_272 : gd_T (Cond.methodLink "IntervalRouting$State" 58 ⟨"IntervalRouting$Journal", "clear", "()V"⟩) := ⟨List.mem_of_getElem? (i := 272) (by decide +kernel), by decide +kernel⟩
theorem tw_273 : gd_T (Cond.instanceMethod ⟨"IntervalRouting$Journal", "clear", "()V"⟩) := ⟨List.mem_of_getElem? (i := 273) (by decide +kernel), by decide +kernel⟩
theorem tw_274 : gd_T (Cond.selects "IntervalRouting$Journal" ⟨"IntervalRouting$Journal", "clear", "()V"⟩ ⟨"IntervalRouting$Journal", "clear", "()V"⟩) := ⟨List.mem_of_getElem? (i := 274) (by decide +kernel), by decide +kernel⟩
theorem tw_275 : gd_T (Cond.code ⟨"IntervalRouting$Journal", "clear", "()V"⟩ prog_2_method_5_code 1 (Option.none : Option Jvm.ClassFile.FieldType)) := ⟨List.mem_of_getElem? (i := 275) (by decide +kernel), by decide +kernel⟩
theorem tw_276 : gd_T (Cond.methodLink "IntervalRouting$Journal" 25 ⟨"java/util/Arrays", "fill", "([II)V"⟩) := ⟨List.mem_of_getElem? (i := 276) (by decide +kernel), by decide +kernel⟩
theorem tw_277 : gd_T (Cond.methodLink "IntervalRouting$State" 59 ⟨"java/util/Arrays", "fill", "([II)V"⟩) := ⟨List.mem_of_getElem? (i := 277) (by decide +kernel), by decide +kernel⟩
theorem tw_278 : gd_T (Cond.fieldLink "IntervalRouting" 18 "IntervalRouting" "settings" "[I") := ⟨List.mem_of_getElem? (i := 278) (by decide +kernel), by decide +kernel⟩
theorem tw_279 : gd_T (Cond.fieldLink "IntervalRouting" 24 "IntervalRouting" "live" "LIntervalRouting$State;") := ⟨List.mem_of_getElem? (i := 279) (by decide +kernel), by decide +kernel⟩
theorem tw_280 : gd_T (Cond.fieldLink "IntervalRouting" 28 "IntervalRouting" "stored" "LIntervalRouting$State;") := ⟨List.mem_of_getElem? (i := 280) (by decide +kernel), by decide +kernel⟩
theorem tw_281 : gd_T (Cond.fieldLink "IntervalRouting" 31 "IntervalRouting" "trial" "LIntervalRouting$State;") := ⟨List.mem_of_getElem? (i := 281) (by decide +kernel), by decide +kernel⟩
theorem tw_282 : gd_T (Cond.fieldLink "IntervalRouting" 37 "IntervalRouting" "survey" "LIntervalRouting$Survey;") := ⟨List.mem_of_getElem? (i := 282) (by decide +kernel), by decide +kernel⟩
theorem tw_283 : gd_T (Cond.fieldLink "IntervalRouting" 44 "IntervalRouting" "ways" "LIntervalRouting$Ways;") := ⟨List.mem_of_getElem? (i := 283) (by decide +kernel), by decide +kernel⟩
theorem tw_284 : gd_T (Cond.fieldLink "IntervalRouting" 48 "IntervalRouting" "speaking" "[Z") := ⟨List.mem_of_getElem? (i := 284) (by decide +kernel), by decide +kernel⟩
theorem tw_285 : gd_T (Cond.fieldLink "IntervalRouting" 52 "IntervalRouting" "isStored" "Z") := ⟨List.mem_of_getElem? (i := 285) (by decide +kernel), by decide +kernel⟩
theorem tw_286 : gd_T (Cond.laysFinal "IntervalRouting" "IntervalRouting" "settings" "[I") := ⟨List.mem_of_getElem? (i := 286) (by decide +kernel), by decide +kernel⟩
theorem tw_288 : gd_T (Cond.laysFinal "IntervalRouting" "IntervalRouting" "live" "LIntervalRouting$State;") := ⟨List.mem_of_getElem? (i := 288) (by decide +kernel), by decide +kernel⟩
theorem tw_290 : gd_T (Cond.laysFinal "IntervalRouting" "IntervalRouting" "stored" "LIntervalRouting$State;") := ⟨List.mem_of_getElem? (i := 290) (by decide +kernel), by decide +kernel⟩
theorem tw_292 : gd_T (Cond.laysFinal "IntervalRouting" "IntervalRouting" "trial" "LIntervalRouting$State;") := ⟨List.mem_of_getElem? (i := 292) (by decide +kernel), by decide +kernel⟩
theorem tw_294 : gd_T (Cond.laysFinal "IntervalRouting" "IntervalRouting" "survey" "LIntervalRouting$Survey;") := ⟨List.mem_of_getElem? (i := 294) (by decide +kernel), by decide +kernel⟩
theorem tw_296 : gd_T (Cond.laysFinal "IntervalRouting" "IntervalRouting" "ways" "LIntervalRouting$Ways;") := ⟨List.mem_of_getElem? (i := 296) (by decide +kernel), by decide +kernel⟩
theorem tw_298 : gd_T (Cond.laysFinal "IntervalRouting" "IntervalRouting" "speaking" "[Z") := ⟨List.mem_of_getElem? (i := 298) (by decide +kernel), by decide +kernel⟩
theorem tw_300 : gd_T (Cond.lays "IntervalRouting" "IntervalRouting" "isStored" "Z") := ⟨List.mem_of_getElem? (i := 300) (by decide +kernel), by decide +kernel⟩
theorem tw_303 : gd_T (Cond.arrayClass FieldType.boolean) := ⟨List.mem_of_getElem? (i := 303) (by decide +kernel), by decide +kernel⟩
theorem tw_304 : gd_T (Cond.methodLink "IntervalRoutingLaw" 13 ⟨"IntervalRouting", "reset", "(I)I"⟩) := ⟨List.mem_of_getElem? (i := 304) (by decide +kernel), by decide +kernel⟩
theorem tw_305 : gd_T (Cond.instanceMethod ⟨"IntervalRouting", "reset", "(I)I"⟩) := ⟨List.mem_of_getElem? (i := 305) (by decide +kernel), by decide +kernel⟩
theorem tw_306 : gd_T (Cond.selects "IntervalRouting" ⟨"IntervalRouting", "reset", "(I)I"⟩ ⟨"IntervalRouting", "reset", "(I)I"⟩) := ⟨List.mem_of_getElem? (i := 306) (by decide +kernel), by decide +kernel⟩
theorem tw_307 : gd_T (Cond.code ⟨"IntervalRouting", "reset", "(I)I"⟩ prog_1_method_2_code 3 (some FieldType.int)) := ⟨List.mem_of_getElem? (i := 307) (by decide +kernel), by decide +kernel⟩
theorem tw_308 : gd_T (Cond.methodLink "IntervalRoutingLaw" 18 ⟨"IntervalRouting", "addLink", "(IIII)I"⟩) := ⟨List.mem_of_getElem? (i := 308) (by decide +kernel), by decide +kernel⟩
theorem tw_309 : gd_T (Cond.instanceMethod ⟨"IntervalRouting", "addLink", "(IIII)I"⟩) := ⟨List.mem_of_getElem? (i := 309) (by decide +kernel), by decide +kernel⟩
theorem tw_310 : gd_T (Cond.selects "IntervalRouting" ⟨"IntervalRouting", "addLink", "(IIII)I"⟩ ⟨"IntervalRouting", "addLink", "(IIII)I"⟩) := ⟨List.mem_of_getElem? (i := 310) (by decide +kernel), by decide +kernel⟩
theorem tw_311 : gd_T (Cond.code ⟨"IntervalRouting", "addLink", "(IIII)I"⟩ prog_1_method_3_code 5 (some FieldType.int)) := ⟨List.mem_of_getElem? (i := 311) (by decide +kernel), by decide +kernel⟩
theorem tw_312 : gd_T (Cond.methodLink "IntervalRouting" 64 ⟨"IntervalRouting", "isPair", "(II)Z"⟩) := ⟨List.mem_of_getElem? (i := 312) (by decide +kernel), by decide +kernel⟩
theorem tw_314 : gd_T (Cond.instanceMethod ⟨"IntervalRouting", "isPair", "(II)Z"⟩) := ⟨List.mem_of_getElem? (i := 314) (by decide +kernel), by decide +kernel⟩
theorem tw_315 : gd_T (Cond.code ⟨"IntervalRouting", "isPair", "(II)Z"⟩ prog_1_method_29_code 3 (some FieldType.boolean)) := ⟨List.mem_of_getElem? (i := 315) (by decide +kernel), by decide +kernel⟩
theorem tw_316 : gd_T (Cond.methodLink "IntervalRouting" 171 ⟨"IntervalRouting", "isNode", "(I)Z"⟩) := ⟨List.mem_of_getElem? (i := 316) (by decide +kernel), by decide +kernel⟩
theorem tw_318 : gd_T (Cond.instanceMethod ⟨"IntervalRouting", "isNode", "(I)Z"⟩) := ⟨List.mem_of_getElem? (i := 318) (by decide +kernel), by decide +kernel⟩
theorem tw_319 : gd_T (Cond.code ⟨"IntervalRouting", "isNode", "(I)Z"⟩ prog_1_method_28_code 2 (some FieldType.boolean)) := ⟨List.mem_of_getElem? (i := 319) (by decide +kernel), by decide +kernel⟩
theorem tw_320 : gd_T (Cond.methodLink "IntervalRouting" 72 ⟨"IntervalRouting$Links", "joins", "(II)Z"⟩) := ⟨List.mem_of_getElem? (i := 320) (by decide +kernel), by decide +kernel⟩
theorem tw_321 : gd_T (Cond.instanceMethod ⟨"IntervalRouting$Links", "joins", "(II)Z"⟩) := ⟨List.mem_of_getElem? (i := 321) (by decide +kernel), by decide +kernel⟩
theorem tw_322 : gd_T (Cond.selects "IntervalRouting$Links" ⟨"IntervalRouting$Links", "joins", "(II)Z"⟩ ⟨"IntervalRouting$Links", "joins", "(II)Z"⟩) := ⟨List.mem_of_getElem? (i := 322) (by decide +kernel), by decide +kernel⟩
theorem tw_323 : gd_T (Cond.code ⟨"IntervalRouting$Links", "joins", "(II)Z"⟩ prog_3_method_2_code 3 (some FieldType.boolean)) := ⟨List.mem_of_getElem? (i := 323) (by decide +kernel), by decide +kernel⟩
theorem tw_325 : gd_T (Cond.static ⟨"IntervalRouting", "pair", "(II)I"⟩) := ⟨List.mem_of_getElem? (i := 325) (by decide +kernel), by decide +kernel⟩
theorem tw_326 : gd_T (Cond.code ⟨"IntervalRouting", "pair", "(II)I"⟩ prog_1_method_33_code 2 (some FieldType.int)) := ⟨List.mem_of_getElem? (i := 326) (by decide +kernel), by decide +kernel⟩
theorem tw_327 : gd_T (Cond.methodLink "IntervalRouting" 80 ⟨"IntervalRouting$Links", "insert", "(IIII)V"⟩) := ⟨List.mem_of_getElem? (i := 327) (by decide +kernel), by decide +kernel⟩
theorem tw_328 : gd_T (Cond.instanceMethod ⟨"IntervalRouting$Links", "insert", "(IIII)V"⟩) := ⟨List.mem_of_getElem? (i := 328) (by decide +kernel), by decide +kernel⟩
theorem tw_329 : gd_T (Cond.selects "IntervalRouting$Links" ⟨"IntervalRouting$Links", "insert", "(IIII)V"⟩ ⟨"IntervalRouting$Links", "insert", "(IIII)V"⟩) := ⟨List.mem_of_getElem? (i := 329) (by decide +kernel), by decide +kernel⟩
theorem tw_330 : gd_T (Cond.code ⟨"IntervalRouting$Links", "insert", "(IIII)V"⟩ prog_3_method_4_code 5 (Option.none : Option Jvm.ClassFile.FieldType)) := ⟨List.mem_of_getElem? (i := 330) (by decide +kernel), by decide +kernel⟩
theorem tw_331 : gd_T (Cond.methodLink "IntervalRouting$Links" 28 ⟨"IntervalRouting$Links", "putBounds", "(IIII)V"⟩) := ⟨List.mem_of_getElem? (i := 331) (by decide +kernel), by decide +kernel⟩
theorem tw_332 : gd_T (Cond.instanceMethod ⟨"IntervalRouting$Links", "putBounds", "(IIII)V"⟩) := ⟨List.mem_of_getElem? (i := 332) (by decide +kernel), by decide +kernel⟩
theorem tw_333 : gd_T (Cond.selects "IntervalRouting$Links" ⟨"IntervalRouting$Links", "putBounds", "(IIII)V"⟩ ⟨"IntervalRouting$Links", "putBounds", "(IIII)V"⟩) := ⟨List.mem_of_getElem? (i := 333) (by decide +kernel), by decide +kernel⟩
theorem tw_334 : gd_T (Cond.code ⟨"IntervalRouting$Links", "putBounds", "(IIII)V"⟩ prog_3_method_6_code 5 (Option.none : Option Jvm.ClassFile.FieldType)) := ⟨List.mem_of_getElem? (i := 334) (by decide +kernel), by decide +kernel⟩
theorem tw_335 : gd_T (Cond.methodLink "IntervalRouting$Links" 32 ⟨"IntervalRouting$Links", "putCost", "(III)V"⟩) := ⟨List.mem_of_getElem? (i := 335) (by decide +kernel), by decide +kernel⟩
theorem tw_336 : gd_T (Cond.instanceMethod ⟨"IntervalRouting$Links", "putCost", "(III)V"⟩) := ⟨List.mem_of_getElem? (i := 336) (by decide +kernel), by decide +kernel⟩
theorem tw_337 : gd_T (Cond.selects "IntervalRouting$Links" ⟨"IntervalRouting$Links", "putCost", "(III)V"⟩ ⟨"IntervalRouting$Links", "putCost", "(III)V"⟩) := ⟨List.mem_of_getElem? (i := 337) (by decide +kernel), by decide +kernel⟩
theorem tw_338 : gd_T (Cond.code ⟨"IntervalRouting$Links", "putCost", "(III)V"⟩ prog_3_method_7_code 4 (Option.none : Option Jvm.ClassFile.FieldType)) := ⟨List.mem_of_getElem? (i := 338) (by decide +kernel), by decide +kernel⟩
theorem tw_339 : gd_T (Cond.methodLink "IntervalRouting$Links" 36 ⟨"IntervalRouting$Links", "putUp", "(III)V"⟩) := ⟨List.mem_of_getElem? (i := 339) (by decide +kernel), by decide +kernel⟩
theorem tw_340 : gd_T (Cond.instanceMethod ⟨"IntervalRouting$Links", "putUp", "(III)V"⟩) := ⟨List.mem_of_getElem? (i := 340) (by decide +kernel), by decide +kernel⟩
theorem tw_341 : gd_T (Cond.selects "IntervalRouting$Links" ⟨"IntervalRouting$Links", "putUp", "(III)V"⟩ ⟨"IntervalRouting$Links", "putUp", "(III)V"⟩) := ⟨List.mem_of_getElem? (i := 341) (by decide +kernel), by decide +kernel⟩
theorem tw_342 : gd_T (Cond.code ⟨"IntervalRouting$Links", "putUp", "(III)V"⟩ prog_3_method_8_code 4 (Option.none : Option Jvm.ClassFile.FieldType)) := ⟨List.mem_of_getElem? (i := 342) (by decide +kernel), by decide +kernel⟩
theorem tw_343 : gd_T (Cond.methodLink "IntervalRoutingLaw" 23 ⟨"IntervalRouting", "removeLink", "(II)I"⟩) := ⟨List.mem_of_getElem? (i := 343) (by decide +kernel), by decide +kernel⟩
theorem tw_344 : gd_T (Cond.instanceMethod ⟨"IntervalRouting", "removeLink", "(II)I"⟩) := ⟨List.mem_of_getElem? (i := 344) (by decide +kernel), by decide +kernel⟩
theorem tw_345 : gd_T (Cond.selects "IntervalRouting" ⟨"IntervalRouting", "removeLink", "(II)I"⟩ ⟨"IntervalRouting", "removeLink", "(II)I"⟩) := ⟨List.mem_of_getElem? (i := 345) (by decide +kernel), by decide +kernel⟩
theorem tw_346 : gd_T (Cond.code ⟨"IntervalRouting", "removeLink", "(II)I"⟩ prog_1_method_4_code 3 (some FieldType.int)) := ⟨List.mem_of_getElem? (i := 346) (by decide +kernel), by decide +kernel⟩
theorem tw_347 : gd_T (Cond.methodLink "IntervalRouting" 84 ⟨"IntervalRouting$Links", "delete", "(II)V"⟩) := ⟨List.mem_of_getElem? (i := 347) (by decide +kernel), by decide +kernel⟩
theorem tw_348 : gd_T (Cond.instanceMethod ⟨"IntervalRouting$Links", "delete", "(II)V"⟩) := ⟨List.mem_of_getElem? (i := 348) (by decide +kernel), by decide +kernel⟩
theorem tw_349 : gd_T (Cond.selects "IntervalRouting$Links" ⟨"IntervalRouting$Links", "delete", "(II)V"⟩ ⟨"IntervalRouting$Links", "delete", "(II)V"⟩) := ⟨List.mem_of_getElem? (i := 349) (by decide +kernel), by decide +kernel⟩
theorem tw_350 : gd_T (Cond.code ⟨"IntervalRouting$Links", "delete", "(II)V"⟩ prog_3_method_5_code 3 (Option.none : Option Jvm.ClassFile.FieldType)) := ⟨List.mem_of_getElem? (i := 350) (by decide +kernel), by decide +kernel⟩
theorem tw_351 : gd_T (Cond.methodLink "IntervalRoutingLaw" 28 ⟨"IntervalRouting", "setCost", "(III)I"⟩) := ⟨List.mem_of_getElem? (i := 351) (by decide +kernel), by decide +kernel⟩
theorem tw_352 : gd_T (Cond.instanceMethod ⟨"IntervalRouting", "setCost", "(III)I"⟩) := ⟨List.mem_of_getElem? (i := 352) (by decide +kernel), by decide +kernel⟩
theorem tw_353 : gd_T (Cond.selects "IntervalRouting" ⟨"IntervalRouting", "setCost", "(III)I"⟩ ⟨"IntervalRouting", "setCost", "(III)I"⟩) := ⟨List.mem_of_getElem? (i := 353) (by decide +kernel), by decide +kernel⟩
theorem tw_354 : gd_T (Cond.code ⟨"IntervalRouting", "setCost", "(III)I"⟩ prog_1_method_5_code 6 (some FieldType.int)) := ⟨List.mem_of_getElem? (i := 354) (by decide +kernel), by decide +kernel⟩
theorem tw_355 : gd_T (Cond.methodLink "IntervalRouting" 88 ⟨"IntervalRouting", "pair", "(II)I"⟩) := ⟨List.mem_of_getElem? (i := 355) (by decide +kernel), by decide +kernel⟩
theorem tw_356 : gd_T (Cond.methodLink "IntervalRouting" 101 ⟨"IntervalRouting$Links", "putCost", "(III)V"⟩) := ⟨List.mem_of_getElem? (i := 356) (by decide +kernel), by decide +kernel⟩
theorem tw_357 : gd_T (Cond.methodLink "IntervalRoutingLaw" 33 ⟨"IntervalRouting", "setUp", "(III)I"⟩) := ⟨List.mem_of_getElem? (i := 357) (by decide +kernel), by decide +kernel⟩
theorem tw_358 : gd_T (Cond.instanceMethod ⟨"IntervalRouting", "setUp", "(III)I"⟩) := ⟨List.mem_of_getElem? (i := 358) (by decide +kernel), by decide +kernel⟩
theorem tw_359 : gd_T (Cond.selects "IntervalRouting" ⟨"IntervalRouting", "setUp", "(III)I"⟩ ⟨"IntervalRouting", "setUp", "(III)I"⟩) := ⟨List.mem_of_getElem? (i := 359) (by decide +kernel), by decide +kernel⟩
theorem tw_360 : gd_T (Cond.code ⟨"IntervalRouting", "setUp", "(III)I"⟩ prog_1_method_6_code 5 (some FieldType.int)) := ⟨List.mem_of_getElem? (i := 360) (by decide +kernel), by decide +kernel⟩
theorem tw_361 : gd_T (Cond.methodLink "IntervalRouting" 105 ⟨"IntervalRouting", "isBetween", "(III)Z"⟩) := ⟨List.mem_of_getElem? (i := 361) (by decide +kernel), by decide +kernel⟩
theorem tw_362 : gd_T (Cond.static ⟨"IntervalRouting", "isBetween", "(III)Z"⟩) := ⟨List.mem_of_getElem? (i := 362) (by decide +kernel), by decide +kernel⟩
theorem tw_363 : gd_T (Cond.code ⟨"IntervalRouting", "isBetween", "(III)Z"⟩ prog_1_method_30_code 3 (some FieldType.boolean)) := ⟨List.mem_of_getElem? (i := 363) (by decide +kernel), by decide +kernel⟩
theorem tw_364 : gd_T (Cond.methodLink "IntervalRouting" 112 ⟨"IntervalRouting$Links", "putUp", "(III)V"⟩) := ⟨List.mem_of_getElem? (i := 364) (by decide +kernel), by decide +kernel⟩
theorem tw_365 : gd_T (Cond.methodLink "IntervalRoutingLaw" 37 ⟨"IntervalRouting", "link", "(III)I"⟩) := ⟨List.mem_of_getElem? (i := 365) (by decide +kernel), by decide +kernel⟩
theorem tw_366 : gd_T (Cond.instanceMethod ⟨"IntervalRouting", "link", "(III)I"⟩) := ⟨List.mem_of_getElem? (i := 366) (by decide +kernel), by decide +kernel⟩
theorem tw_367 : gd_T (Cond.selects "IntervalRouting" ⟨"IntervalRouting", "link", "(III)I"⟩ ⟨"IntervalRouting", "link", "(III)I"⟩) := ⟨List.mem_of_getElem? (i := 367) (by decide +kernel), by decide +kernel⟩
theorem tw_368 : gd_T (Cond.code ⟨"IntervalRouting", "link", "(III)I"⟩ prog_1_method_7_code 5 (some FieldType.int)) := ⟨List.mem_of_getElem? (i := 368) (by decide +kernel), by decide +kernel⟩
theorem tw_369 : gd_T (Cond.methodLink "IntervalRoutingLaw" 41 ⟨"IntervalRouting", "set", "(II)I"⟩) := ⟨List.mem_of_getElem? (i := 369) (by decide +kernel), by decide +kernel⟩
theorem tw_370 : gd_T (Cond.instanceMethod ⟨"IntervalRouting", "set", "(II)I"⟩) := ⟨List.mem_of_getElem? (i := 370) (by decide +kernel), by decide +kernel⟩
theorem tw_371 : gd_T (Cond.selects "IntervalRouting" ⟨"IntervalRouting", "set", "(II)I"⟩ ⟨"IntervalRouting", "set", "(II)I"⟩) := ⟨List.mem_of_getElem? (i := 371) (by decide +kernel), by decide +kernel⟩
theorem tw_372 : gd_T (Cond.code ⟨"IntervalRouting", "set", "(II)I"⟩ prog_1_method_8_code 4 (some FieldType.int)) := ⟨List.mem_of_getElem? (i := 372) (by decide +kernel), by decide +kernel⟩
theorem tw_373 : gd_T (Cond.methodLink "IntervalRouting" 115 ⟨"IntervalRouting", "isSetting", "(I)Z"⟩) := ⟨List.mem_of_getElem? (i := 373) (by decide +kernel), by decide +kernel⟩
theorem tw_374 : gd_T (Cond.static ⟨"IntervalRouting", "isSetting", "(I)Z"⟩) := ⟨List.mem_of_getElem? (i := 374) (by decide +kernel), by decide +kernel⟩
theorem tw_375 : gd_T (Cond.code ⟨"IntervalRouting", "isSetting", "(I)Z"⟩ prog_1_method_31_code 1 (some FieldType.boolean)) := ⟨List.mem_of_getElem? (i := 375) (by decide +kernel), by decide +kernel⟩
theorem tw_376 : gd_T (Cond.fieldLink "IntervalRouting" 119 "IntervalRouting" "LEAST_SETTING" "[I") := ⟨List.mem_of_getElem? (i := 376) (by decide +kernel), by decide +kernel⟩
theorem tm_377 : Cond.laysStatic "IntervalRouting" "LEAST_SETTING" "[I" ∈ lw_tbl := List.mem_of_getElem? (i := 377) (by decide +kernel)
theorem tw_378 : gd_T (Cond.fieldLink "IntervalRouting" 122 "IntervalRouting" "MOST_SETTING" "[I") := ⟨List.mem_of_getElem? (i := 378) (by decide +kernel), by decide +kernel⟩
theorem tm_379 : Cond.laysStatic "IntervalRouting" "MOST_SETTING" "[I" ∈ lw_tbl := List.mem_of_getElem? (i := 379) (by decide +kernel)
theorem tw_380 : gd_T (Cond.methodLink "IntervalRoutingLaw" 45 ⟨"IntervalRouting", "run", "(I)I"⟩) := ⟨List.mem_of_getElem? (i := 380) (by decide +kernel), by decide +kernel⟩
theorem tw_381 : gd_T (Cond.instanceMethod ⟨"IntervalRouting", "run", "(I)I"⟩) := ⟨List.mem_of_getElem? (i := 381) (by decide +kernel), by decide +kernel⟩
theorem tw_382 : gd_T (Cond.selects "IntervalRouting" ⟨"IntervalRouting", "run", "(I)I"⟩ ⟨"IntervalRouting", "run", "(I)I"⟩) := ⟨List.mem_of_getElem? (i := 382) (by decide +kernel), by decide +kernel⟩
theorem tw_383 : gd_T (Cond.code ⟨"IntervalRouting", "run", "(I)I"⟩ prog_1_method_9_code 3 (some FieldType.int)) := ⟨List.mem_of_getElem? (i := 383) (by decide +kernel), by decide +kernel⟩
theorem tw_384 : gd_T (Cond.constant "IntervalRouting" 128 (100000 : Int32)) := ⟨List.mem_of_getElem? (i := 384) (by decide +kernel), by decide +kernel⟩
theorem tw_385 : gd_T (Cond.methodLink "IntervalRouting" 129 ⟨"IntervalRouting", "makeTick", "(LIntervalRouting$State;)I"⟩) := ⟨List.mem_of_getElem? (i := 385) (by decide +kernel), by decide +kernel⟩
theorem tw_387 : gd_T (Cond.instanceMethod ⟨"IntervalRouting", "makeTick", "(LIntervalRouting$State;)I"⟩) := ⟨List.mem_of_getElem? (i := 387) (by decide +kernel), by decide +kernel⟩
theorem tw_388 : gd_T (Cond.code ⟨"IntervalRouting", "makeTick", "(LIntervalRouting$State;)I"⟩ prog_1_method_38_code 3 (some FieldType.int)) := ⟨List.mem_of_getElem? (i := 388) (by decide +kernel), by decide +kernel⟩
theorem tw_389 : gd_T (Cond.methodLink "IntervalRouting" 189 ⟨"IntervalRouting$Survey", "take", "(LIntervalRouting$State;[I)V"⟩) := ⟨List.mem_of_getElem? (i := 389) (by decide +kernel), by decide +kernel⟩
theorem tw_390 : gd_T (Cond.instanceMethod ⟨"IntervalRouting$Survey", "take", "(LIntervalRouting$State;[I)V"⟩) := ⟨List.mem_of_getElem? (i := 390) (by decide +kernel), by decide +kernel⟩
theorem tw_391 : gd_T (Cond.selects "IntervalRouting$Survey" ⟨"IntervalRouting$Survey", "take", "(LIntervalRouting$State;[I)V"⟩ ⟨"IntervalRouting$Survey", "take", "(LIntervalRouting$State;[I)V"⟩) := ⟨List.mem_of_getElem? (i := 391) (by decide +kernel), by decide +kernel⟩
theorem tw_392 : gd_T (Cond.code ⟨"IntervalRouting$Survey", "take", "(LIntervalRouting$State;[I)V"⟩ prog_5_method_3_code 5 (Option.none : Option Jvm.ClassFile.FieldType)) := ⟨List.mem_of_getElem? (i := 392) (by decide +kernel), by decide +kernel⟩
theorem tw_393 : gd_T (Cond.methodLink "IntervalRouting$Survey" 45 ⟨"IntervalRouting$Survey", "findNeighbours", "(LIntervalRouting$State;I)V"⟩) := ⟨List.mem_of_getElem? (i := 393) (by decide +kernel), by decide +kernel⟩
theorem tw_394 : gd_T (Cond.instanceMethod ⟨"IntervalRouting$Survey", "findNeighbours", "(LIntervalRouting$State;I)V"⟩) := ⟨List.mem_of_getElem? (i := 394) (by decide +kernel), by decide +kernel⟩
theorem tw_395 : gd_T (Cond.selects "IntervalRouting$Survey" ⟨"IntervalRouting$Survey", "findNeighbours", "(LIntervalRouting$State;I)V"⟩ ⟨"IntervalRouting$Survey", "findNeighbours", "(LIntervalRouting$State;I)V"⟩) := ⟨List.mem_of_getElem? (i := 395) (by decide +kernel), by decide +kernel⟩
theorem tw_396 : gd_T (Cond.code ⟨"IntervalRouting$Survey", "findNeighbours", "(LIntervalRouting$State;I)V"⟩ prog_5_method_5_code 4 (Option.none : Option Jvm.ClassFile.FieldType)) := ⟨List.mem_of_getElem? (i := 396) (by decide +kernel), by decide +kernel⟩
theorem tw_397 : gd_T (Cond.methodLink "IntervalRouting$Survey" 60 ⟨"IntervalRouting$Links", "isUp", "(II)Z"⟩) := ⟨List.mem_of_getElem? (i := 397) (by decide +kernel), by decide +kernel⟩
theorem tw_398 : gd_T (Cond.instanceMethod ⟨"IntervalRouting$Links", "isUp", "(II)Z"⟩) := ⟨List.mem_of_getElem? (i := 398) (by decide +kernel), by decide +kernel⟩
theorem tw_399 : gd_T (Cond.selects "IntervalRouting$Links" ⟨"IntervalRouting$Links", "isUp", "(II)Z"⟩ ⟨"IntervalRouting$Links", "isUp", "(II)Z"⟩) := ⟨List.mem_of_getElem? (i := 399) (by decide +kernel), by decide +kernel⟩
theorem tw_400 : gd_T (Cond.code ⟨"IntervalRouting$Links", "isUp", "(II)Z"⟩ prog_3_method_3_code 3 (some FieldType.boolean)) := ⟨List.mem_of_getElem? (i := 400) (by decide +kernel), by decide +kernel⟩
theorem tw_401 : gd_T (Cond.methodLink "IntervalRouting$Survey" 49 ⟨"IntervalRouting$Survey", "look", "(LIntervalRouting$State;[III)V"⟩) := ⟨List.mem_of_getElem? (i := 401) (by decide +kernel), by decide +kernel⟩
theorem tw_402 : gd_T (Cond.instanceMethod ⟨"IntervalRouting$Survey", "look", "(LIntervalRouting$State;[III)V"⟩) := ⟨List.mem_of_getElem? (i := 402) (by decide +kernel), by decide +kernel⟩
theorem tw_403 : gd_T (Cond.selects "IntervalRouting$Survey" ⟨"IntervalRouting$Survey", "look", "(LIntervalRouting$State;[III)V"⟩ ⟨"IntervalRouting$Survey", "look", "(LIntervalRouting$State;[III)V"⟩) := ⟨List.mem_of_getElem? (i := 403) (by decide +kernel), by decide +kernel⟩
theorem tw_404 : gd_T (Cond.code ⟨"IntervalRouting$Survey", "look", "(LIntervalRouting$State;[III)V"⟩ prog_5_method_6_code 6 (Option.none : Option Jvm.ClassFile.FieldType)) := ⟨List.mem_of_getElem? (i := 404) (by decide +kernel), by decide +kernel⟩
theorem tw_406 : gd_T (Cond.methodLink "IntervalRouting$Survey" 70 ⟨"IntervalRouting$Survey", "gather", "(LIntervalRouting$State;III)V"⟩) := ⟨List.mem_of_getElem? (i := 406) (by decide +kernel), by decide +kernel⟩
theorem tw_407 : gd_T (Cond.instanceMethod ⟨"IntervalRouting$Survey", "gather", "(LIntervalRouting$State;III)V"⟩) := ⟨List.mem_of_getElem? (i := 407) (by decide +kernel), by decide +kernel⟩
theorem tw_408 : gd_T (Cond.selects "IntervalRouting$Survey" ⟨"IntervalRouting$Survey", "gather", "(LIntervalRouting$State;III)V"⟩ ⟨"IntervalRouting$Survey", "gather", "(LIntervalRouting$State;III)V"⟩) := ⟨List.mem_of_getElem? (i := 408) (by decide +kernel), by decide +kernel⟩
theorem tw_409 : gd_T (Cond.code ⟨"IntervalRouting$Survey", "gather", "(LIntervalRouting$State;III)V"⟩ prog_5_method_7_code 7 (Option.none : Option Jvm.ClassFile.FieldType)) := ⟨List.mem_of_getElem? (i := 409) (by decide +kernel), by decide +kernel⟩
theorem tw_411 : gd_T (Cond.static ⟨"IntervalRouting", "slot", "(III)I"⟩) := ⟨List.mem_of_getElem? (i := 411) (by decide +kernel), by decide +kernel⟩
theorem tw_412 : gd_T (Cond.code ⟨"IntervalRouting", "slot", "(III)I"⟩ prog_1_method_34_code 3 (some FieldType.int)) := ⟨List.mem_of_getElem? (i := 412) (by decide +kernel), by decide +kernel⟩
theorem tw_413 : gd_T (Cond.methodLink "IntervalRouting$Survey" 100 ⟨"IntervalRouting$Tables", "isOpen", "(III)Z"⟩) := ⟨List.mem_of_getElem? (i := 413) (by decide +kernel), by decide +kernel⟩
theorem tw_414 : gd_T (Cond.instanceMethod ⟨"IntervalRouting$Tables", "isOpen", "(III)Z"⟩) := ⟨List.mem_of_getElem? (i := 414) (by decide +kernel), by decide +kernel⟩
theorem tw_415 : gd_T (Cond.selects "IntervalRouting$Tables" ⟨"IntervalRouting$Tables", "isOpen", "(III)Z"⟩ ⟨"IntervalRouting$Tables", "isOpen", "(III)Z"⟩) := ⟨List.mem_of_getElem? (i := 415) (by decide +kernel), by decide +kernel⟩
theorem tw_416 : gd_T (Cond.code ⟨"IntervalRouting$Tables", "isOpen", "(III)Z"⟩ prog_6_method_3_code 4 (some FieldType.boolean)) := ⟨List.mem_of_getElem? (i := 416) (by decide +kernel), by decide +kernel⟩
theorem tw_417 : gd_T (Cond.methodLink "IntervalRouting$Tables" 27 ⟨"IntervalRouting$Tables", "has", "(I)Z"⟩) := ⟨List.mem_of_getElem? (i := 417) (by decide +kernel), by decide +kernel⟩
theorem tw_418 : gd_T (Cond.instanceMethod ⟨"IntervalRouting$Tables", "has", "(I)Z"⟩) := ⟨List.mem_of_getElem? (i := 418) (by decide +kernel), by decide +kernel⟩
theorem tw_419 : gd_T (Cond.selects "IntervalRouting$Tables" ⟨"IntervalRouting$Tables", "has", "(I)Z"⟩ ⟨"IntervalRouting$Tables", "has", "(I)Z"⟩) := ⟨List.mem_of_getElem? (i := 419) (by decide +kernel), by decide +kernel⟩
theorem tw_420 : gd_T (Cond.code ⟨"IntervalRouting$Tables", "has", "(I)Z"⟩ prog_6_method_2_code 2 (some FieldType.boolean)) := ⟨List.mem_of_getElem? (i := 420) (by decide +kernel), by decide +kernel⟩
theorem tw_421 : gd_T (Cond.methodLink "IntervalRouting$Survey" 74 ⟨"IntervalRouting$Survey", "putDistance", "(IZ)V"⟩) := ⟨List.mem_of_getElem? (i := 421) (by decide +kernel), by decide +kernel⟩
theorem tw_422 : gd_T (Cond.instanceMethod ⟨"IntervalRouting$Survey", "putDistance", "(IZ)V"⟩) := ⟨List.mem_of_getElem? (i := 422) (by decide +kernel), by decide +kernel⟩
theorem tw_423 : gd_T (Cond.selects "IntervalRouting$Survey" ⟨"IntervalRouting$Survey", "putDistance", "(IZ)V"⟩ ⟨"IntervalRouting$Survey", "putDistance", "(IZ)V"⟩) := ⟨List.mem_of_getElem? (i := 423) (by decide +kernel), by decide +kernel⟩
theorem tw_424 : gd_T (Cond.code ⟨"IntervalRouting$Survey", "putDistance", "(IZ)V"⟩ prog_5_method_8_code 6 (Option.none : Option Jvm.ClassFile.FieldType)) := ⟨List.mem_of_getElem? (i := 424) (by decide +kernel), by decide +kernel⟩
theorem tw_425 : gd_T (Cond.methodLink "IntervalRouting$Survey" 108 ⟨"java/lang/Math", "min", "(II)I"⟩) := ⟨List.mem_of_getElem? (i := 425) (by decide +kernel), by decide +kernel⟩
theorem tw_426 : gd_T (Cond.static ⟨"java/lang/Math", "min", "(II)I"⟩) := ⟨List.mem_of_getElem? (i := 426) (by decide +kernel), by decide +kernel⟩
theorem tw_427 : gd_T (Cond.code ⟨"java/lang/Math", "min", "(II)I"⟩ prog_13_method_69_code 2 (some FieldType.int)) := ⟨List.mem_of_getElem? (i := 427) (by decide +kernel), by decide +kernel⟩
theorem tw_428 : gd_T (Cond.methodLink "IntervalRouting$Survey" 78 ⟨"IntervalRouting$Survey", "rankAll", "(I)V"⟩) := ⟨List.mem_of_getElem? (i := 428) (by decide +kernel), by decide +kernel⟩
theorem tw_429 : gd_T (Cond.instanceMethod ⟨"IntervalRouting$Survey", "rankAll", "(I)V"⟩) := ⟨List.mem_of_getElem? (i := 429) (by decide +kernel), by decide +kernel⟩
theorem tw_430 : gd_T (Cond.selects "IntervalRouting$Survey" ⟨"IntervalRouting$Survey", "rankAll", "(I)V"⟩ ⟨"IntervalRouting$Survey", "rankAll", "(I)V"⟩) := ⟨List.mem_of_getElem? (i := 430) (by decide +kernel), by decide +kernel⟩
theorem tw_431 : gd_T (Cond.code ⟨"IntervalRouting$Survey", "rankAll", "(I)V"⟩ prog_5_method_9_code 3 (Option.none : Option Jvm.ClassFile.FieldType)) := ⟨List.mem_of_getElem? (i := 431) (by decide +kernel), by decide +kernel⟩
theorem tw_432 : gd_T (Cond.methodLink "IntervalRouting$Survey" 113 ⟨"IntervalRouting$Survey", "regret", "(I)I"⟩) := ⟨List.mem_of_getElem? (i := 432) (by decide +kernel), by decide +kernel⟩
theorem tw_433 : gd_T (Cond.instanceMethod ⟨"IntervalRouting$Survey", "regret", "(I)I"⟩) := ⟨List.mem_of_getElem? (i := 433) (by decide +kernel), by decide +kernel⟩
theorem tw_434 : gd_T (Cond.selects "IntervalRouting$Survey" ⟨"IntervalRouting$Survey", "regret", "(I)I"⟩ ⟨"IntervalRouting$Survey", "regret", "(I)I"⟩) := ⟨List.mem_of_getElem? (i := 434) (by decide +kernel), by decide +kernel⟩
theorem tw_435 : gd_T (Cond.code ⟨"IntervalRouting$Survey", "regret", "(I)I"⟩ prog_5_method_12_code 4 (some FieldType.int)) := ⟨List.mem_of_getElem? (i := 435) (by decide +kernel), by decide +kernel⟩
theorem tw_436 : gd_T (Cond.methodLink "IntervalRouting$Survey" 120 ⟨"java/lang/Math", "max", "(II)I"⟩) := ⟨List.mem_of_getElem? (i := 436) (by decide +kernel), by decide +kernel⟩
theorem tw_437 : gd_T (Cond.static ⟨"java/lang/Math", "max", "(II)I"⟩) := ⟨List.mem_of_getElem? (i := 437) (by decide +kernel), by decide +kernel⟩
theorem tw_438 : gd_T (Cond.code ⟨"java/lang/Math", "max", "(II)I"⟩ prog_13_method_65_code 2 (some FieldType.int)) := ⟨List.mem_of_getElem? (i := 438) (by decide +kernel), by decide +kernel⟩
theorem tw_439 : gd_T (Cond.methodLink "IntervalRouting$Survey" 82 ⟨"IntervalRouting$Survey", "choose", "()I"⟩) := ⟨List.mem_of_getElem? (i := 439) (by decide +kernel), by decide +kernel⟩
theorem tw_440 : gd_T (Cond.instanceMethod ⟨"IntervalRouting$Survey", "choose", "()I"⟩) := ⟨List.mem_of_getElem? (i := 440) (by decide +kernel), by decide +kernel⟩
theorem tw_441 : gd_T (Cond.selects "IntervalRouting$Survey" ⟨"IntervalRouting$Survey", "choose", "()I"⟩ ⟨"IntervalRouting$Survey", "choose", "()I"⟩) := ⟨List.mem_of_getElem? (i := 441) (by decide +kernel), by decide +kernel⟩
theorem tw_442 : gd_T (Cond.code ⟨"IntervalRouting$Survey", "choose", "()I"⟩ prog_5_method_10_code 3 (some FieldType.int)) := ⟨List.mem_of_getElem? (i := 442) (by decide +kernel), by decide +kernel⟩
theorem tw_443 : gd_T (Cond.methodLink "IntervalRouting$Survey" 117 ⟨"IntervalRouting$Survey", "isBetter", "(II)Z"⟩) := ⟨List.mem_of_getElem? (i := 443) (by decide +kernel), by decide +kernel⟩
theorem tw_444 : gd_T (Cond.instanceMethod ⟨"IntervalRouting$Survey", "isBetter", "(II)Z"⟩) := ⟨List.mem_of_getElem? (i := 444) (by decide +kernel), by decide +kernel⟩
theorem tw_445 : gd_T (Cond.selects "IntervalRouting$Survey" ⟨"IntervalRouting$Survey", "isBetter", "(II)Z"⟩ ⟨"IntervalRouting$Survey", "isBetter", "(II)Z"⟩) := ⟨List.mem_of_getElem? (i := 445) (by decide +kernel), by decide +kernel⟩
theorem tw_446 : gd_T (Cond.code ⟨"IntervalRouting$Survey", "isBetter", "(II)Z"⟩ prog_5_method_11_code 3 (some FieldType.boolean)) := ⟨List.mem_of_getElem? (i := 446) (by decide +kernel), by decide +kernel⟩
theorem tw_447 : gd_T (Cond.methodLink "IntervalRouting" 242 ⟨"IntervalRouting", "chooseSpeakers", "(LIntervalRouting$State;)V"⟩) := ⟨List.mem_of_getElem? (i := 447) (by decide +kernel), by decide +kernel⟩
theorem tw_449 : gd_T (Cond.instanceMethod ⟨"IntervalRouting", "chooseSpeakers", "(LIntervalRouting$State;)V"⟩) := ⟨List.mem_of_getElem? (i := 449) (by decide +kernel), by decide +kernel⟩
theorem tw_450 : gd_T (Cond.code ⟨"IntervalRouting", "chooseSpeakers", "(LIntervalRouting$State;)V"⟩ prog_1_method_39_code 3 (Option.none : Option Jvm.ClassFile.FieldType)) := ⟨List.mem_of_getElem? (i := 450) (by decide +kernel), by decide +kernel⟩
theorem tw_451 : gd_T (Cond.methodLink "IntervalRouting" 252 ⟨"IntervalRouting", "isDue", "(LIntervalRouting$State;I)Z"⟩) := ⟨List.mem_of_getElem? (i := 451) (by decide +kernel), by decide +kernel⟩
theorem tw_453 : gd_T (Cond.instanceMethod ⟨"IntervalRouting", "isDue", "(LIntervalRouting$State;I)Z"⟩) := ⟨List.mem_of_getElem? (i := 453) (by decide +kernel), by decide +kernel⟩
theorem tw_454 : gd_T (Cond.code ⟨"IntervalRouting", "isDue", "(LIntervalRouting$State;I)Z"⟩ prog_1_method_40_code 4 (some FieldType.boolean)) := ⟨List.mem_of_getElem? (i := 454) (by decide +kernel), by decide +kernel⟩
theorem tw_455 : gd_T (Cond.methodLink "IntervalRouting" 260 ⟨"IntervalRouting$Vectors", "differs", "(IILIntervalRouting$Survey;)Z"⟩) := ⟨List.mem_of_getElem? (i := 455) (by decide +kernel), by decide +kernel⟩
theorem tw_456 : gd_T (Cond.instanceMethod ⟨"IntervalRouting$Vectors", "differs", "(IILIntervalRouting$Survey;)Z"⟩) := ⟨List.mem_of_getElem? (i := 456) (by decide +kernel), by decide +kernel⟩
theorem tw_457 : gd_T (Cond.selects "IntervalRouting$Vectors" ⟨"IntervalRouting$Vectors", "differs", "(IILIntervalRouting$Survey;)Z"⟩ ⟨"IntervalRouting$Vectors", "differs", "(IILIntervalRouting$Survey;)Z"⟩) := ⟨List.mem_of_getElem? (i := 457) (by decide +kernel), by decide +kernel⟩
theorem tw_458 : gd_T (Cond.code ⟨"IntervalRouting$Vectors", "differs", "(IILIntervalRouting$Survey;)Z"⟩ prog_7_method_2_code 6 (some FieldType.boolean)) := ⟨List.mem_of_getElem? (i := 458) (by decide +kernel), by decide +kernel⟩
theorem tw_460 : gd_T (Cond.methodLink "IntervalRouting" 266 ⟨"IntervalRouting$Vectors", "keep", "(IILIntervalRouting$Survey;)V"⟩) := ⟨List.mem_of_getElem? (i := 460) (by decide +kernel), by decide +kernel⟩
theorem tw_461 : gd_T (Cond.instanceMethod ⟨"IntervalRouting$Vectors", "keep", "(IILIntervalRouting$Survey;)V"⟩) := ⟨List.mem_of_getElem? (i := 461) (by decide +kernel), by decide +kernel⟩
theorem tw_462 : gd_T (Cond.selects "IntervalRouting$Vectors" ⟨"IntervalRouting$Vectors", "keep", "(IILIntervalRouting$Survey;)V"⟩ ⟨"IntervalRouting$Vectors", "keep", "(IILIntervalRouting$Survey;)V"⟩) := ⟨List.mem_of_getElem? (i := 462) (by decide +kernel), by decide +kernel⟩
theorem tw_463 : gd_T (Cond.code ⟨"IntervalRouting$Vectors", "keep", "(IILIntervalRouting$Survey;)V"⟩ prog_7_method_3_code 6 (Option.none : Option Jvm.ClassFile.FieldType)) := ⟨List.mem_of_getElem? (i := 463) (by decide +kernel), by decide +kernel⟩
theorem tw_464 : gd_T (Cond.methodLink "IntervalRouting" 245 ⟨"IntervalRouting", "speak", "(LIntervalRouting$State;I)V"⟩) := ⟨List.mem_of_getElem? (i := 464) (by decide +kernel), by decide +kernel⟩
theorem tw_466 : gd_T (Cond.instanceMethod ⟨"IntervalRouting", "speak", "(LIntervalRouting$State;I)V"⟩) := ⟨List.mem_of_getElem? (i := 466) (by decide +kernel), by decide +kernel⟩
theorem tw_467 : gd_T (Cond.code ⟨"IntervalRouting", "speak", "(LIntervalRouting$State;I)V"⟩ prog_1_method_41_code 5 (Option.none : Option Jvm.ClassFile.FieldType)) := ⟨List.mem_of_getElem? (i := 467) (by decide +kernel), by decide +kernel⟩
theorem tw_468 : gd_T (Cond.methodLink "IntervalRouting" 237 ⟨"IntervalRouting$Links", "isUp", "(II)Z"⟩) := ⟨List.mem_of_getElem? (i := 468) (by decide +kernel), by decide +kernel⟩
theorem tw_469 : gd_T (Cond.methodLink "IntervalRouting" 270 ⟨"IntervalRouting", "announce", "(LIntervalRouting$State;III)V"⟩) := ⟨List.mem_of_getElem? (i := 469) (by decide +kernel), by decide +kernel⟩
theorem tw_471 : gd_T (Cond.instanceMethod ⟨"IntervalRouting", "announce", "(LIntervalRouting$State;III)V"⟩) := ⟨List.mem_of_getElem? (i := 471) (by decide +kernel), by decide +kernel⟩
theorem tw_472 : gd_T (Cond.code ⟨"IntervalRouting", "announce", "(LIntervalRouting$State;III)V"⟩ prog_1_method_42_code 10 (Option.none : Option Jvm.ClassFile.FieldType)) := ⟨List.mem_of_getElem? (i := 472) (by decide +kernel), by decide +kernel⟩
theorem tw_473 : gd_T (Cond.methodLink "IntervalRouting" 178 ⟨"IntervalRouting$Survey", "reaches", "(I)Z"⟩) := ⟨List.mem_of_getElem? (i := 473) (by decide +kernel), by decide +kernel⟩
theorem tw_474 : gd_T (Cond.instanceMethod ⟨"IntervalRouting$Survey", "reaches", "(I)Z"⟩) := ⟨List.mem_of_getElem? (i := 474) (by decide +kernel), by decide +kernel⟩
theorem tw_475 : gd_T (Cond.selects "IntervalRouting$Survey" ⟨"IntervalRouting$Survey", "reaches", "(I)Z"⟩ ⟨"IntervalRouting$Survey", "reaches", "(I)Z"⟩) := ⟨List.mem_of_getElem? (i := 475) (by decide +kernel), by decide +kernel⟩
theorem tw_476 : gd_T (Cond.code ⟨"IntervalRouting$Survey", "reaches", "(I)Z"⟩ prog_5_method_2_code 2 (some FieldType.boolean)) := ⟨List.mem_of_getElem? (i := 476) (by decide +kernel), by decide +kernel⟩
theorem tw_477 : gd_T (Cond.methodLink "IntervalRouting" 274 ⟨"java/lang/Math", "min", "(II)I"⟩) := ⟨List.mem_of_getElem? (i := 477) (by decide +kernel), by decide +kernel⟩
theorem tw_478 : gd_T (Cond.methodLink "IntervalRouting" 136 ⟨"IntervalRouting", "slot", "(III)I"⟩) := ⟨List.mem_of_getElem? (i := 478) (by decide +kernel), by decide +kernel⟩
theorem tw_479 : gd_T (Cond.methodLink "IntervalRouting" 279 ⟨"IntervalRouting$Tables", "receive", "(IIII[I)V"⟩) := ⟨List.mem_of_getElem? (i := 479) (by decide +kernel), by decide +kernel⟩
theorem tw_480 : gd_T (Cond.instanceMethod ⟨"IntervalRouting$Tables", "receive", "(IIII[I)V"⟩) := ⟨List.mem_of_getElem? (i := 480) (by decide +kernel), by decide +kernel⟩
theorem tw_481 : gd_T (Cond.selects "IntervalRouting$Tables" ⟨"IntervalRouting$Tables", "receive", "(IIII[I)V"⟩ ⟨"IntervalRouting$Tables", "receive", "(IIII[I)V"⟩) := ⟨List.mem_of_getElem? (i := 481) (by decide +kernel), by decide +kernel⟩
theorem tw_482 : gd_T (Cond.code ⟨"IntervalRouting$Tables", "receive", "(IIII[I)V"⟩ prog_6_method_5_code 6 (Option.none : Option Jvm.ClassFile.FieldType)) := ⟨List.mem_of_getElem? (i := 482) (by decide +kernel), by decide +kernel⟩
theorem tw_483 : gd_T (Cond.methodLink "IntervalRouting$Tables" 31 ⟨"IntervalRouting$Tables", "countGrowth", "(II)V"⟩) := ⟨List.mem_of_getElem? (i := 483) (by decide +kernel), by decide +kernel⟩
theorem tw_484 : gd_T (Cond.instanceMethod ⟨"IntervalRouting$Tables", "countGrowth", "(II)V"⟩) := ⟨List.mem_of_getElem? (i := 484) (by decide +kernel), by decide +kernel⟩
theorem tw_485 : gd_T (Cond.selects "IntervalRouting$Tables" ⟨"IntervalRouting$Tables", "countGrowth", "(II)V"⟩ ⟨"IntervalRouting$Tables", "countGrowth", "(II)V"⟩) := ⟨List.mem_of_getElem? (i := 485) (by decide +kernel), by decide +kernel⟩
theorem tw_486 : gd_T (Cond.code ⟨"IntervalRouting$Tables", "countGrowth", "(II)V"⟩ prog_6_method_6_code 3 (Option.none : Option Jvm.ClassFile.FieldType)) := ⟨List.mem_of_getElem? (i := 486) (by decide +kernel), by decide +kernel⟩
theorem tw_487 : gd_T (Cond.methodLink "IntervalRouting" 249 ⟨"IntervalRouting", "noteChanges", "(LIntervalRouting$State;)I"⟩) := ⟨List.mem_of_getElem? (i := 487) (by decide +kernel), by decide +kernel⟩
theorem tw_489 : gd_T (Cond.instanceMethod ⟨"IntervalRouting", "noteChanges", "(LIntervalRouting$State;)I"⟩) := ⟨List.mem_of_getElem? (i := 489) (by decide +kernel), by decide +kernel⟩
theorem tw_490 : gd_T (Cond.code ⟨"IntervalRouting", "noteChanges", "(LIntervalRouting$State;)I"⟩ prog_1_method_43_code 7 (some FieldType.int)) := ⟨List.mem_of_getElem? (i := 490) (by decide +kernel), by decide +kernel⟩
theorem tw_491 : gd_T (Cond.methodLink "IntervalRouting" 286 ⟨"IntervalRouting$Journal", "add", "(IIII)V"⟩) := ⟨List.mem_of_getElem? (i := 491) (by decide +kernel), by decide +kernel⟩
theorem tw_492 : gd_T (Cond.instanceMethod ⟨"IntervalRouting$Journal", "add", "(IIII)V"⟩) := ⟨List.mem_of_getElem? (i := 492) (by decide +kernel), by decide +kernel⟩
theorem tw_493 : gd_T (Cond.selects "IntervalRouting$Journal" ⟨"IntervalRouting$Journal", "add", "(IIII)V"⟩ ⟨"IntervalRouting$Journal", "add", "(IIII)V"⟩) := ⟨List.mem_of_getElem? (i := 493) (by decide +kernel), by decide +kernel⟩
theorem tw_494 : gd_T (Cond.code ⟨"IntervalRouting$Journal", "add", "(IIII)V"⟩ prog_2_method_3_code 6 (Option.none : Option Jvm.ClassFile.FieldType)) := ⟨List.mem_of_getElem? (i := 494) (by decide +kernel), by decide +kernel⟩
theorem tw_495 : gd_T (Cond.methodLink "IntervalRoutingLaw" 49 ⟨"IntervalRouting", "time", "()I"⟩) := ⟨List.mem_of_getElem? (i := 495) (by decide +kernel), by decide +kernel⟩
theorem tw_496 : gd_T (Cond.instanceMethod ⟨"IntervalRouting", "time", "()I"⟩) := ⟨List.mem_of_getElem? (i := 496) (by decide +kernel), by decide +kernel⟩
theorem tw_497 : gd_T (Cond.selects "IntervalRouting" ⟨"IntervalRouting", "time", "()I"⟩ ⟨"IntervalRouting", "time", "()I"⟩) := ⟨List.mem_of_getElem? (i := 497) (by decide +kernel), by decide +kernel⟩
theorem tw_498 : gd_T (Cond.code ⟨"IntervalRouting", "time", "()I"⟩ prog_1_method_10_code 1 (some FieldType.int)) := ⟨List.mem_of_getElem? (i := 498) (by decide +kernel), by decide +kernel⟩
theorem tw_499 : gd_T (Cond.methodLink "IntervalRoutingLaw" 54 ⟨"IntervalRouting", "sent", "()I"⟩) := ⟨List.mem_of_getElem? (i := 499) (by decide +kernel), by decide +kernel⟩
theorem tw_500 : gd_T (Cond.instanceMethod ⟨"IntervalRouting", "sent", "()I"⟩) := ⟨List.mem_of_getElem? (i := 500) (by decide +kernel), by decide +kernel⟩
theorem tw_501 : gd_T (Cond.selects "IntervalRouting" ⟨"IntervalRouting", "sent", "()I"⟩ ⟨"IntervalRouting", "sent", "()I"⟩) := ⟨List.mem_of_getElem? (i := 501) (by decide +kernel), by decide +kernel⟩
theorem tw_502 : gd_T (Cond.code ⟨"IntervalRouting", "sent", "()I"⟩ prog_1_method_11_code 1 (some FieldType.int)) := ⟨List.mem_of_getElem? (i := 502) (by decide +kernel), by decide +kernel⟩
theorem tw_503 : gd_T (Cond.methodLink "IntervalRoutingLaw" 58 ⟨"IntervalRouting", "entry", "(IIII)I"⟩) := ⟨List.mem_of_getElem? (i := 503) (by decide +kernel), by decide +kernel⟩
theorem tw_504 : gd_T (Cond.instanceMethod ⟨"IntervalRouting", "entry", "(IIII)I"⟩) := ⟨List.mem_of_getElem? (i := 504) (by decide +kernel), by decide +kernel⟩
theorem tw_505 : gd_T (Cond.selects "IntervalRouting" ⟨"IntervalRouting", "entry", "(IIII)I"⟩ ⟨"IntervalRouting", "entry", "(IIII)I"⟩) := ⟨List.mem_of_getElem? (i := 505) (by decide +kernel), by decide +kernel⟩
theorem tw_506 : gd_T (Cond.code ⟨"IntervalRouting", "entry", "(IIII)I"⟩ prog_1_method_12_code 6 (some FieldType.int)) := ⟨List.mem_of_getElem? (i := 506) (by decide +kernel), by decide +kernel⟩
theorem tw_507 : gd_T (Cond.methodLink "IntervalRouting" 144 ⟨"IntervalRouting$Tables", "has", "(I)Z"⟩) := ⟨List.mem_of_getElem? (i := 507) (by decide +kernel), by decide +kernel⟩
theorem tw_508 : gd_T (Cond.methodLink "IntervalRouting" 160 ⟨"IntervalRouting$State", "isUsable", "(IIII)Z"⟩) := ⟨List.mem_of_getElem? (i := 508) (by decide +kernel), by decide +kernel⟩
theorem tw_509 : gd_T (Cond.instanceMethod ⟨"IntervalRouting$State", "isUsable", "(IIII)Z"⟩) := ⟨List.mem_of_getElem? (i := 509) (by decide +kernel), by decide +kernel⟩
theorem tw_510 : gd_T (Cond.selects "IntervalRouting$State" ⟨"IntervalRouting$State", "isUsable", "(IIII)Z"⟩ ⟨"IntervalRouting$State", "isUsable", "(IIII)Z"⟩) := ⟨List.mem_of_getElem? (i := 510) (by decide +kernel), by decide +kernel⟩
theorem tw_511 : gd_T (Cond.code ⟨"IntervalRouting$State", "isUsable", "(IIII)Z"⟩ prog_4_method_4_code 5 (some FieldType.boolean)) := ⟨List.mem_of_getElem? (i := 511) (by decide +kernel), by decide +kernel⟩
theorem tw_512 : gd_T (Cond.methodLink "IntervalRouting$State" 84 ⟨"IntervalRouting$Links", "isUp", "(II)Z"⟩) := ⟨List.mem_of_getElem? (i := 512) (by decide +kernel), by decide +kernel⟩
theorem tw_514 : gd_T (Cond.methodLink "IntervalRouting$State" 92 ⟨"IntervalRouting$Tables", "isOpen", "(III)Z"⟩) := ⟨List.mem_of_getElem? (i := 514) (by decide +kernel), by decide +kernel⟩
theorem tw_515 : gd_T (Cond.methodLink "IntervalRouting" 164 ⟨"IntervalRouting", "asNumber", "(Z)I"⟩) := ⟨List.mem_of_getElem? (i := 515) (by decide +kernel), by decide +kernel⟩
theorem tw_516 : gd_T (Cond.static ⟨"IntervalRouting", "asNumber", "(Z)I"⟩) := ⟨List.mem_of_getElem? (i := 516) (by decide +kernel), by decide +kernel⟩
theorem tw_517 : gd_T (Cond.code ⟨"IntervalRouting", "asNumber", "(Z)I"⟩ prog_1_method_32_code 1 (some FieldType.int)) := ⟨List.mem_of_getElem? (i := 517) (by decide +kernel), by decide +kernel⟩
theorem tw_518 : gd_T (Cond.methodLink "IntervalRouting" 168 ⟨"IntervalRouting$State", "isDominated", "(IIII)Z"⟩) := ⟨List.mem_of_getElem? (i := 518) (by decide +kernel), by decide +kernel⟩
theorem tw_519 : gd_T (Cond.instanceMethod ⟨"IntervalRouting$State", "isDominated", "(IIII)Z"⟩) := ⟨List.mem_of_getElem? (i := 519) (by decide +kernel), by decide +kernel⟩
theorem tw_520 : gd_T (Cond.selects "IntervalRouting$State" ⟨"IntervalRouting$State", "isDominated", "(IIII)Z"⟩ ⟨"IntervalRouting$State", "isDominated", "(IIII)Z"⟩) := ⟨List.mem_of_getElem? (i := 520) (by decide +kernel), by decide +kernel⟩
theorem tw_521 : gd_T (Cond.code ⟨"IntervalRouting$State", "isDominated", "(IIII)Z"⟩ prog_4_method_5_code 6 (some FieldType.boolean)) := ⟨List.mem_of_getElem? (i := 521) (by decide +kernel), by decide +kernel⟩
theorem tw_522 : gd_T (Cond.methodLink "IntervalRouting$State" 96 ⟨"IntervalRouting$State", "isUsable", "(IIII)Z"⟩) := ⟨List.mem_of_getElem? (i := 522) (by decide +kernel), by decide +kernel⟩
theorem tw_523 : gd_T (Cond.methodLink "IntervalRouting$State" 100 ⟨"IntervalRouting$Tables", "dominates", "(II)Z"⟩) := ⟨List.mem_of_getElem? (i := 523) (by decide +kernel), by decide +kernel⟩
theorem tw_524 : gd_T (Cond.instanceMethod ⟨"IntervalRouting$Tables", "dominates", "(II)Z"⟩) := ⟨List.mem_of_getElem? (i := 524) (by decide +kernel), by decide +kernel⟩
theorem tw_525 : gd_T (Cond.selects "IntervalRouting$Tables" ⟨"IntervalRouting$Tables", "dominates", "(II)Z"⟩ ⟨"IntervalRouting$Tables", "dominates", "(II)Z"⟩) := ⟨List.mem_of_getElem? (i := 525) (by decide +kernel), by decide +kernel⟩
theorem tw_526 : gd_T (Cond.code ⟨"IntervalRouting$Tables", "dominates", "(II)Z"⟩ prog_6_method_4_code 4 (some FieldType.boolean)) := ⟨List.mem_of_getElem? (i := 526) (by decide +kernel), by decide +kernel⟩
theorem tw_527 : gd_T (Cond.methodLink "IntervalRoutingLaw" 62 ⟨"IntervalRouting", "distance", "(III)I"⟩) := ⟨List.mem_of_getElem? (i := 527) (by decide +kernel), by decide +kernel⟩
theorem tw_528 : gd_T (Cond.instanceMethod ⟨"IntervalRouting", "distance", "(III)I"⟩) := ⟨List.mem_of_getElem? (i := 528) (by decide +kernel), by decide +kernel⟩
theorem tw_529 : gd_T (Cond.selects "IntervalRouting" ⟨"IntervalRouting", "distance", "(III)I"⟩ ⟨"IntervalRouting", "distance", "(III)I"⟩) := ⟨List.mem_of_getElem? (i := 529) (by decide +kernel), by decide +kernel⟩
theorem tw_530 : gd_T (Cond.code ⟨"IntervalRouting", "distance", "(III)I"⟩ prog_1_method_13_code 5 (some FieldType.int)) := ⟨List.mem_of_getElem? (i := 530) (by decide +kernel), by decide +kernel⟩
theorem tw_531 : gd_T (Cond.methodLink "IntervalRouting" 174 ⟨"IntervalRouting$Survey", "takeOne", "(LIntervalRouting$State;[III)V"⟩) := ⟨List.mem_of_getElem? (i := 531) (by decide +kernel), by decide +kernel⟩
theorem tw_532 : gd_T (Cond.instanceMethod ⟨"IntervalRouting$Survey", "takeOne", "(LIntervalRouting$State;[III)V"⟩) := ⟨List.mem_of_getElem? (i := 532) (by decide +kernel), by decide +kernel⟩
theorem tw_533 : gd_T (Cond.selects "IntervalRouting$Survey" ⟨"IntervalRouting$Survey", "takeOne", "(LIntervalRouting$State;[III)V"⟩ ⟨"IntervalRouting$Survey", "takeOne", "(LIntervalRouting$State;[III)V"⟩) := ⟨List.mem_of_getElem? (i := 533) (by decide +kernel), by decide +kernel⟩
theorem tw_534 : gd_T (Cond.code ⟨"IntervalRouting$Survey", "takeOne", "(LIntervalRouting$State;[III)V"⟩ prog_5_method_4_code 5 (Option.none : Option Jvm.ClassFile.FieldType)) := ⟨List.mem_of_getElem? (i := 534) (by decide +kernel), by decide +kernel⟩
theorem tw_535 : gd_T (Cond.methodLink "IntervalRoutingLaw" 66 ⟨"IntervalRouting", "choice", "(II)I"⟩) := ⟨List.mem_of_getElem? (i := 535) (by decide +kernel), by decide +kernel⟩
theorem tw_536 : gd_T (Cond.instanceMethod ⟨"IntervalRouting", "choice", "(II)I"⟩) := ⟨List.mem_of_getElem? (i := 536) (by decide +kernel), by decide +kernel⟩
theorem tw_537 : gd_T (Cond.selects "IntervalRouting" ⟨"IntervalRouting", "choice", "(II)I"⟩ ⟨"IntervalRouting", "choice", "(II)I"⟩) := ⟨List.mem_of_getElem? (i := 537) (by decide +kernel), by decide +kernel⟩
theorem tw_538 : gd_T (Cond.code ⟨"IntervalRouting", "choice", "(II)I"⟩ prog_1_method_14_code 4 (some FieldType.int)) := ⟨List.mem_of_getElem? (i := 538) (by decide +kernel), by decide +kernel⟩
theorem tw_539 : gd_T (Cond.methodLink "IntervalRoutingLaw" 70 ⟨"IntervalRouting", "entries", "(III)I"⟩) := ⟨List.mem_of_getElem? (i := 539) (by decide +kernel), by decide +kernel⟩
theorem tw_540 : gd_T (Cond.instanceMethod ⟨"IntervalRouting", "entries", "(III)I"⟩) := ⟨List.mem_of_getElem? (i := 540) (by decide +kernel), by decide +kernel⟩
theorem tw_541 : gd_T (Cond.selects "IntervalRouting" ⟨"IntervalRouting", "entries", "(III)I"⟩ ⟨"IntervalRouting", "entries", "(III)I"⟩) := ⟨List.mem_of_getElem? (i := 541) (by decide +kernel), by decide +kernel⟩
theorem tw_542 : gd_T (Cond.code ⟨"IntervalRouting", "entries", "(III)I"⟩ prog_1_method_15_code 6 (some FieldType.int)) := ⟨List.mem_of_getElem? (i := 542) (by decide +kernel), by decide +kernel⟩
theorem tw_543 : gd_T (Cond.methodLink "IntervalRouting" 186 ⟨"IntervalRouting", "counts", "(IIII)Z"⟩) := ⟨List.mem_of_getElem? (i := 543) (by decide +kernel), by decide +kernel⟩
theorem tw_545 : gd_T (Cond.instanceMethod ⟨"IntervalRouting", "counts", "(IIII)Z"⟩) := ⟨List.mem_of_getElem? (i := 545) (by decide +kernel), by decide +kernel⟩
theorem tw_546 : gd_T (Cond.code ⟨"IntervalRouting", "counts", "(IIII)Z"⟩ prog_1_method_35_code 6 (some FieldType.boolean)) := ⟨List.mem_of_getElem? (i := 546) (by decide +kernel), by decide +kernel⟩
theorem tw_547 : gd_T (Cond.methodLink "IntervalRoutingLaw" 74 ⟨"IntervalRouting", "meanWidthBits", "()I"⟩) := ⟨List.mem_of_getElem? (i := 547) (by decide +kernel), by decide +kernel⟩
theorem tw_548 : gd_T (Cond.instanceMethod ⟨"IntervalRouting", "meanWidthBits", "()I"⟩) := ⟨List.mem_of_getElem? (i := 548) (by decide +kernel), by decide +kernel⟩
theorem tw_549 : gd_T (Cond.selects "IntervalRouting" ⟨"IntervalRouting", "meanWidthBits", "()I"⟩ ⟨"IntervalRouting", "meanWidthBits", "()I"⟩) := ⟨List.mem_of_getElem? (i := 549) (by decide +kernel), by decide +kernel⟩
theorem tw_550 : gd_T (Cond.code ⟨"IntervalRouting", "meanWidthBits", "()I"⟩ prog_1_method_16_code 6 (some FieldType.int)) := ⟨List.mem_of_getElem? (i := 550) (by decide +kernel), by decide +kernel⟩
theorem tw_551 : gd_T (Cond.methodLink "IntervalRouting" 193 ⟨"IntervalRouting", "bitsOf", "(F)I"⟩) := ⟨List.mem_of_getElem? (i := 551) (by decide +kernel), by decide +kernel⟩
theorem tw_552 : gd_T (Cond.static ⟨"IntervalRouting", "bitsOf", "(F)I"⟩) := ⟨List.mem_of_getElem? (i := 552) (by decide +kernel), by decide +kernel⟩
theorem tw_553 : gd_T (Cond.code ⟨"IntervalRouting", "bitsOf", "(F)I"⟩ prog_1_method_37_code 4 (some FieldType.int)) := ⟨List.mem_of_getElem? (i := 553) (by decide +kernel), by decide +kernel⟩
theorem tw_554 : gd_T (Cond.constantFloat "IntervalRouting" 240 (1258291200 : UInt32)) := ⟨List.mem_of_getElem? (i := 554) (by decide +kernel), by decide +kernel⟩
theorem tw_555 : gd_T (Cond.constant "IntervalRouting" 241 (8388608 : Int32)) := ⟨List.mem_of_getElem? (i := 555) (by decide +kernel), by decide +kernel⟩
theorem tw_556 : gd_T (Cond.methodLink "IntervalRoutingLaw" 78 ⟨"IntervalRouting", "journalSize", "()I"⟩) := ⟨List.mem_of_getElem? (i := 556) (by decide +kernel), by decide +kernel⟩
theorem tw_557 : gd_T (Cond.instanceMethod ⟨"IntervalRouting", "journalSize", "()I"⟩) := ⟨List.mem_of_getElem? (i := 557) (by decide +kernel), by decide +kernel⟩
theorem tw_558 : gd_T (Cond.selects "IntervalRouting" ⟨"IntervalRouting", "journalSize", "()I"⟩ ⟨"IntervalRouting", "journalSize", "()I"⟩) := ⟨List.mem_of_getElem? (i := 558) (by decide +kernel), by decide +kernel⟩
theorem tw_559 : gd_T (Cond.code ⟨"IntervalRouting", "journalSize", "()I"⟩ prog_1_method_17_code 1 (some FieldType.int)) := ⟨List.mem_of_getElem? (i := 559) (by decide +kernel), by decide +kernel⟩
theorem tw_560 : gd_T (Cond.methodLink "IntervalRouting" 201 ⟨"IntervalRouting$Journal", "size", "()I"⟩) := ⟨List.mem_of_getElem? (i := 560) (by decide +kernel), by decide +kernel⟩
theorem tw_561 : gd_T (Cond.instanceMethod ⟨"IntervalRouting$Journal", "size", "()I"⟩) := ⟨List.mem_of_getElem? (i := 561) (by decide +kernel), by decide +kernel⟩
theorem tw_562 : gd_T (Cond.selects "IntervalRouting$Journal" ⟨"IntervalRouting$Journal", "size", "()I"⟩ ⟨"IntervalRouting$Journal", "size", "()I"⟩) := ⟨List.mem_of_getElem? (i := 562) (by decide +kernel), by decide +kernel⟩
theorem tw_563 : gd_T (Cond.code ⟨"IntervalRouting$Journal", "size", "()I"⟩ prog_2_method_2_code 1 (some FieldType.int)) := ⟨List.mem_of_getElem? (i := 563) (by decide +kernel), by decide +kernel⟩
theorem tw_564 : gd_T (Cond.methodLink "IntervalRouting$Journal" 19 ⟨"java/lang/Math", "min", "(II)I"⟩) := ⟨List.mem_of_getElem? (i := 564) (by decide +kernel), by decide +kernel⟩
theorem tw_565 : gd_T (Cond.methodLink "IntervalRoutingLaw" 82 ⟨"IntervalRouting", "journal", "(II)I"⟩) := ⟨List.mem_of_getElem? (i := 565) (by decide +kernel), by decide +kernel⟩
theorem tw_566 : gd_T (Cond.instanceMethod ⟨"IntervalRouting", "journal", "(II)I"⟩) := ⟨List.mem_of_getElem? (i := 566) (by decide +kernel), by decide +kernel⟩
theorem tw_567 : gd_T (Cond.selects "IntervalRouting" ⟨"IntervalRouting", "journal", "(II)I"⟩ ⟨"IntervalRouting", "journal", "(II)I"⟩) := ⟨List.mem_of_getElem? (i := 567) (by decide +kernel), by decide +kernel⟩
theorem tw_568 : gd_T (Cond.code ⟨"IntervalRouting", "journal", "(II)I"⟩ prog_1_method_18_code 3 (some FieldType.int)) := ⟨List.mem_of_getElem? (i := 568) (by decide +kernel), by decide +kernel⟩
theorem tw_569 : gd_T (Cond.methodLink "IntervalRouting" 207 ⟨"IntervalRouting$Journal", "value", "(II)I"⟩) := ⟨List.mem_of_getElem? (i := 569) (by decide +kernel), by decide +kernel⟩
theorem tw_570 : gd_T (Cond.instanceMethod ⟨"IntervalRouting$Journal", "value", "(II)I"⟩) := ⟨List.mem_of_getElem? (i := 570) (by decide +kernel), by decide +kernel⟩
theorem tw_571 : gd_T (Cond.selects "IntervalRouting$Journal" ⟨"IntervalRouting$Journal", "value", "(II)I"⟩ ⟨"IntervalRouting$Journal", "value", "(II)I"⟩) := ⟨List.mem_of_getElem? (i := 571) (by decide +kernel), by decide +kernel⟩
theorem tw_572 : gd_T (Cond.code ⟨"IntervalRouting$Journal", "value", "(II)I"⟩ prog_2_method_4_code 3 (some FieldType.int)) := ⟨List.mem_of_getElem? (i := 572) (by decide +kernel), by decide +kernel⟩
theorem tw_573 : gd_T (Cond.methodLink "IntervalRoutingLaw" 86 ⟨"IntervalRouting", "trueDistance", "(II)I"⟩) := ⟨List.mem_of_getElem? (i := 573) (by decide +kernel), by decide +kernel⟩
theorem tw_574 : gd_T (Cond.instanceMethod ⟨"IntervalRouting", "trueDistance", "(II)I"⟩) := ⟨List.mem_of_getElem? (i := 574) (by decide +kernel), by decide +kernel⟩
theorem tw_575 : gd_T (Cond.selects "IntervalRouting" ⟨"IntervalRouting", "trueDistance", "(II)I"⟩ ⟨"IntervalRouting", "trueDistance", "(II)I"⟩) := ⟨List.mem_of_getElem? (i := 575) (by decide +kernel), by decide +kernel⟩
theorem tw_576 : gd_T (Cond.code ⟨"IntervalRouting", "trueDistance", "(II)I"⟩ prog_1_method_19_code 4 (some FieldType.int)) := ⟨List.mem_of_getElem? (i := 576) (by decide +kernel), by decide +kernel⟩
theorem tw_577 : gd_T (Cond.methodLink "IntervalRouting" 210 ⟨"IntervalRouting$Ways", "measure", "(LIntervalRouting$Links;I)V"⟩) := ⟨List.mem_of_getElem? (i := 577) (by decide +kernel), by decide +kernel⟩
theorem tw_578 : gd_T (Cond.instanceMethod ⟨"IntervalRouting$Ways", "measure", "(LIntervalRouting$Links;I)V"⟩) := ⟨List.mem_of_getElem? (i := 578) (by decide +kernel), by decide +kernel⟩
theorem tw_579 : gd_T (Cond.selects "IntervalRouting$Ways" ⟨"IntervalRouting$Ways", "measure", "(LIntervalRouting$Links;I)V"⟩ ⟨"IntervalRouting$Ways", "measure", "(LIntervalRouting$Links;I)V"⟩) := ⟨List.mem_of_getElem? (i := 579) (by decide +kernel), by decide +kernel⟩
theorem tw_580 : gd_T (Cond.code ⟨"IntervalRouting$Ways", "measure", "(LIntervalRouting$Links;I)V"⟩ prog_8_method_3_code 7 (Option.none : Option Jvm.ClassFile.FieldType)) := ⟨List.mem_of_getElem? (i := 580) (by decide +kernel), by decide +kernel⟩
theorem tw_582 : gd_T (Cond.methodLink "IntervalRouting$Ways" 20 ⟨"IntervalRouting$Links", "isUp", "(II)Z"⟩) := ⟨List.mem_of_getElem? (i := 582) (by decide +kernel), by decide +kernel⟩
theorem tw_583 : gd_T (Cond.constant "IntervalRouting$Ways" 15 (1000000 : Int32)) := ⟨List.mem_of_getElem? (i := 583) (by decide +kernel), by decide +kernel⟩
theorem tw_584 : gd_T (Cond.methodLink "IntervalRouting$Ways" 29 ⟨"IntervalRouting$Ways", "shorten", "(II)V"⟩) := ⟨List.mem_of_getElem? (i := 584) (by decide +kernel), by decide +kernel⟩
theorem tw_585 : gd_T (Cond.instanceMethod ⟨"IntervalRouting$Ways", "shorten", "(II)V"⟩) := ⟨List.mem_of_getElem? (i := 585) (by decide +kernel), by decide +kernel⟩
theorem tw_586 : gd_T (Cond.selects "IntervalRouting$Ways" ⟨"IntervalRouting$Ways", "shorten", "(II)V"⟩ ⟨"IntervalRouting$Ways", "shorten", "(II)V"⟩) := ⟨List.mem_of_getElem? (i := 586) (by decide +kernel), by decide +kernel⟩
theorem tw_587 : gd_T (Cond.code ⟨"IntervalRouting$Ways", "shorten", "(II)V"⟩ prog_8_method_4_code 6 (Option.none : Option Jvm.ClassFile.FieldType)) := ⟨List.mem_of_getElem? (i := 587) (by decide +kernel), by decide +kernel⟩
theorem tw_588 : gd_T (Cond.methodLink "IntervalRouting$Ways" 33 ⟨"java/lang/Math", "min", "(II)I"⟩) := ⟨List.mem_of_getElem? (i := 588) (by decide +kernel), by decide +kernel⟩
theorem tw_589 : gd_T (Cond.methodLink "IntervalRouting" 214 ⟨"IntervalRouting$Ways", "exists", "(I)Z"⟩) := ⟨List.mem_of_getElem? (i := 589) (by decide +kernel), by decide +kernel⟩
theorem tw_590 : gd_T (Cond.instanceMethod ⟨"IntervalRouting$Ways", "exists", "(I)Z"⟩) := ⟨List.mem_of_getElem? (i := 590) (by decide +kernel), by decide +kernel⟩
theorem tw_591 : gd_T (Cond.selects "IntervalRouting$Ways" ⟨"IntervalRouting$Ways", "exists", "(I)Z"⟩ ⟨"IntervalRouting$Ways", "exists", "(I)Z"⟩) := ⟨List.mem_of_getElem? (i := 591) (by decide +kernel), by decide +kernel⟩
theorem tw_592 : gd_T (Cond.code ⟨"IntervalRouting$Ways", "exists", "(I)Z"⟩ prog_8_method_2_code 2 (some FieldType.boolean)) := ⟨List.mem_of_getElem? (i := 592) (by decide +kernel), by decide +kernel⟩
theorem tw_593 : gd_T (Cond.methodLink "IntervalRoutingLaw" 90 ⟨"IntervalRouting", "wrongPairs", "()I"⟩) := ⟨List.mem_of_getElem? (i := 593) (by decide +kernel), by decide +kernel⟩
theorem tw_594 : gd_T (Cond.instanceMethod ⟨"IntervalRouting", "wrongPairs", "()I"⟩) := ⟨List.mem_of_getElem? (i := 594) (by decide +kernel), by decide +kernel⟩
theorem tw_595 : gd_T (Cond.selects "IntervalRouting" ⟨"IntervalRouting", "wrongPairs", "()I"⟩ ⟨"IntervalRouting", "wrongPairs", "()I"⟩) := ⟨List.mem_of_getElem? (i := 595) (by decide +kernel), by decide +kernel⟩
theorem tw_596 : gd_T (Cond.code ⟨"IntervalRouting", "wrongPairs", "()I"⟩ prog_1_method_20_code 4 (some FieldType.int)) := ⟨List.mem_of_getElem? (i := 596) (by decide +kernel), by decide +kernel⟩
theorem tw_597 : gd_T (Cond.methodLink "IntervalRouting" 220 ⟨"IntervalRouting", "isWrong", "(I)Z"⟩) := ⟨List.mem_of_getElem? (i := 597) (by decide +kernel), by decide +kernel⟩
theorem tw_599 : gd_T (Cond.instanceMethod ⟨"IntervalRouting", "isWrong", "(I)Z"⟩) := ⟨List.mem_of_getElem? (i := 599) (by decide +kernel), by decide +kernel⟩
theorem tw_600 : gd_T (Cond.code ⟨"IntervalRouting", "isWrong", "(I)Z"⟩ prog_1_method_36_code 2 (some FieldType.boolean)) := ⟨List.mem_of_getElem? (i := 600) (by decide +kernel), by decide +kernel⟩
theorem tw_601 : gd_T (Cond.methodLink "IntervalRoutingLaw" 94 ⟨"IntervalRouting", "follow", "(II)I"⟩) := ⟨List.mem_of_getElem? (i := 601) (by decide +kernel), by decide +kernel⟩
theorem tw_602 : gd_T (Cond.instanceMethod ⟨"IntervalRouting", "follow", "(II)I"⟩) := ⟨List.mem_of_getElem? (i := 602) (by decide +kernel), by decide +kernel⟩
theorem tw_603 : gd_T (Cond.selects "IntervalRouting" ⟨"IntervalRouting", "follow", "(II)I"⟩ ⟨"IntervalRouting", "follow", "(II)I"⟩) := ⟨List.mem_of_getElem? (i := 603) (by decide +kernel), by decide +kernel⟩
theorem tw_604 : gd_T (Cond.code ⟨"IntervalRouting", "follow", "(II)I"⟩ prog_1_method_21_code 3 (some FieldType.int)) := ⟨List.mem_of_getElem? (i := 604) (by decide +kernel), by decide +kernel⟩
theorem tw_605 : gd_T (Cond.methodLink "IntervalRouting" 223 ⟨"IntervalRouting$Survey", "walk", "(II)I"⟩) := ⟨List.mem_of_getElem? (i := 605) (by decide +kernel), by decide +kernel⟩
theorem tw_606 : gd_T (Cond.instanceMethod ⟨"IntervalRouting$Survey", "walk", "(II)I"⟩) := ⟨List.mem_of_getElem? (i := 606) (by decide +kernel), by decide +kernel⟩
theorem tw_607 : gd_T (Cond.selects "IntervalRouting$Survey" ⟨"IntervalRouting$Survey", "walk", "(II)I"⟩ ⟨"IntervalRouting$Survey", "walk", "(II)I"⟩) := ⟨List.mem_of_getElem? (i := 607) (by decide +kernel), by decide +kernel⟩
theorem tw_608 : gd_T (Cond.code ⟨"IntervalRouting$Survey", "walk", "(II)I"⟩ prog_5_method_13_code 7 (some FieldType.int)) := ⟨List.mem_of_getElem? (i := 608) (by decide +kernel), by decide +kernel⟩
theorem tw_609 : gd_T (Cond.methodLink "IntervalRoutingLaw" 98 ⟨"IntervalRouting", "loops", "()I"⟩) := ⟨List.mem_of_getElem? (i := 609) (by decide +kernel), by decide +kernel⟩
theorem tw_610 : gd_T (Cond.instanceMethod ⟨"IntervalRouting", "loops", "()I"⟩) := ⟨List.mem_of_getElem? (i := 610) (by decide +kernel), by decide +kernel⟩
theorem tw_611 : gd_T (Cond.selects "IntervalRouting" ⟨"IntervalRouting", "loops", "()I"⟩ ⟨"IntervalRouting", "loops", "()I"⟩) := ⟨List.mem_of_getElem? (i := 611) (by decide +kernel), by decide +kernel⟩
theorem tw_612 : gd_T (Cond.code ⟨"IntervalRouting", "loops", "()I"⟩ prog_1_method_22_code 1 (some FieldType.int)) := ⟨List.mem_of_getElem? (i := 612) (by decide +kernel), by decide +kernel⟩
theorem tw_613 : gd_T (Cond.methodLink "IntervalRouting" 226 ⟨"IntervalRouting$Survey", "countLoops", "(I)I"⟩) := ⟨List.mem_of_getElem? (i := 613) (by decide +kernel), by decide +kernel⟩
theorem tw_614 : gd_T (Cond.instanceMethod ⟨"IntervalRouting$Survey", "countLoops", "(I)I"⟩) := ⟨List.mem_of_getElem? (i := 614) (by decide +kernel), by decide +kernel⟩
theorem tw_615 : gd_T (Cond.selects "IntervalRouting$Survey" ⟨"IntervalRouting$Survey", "countLoops", "(I)I"⟩ ⟨"IntervalRouting$Survey", "countLoops", "(I)I"⟩) := ⟨List.mem_of_getElem? (i := 615) (by decide +kernel), by decide +kernel⟩
theorem tw_616 : gd_T (Cond.code ⟨"IntervalRouting$Survey", "countLoops", "(I)I"⟩ prog_5_method_14_code 6 (some FieldType.int)) := ⟨List.mem_of_getElem? (i := 616) (by decide +kernel), by decide +kernel⟩
theorem tw_617 : gd_T (Cond.methodLink "IntervalRouting$Survey" 123 ⟨"IntervalRouting$Survey", "walk", "(II)I"⟩) := ⟨List.mem_of_getElem? (i := 617) (by decide +kernel), by decide +kernel⟩
theorem tw_618 : gd_T (Cond.methodLink "IntervalRoutingLaw" 102 ⟨"IntervalRouting", "settling", "()I"⟩) := ⟨List.mem_of_getElem? (i := 618) (by decide +kernel), by decide +kernel⟩
theorem tw_619 : gd_T (Cond.instanceMethod ⟨"IntervalRouting", "settling", "()I"⟩) := ⟨List.mem_of_getElem? (i := 619) (by decide +kernel), by decide +kernel⟩
theorem tw_620 : gd_T (Cond.selects "IntervalRouting" ⟨"IntervalRouting", "settling", "()I"⟩ ⟨"IntervalRouting", "settling", "()I"⟩) := ⟨List.mem_of_getElem? (i := 620) (by decide +kernel), by decide +kernel⟩
theorem tw_621 : gd_T (Cond.code ⟨"IntervalRouting", "settling", "()I"⟩ prog_1_method_23_code 4 (some FieldType.int)) := ⟨List.mem_of_getElem? (i := 621) (by decide +kernel), by decide +kernel⟩
theorem tw_622 : gd_T (Cond.methodLink "IntervalRouting" 230 ⟨"IntervalRouting$State", "copyFrom", "(LIntervalRouting$State;)V"⟩) := ⟨List.mem_of_getElem? (i := 622) (by decide +kernel), by decide +kernel⟩
theorem tw_623 : gd_T (Cond.instanceMethod ⟨"IntervalRouting$State", "copyFrom", "(LIntervalRouting$State;)V"⟩) := ⟨List.mem_of_getElem? (i := 623) (by decide +kernel), by decide +kernel⟩
theorem tw_624 : gd_T (Cond.selects "IntervalRouting$State" ⟨"IntervalRouting$State", "copyFrom", "(LIntervalRouting$State;)V"⟩ ⟨"IntervalRouting$State", "copyFrom", "(LIntervalRouting$State;)V"⟩) := ⟨List.mem_of_getElem? (i := 624) (by decide +kernel), by decide +kernel⟩
theorem tw_625 : gd_T (Cond.code ⟨"IntervalRouting$State", "copyFrom", "(LIntervalRouting$State;)V"⟩ prog_4_method_3_code 2 (Option.none : Option Jvm.ClassFile.FieldType)) := ⟨List.mem_of_getElem? (i := 625) (by decide +kernel), by decide +kernel⟩
theorem tw_626 : gd_T (Cond.methodLink "IntervalRouting$State" 65 ⟨"IntervalRouting$Links", "copyFrom", "(LIntervalRouting$Links;)V"⟩) := ⟨List.mem_of_getElem? (i := 626) (by decide +kernel), by decide +kernel⟩
theorem tw_627 : gd_T (Cond.instanceMethod ⟨"IntervalRouting$Links", "copyFrom", "(LIntervalRouting$Links;)V"⟩) := ⟨List.mem_of_getElem? (i := 627) (by decide +kernel), by decide +kernel⟩
theorem tw_628 : gd_T (Cond.selects "IntervalRouting$Links" ⟨"IntervalRouting$Links", "copyFrom", "(LIntervalRouting$Links;)V"⟩ ⟨"IntervalRouting$Links", "copyFrom", "(LIntervalRouting$Links;)V"⟩) := ⟨List.mem_of_getElem? (i := 628) (by decide +kernel), by decide +kernel⟩
theorem tw_629 : gd_T (Cond.code ⟨"IntervalRouting$Links", "copyFrom", "(LIntervalRouting$Links;)V"⟩ prog_3_method_10_code 2 (Option.none : Option Jvm.ClassFile.FieldType)) := ⟨List.mem_of_getElem? (i := 629) (by decide +kernel), by decide +kernel⟩
theorem tw_630 : gd_T (Cond.methodLink "IntervalRouting$Links" 49 ⟨"java/lang/System", "arraycopy", "(Ljava/lang/Object;ILjava/lang/Object;II)V"⟩) := ⟨List.mem_of_getElem? (i := 630) (by decide +kernel), by decide +kernel⟩
theorem tw_631 : gd_T (Cond.static ⟨"java/lang/System", "arraycopy", "(Ljava/lang/Object;ILjava/lang/Object;II)V"⟩) := ⟨List.mem_of_getElem? (i := 631) (by decide +kernel), by decide +kernel⟩
theorem tw_632 : gd_T (Cond.native ⟨"java/lang/System", "arraycopy", "(Ljava/lang/Object;ILjava/lang/Object;II)V"⟩) := ⟨List.mem_of_getElem? (i := 632) (by decide +kernel), by decide +kernel⟩
theorem tw_633 : gd_T (Cond.methodLink "IntervalRouting$State" 69 ⟨"IntervalRouting$Tables", "copyFrom", "(LIntervalRouting$Tables;)V"⟩) := ⟨List.mem_of_getElem? (i := 633) (by decide +kernel), by decide +kernel⟩
theorem tw_634 : gd_T (Cond.instanceMethod ⟨"IntervalRouting$Tables", "copyFrom", "(LIntervalRouting$Tables;)V"⟩) := ⟨List.mem_of_getElem? (i := 634) (by decide +kernel), by decide +kernel⟩
theorem tw_635 : gd_T (Cond.selects "IntervalRouting$Tables" ⟨"IntervalRouting$Tables", "copyFrom", "(LIntervalRouting$Tables;)V"⟩ ⟨"IntervalRouting$Tables", "copyFrom", "(LIntervalRouting$Tables;)V"⟩) := ⟨List.mem_of_getElem? (i := 635) (by decide +kernel), by decide +kernel⟩
theorem tw_636 : gd_T (Cond.code ⟨"IntervalRouting$Tables", "copyFrom", "(LIntervalRouting$Tables;)V"⟩ prog_6_method_8_code 2 (Option.none : Option Jvm.ClassFile.FieldType)) := ⟨List.mem_of_getElem? (i := 636) (by decide +kernel), by decide +kernel⟩
theorem tw_637 : gd_T (Cond.methodLink "IntervalRouting$Tables" 41 ⟨"java/lang/System", "arraycopy", "(Ljava/lang/Object;ILjava/lang/Object;II)V"⟩) := ⟨List.mem_of_getElem? (i := 637) (by decide +kernel), by decide +kernel⟩
theorem tw_638 : gd_T (Cond.methodLink "IntervalRouting$State" 72 ⟨"IntervalRouting$Vectors", "copyFrom", "(LIntervalRouting$Vectors;)V"⟩) := ⟨List.mem_of_getElem? (i := 638) (by decide +kernel), by decide +kernel⟩
theorem tw_639 : gd_T (Cond.instanceMethod ⟨"IntervalRouting$Vectors", "copyFrom", "(LIntervalRouting$Vectors;)V"⟩) := ⟨List.mem_of_getElem? (i := 639) (by decide +kernel), by decide +kernel⟩
theorem tw_640 : gd_T (Cond.selects "IntervalRouting$Vectors" ⟨"IntervalRouting$Vectors", "copyFrom", "(LIntervalRouting$Vectors;)V"⟩ ⟨"IntervalRouting$Vectors", "copyFrom", "(LIntervalRouting$Vectors;)V"⟩) := ⟨List.mem_of_getElem? (i := 640) (by decide +kernel), by decide +kernel⟩
theorem tw_641 : gd_T (Cond.code ⟨"IntervalRouting$Vectors", "copyFrom", "(LIntervalRouting$Vectors;)V"⟩ prog_7_method_5_code 2 (Option.none : Option Jvm.ClassFile.FieldType)) := ⟨List.mem_of_getElem? (i := 641) (by decide +kernel), by decide +kernel⟩
theorem tw_642 : gd_T (Cond.methodLink "IntervalRouting$Vectors" 32 ⟨"java/lang/System", "arraycopy", "(Ljava/lang/Object;ILjava/lang/Object;II)V"⟩) := ⟨List.mem_of_getElem? (i := 642) (by decide +kernel), by decide +kernel⟩
theorem tw_643 : gd_T (Cond.methodLink "IntervalRouting$State" 75 ⟨"IntervalRouting$Journal", "copyFrom", "(LIntervalRouting$Journal;)V"⟩) := ⟨List.mem_of_getElem? (i := 643) (by decide +kernel), by decide +kernel⟩
theorem tw_644 : gd_T (Cond.instanceMethod ⟨"IntervalRouting$Journal", "copyFrom", "(LIntervalRouting$Journal;)V"⟩) := ⟨List.mem_of_getElem? (i := 644) (by decide +kernel), by decide +kernel⟩
theorem tw_645 : gd_T (Cond.selects "IntervalRouting$Journal" ⟨"IntervalRouting$Journal", "copyFrom", "(LIntervalRouting$Journal;)V"⟩ ⟨"IntervalRouting$Journal", "copyFrom", "(LIntervalRouting$Journal;)V"⟩) := ⟨List.mem_of_getElem? (i := 645) (by decide +kernel), by decide +kernel⟩
theorem tw_646 : gd_T (Cond.code ⟨"IntervalRouting$Journal", "copyFrom", "(LIntervalRouting$Journal;)V"⟩ prog_2_method_6_code 2 (Option.none : Option Jvm.ClassFile.FieldType)) := ⟨List.mem_of_getElem? (i := 646) (by decide +kernel), by decide +kernel⟩
theorem tw_647 : gd_T (Cond.methodLink "IntervalRouting$Journal" 31 ⟨"java/lang/System", "arraycopy", "(Ljava/lang/Object;ILjava/lang/Object;II)V"⟩) := ⟨List.mem_of_getElem? (i := 647) (by decide +kernel), by decide +kernel⟩
theorem tw_648 : gd_T (Cond.methodLink "IntervalRouting$State" 78 ⟨"java/lang/System", "arraycopy", "(Ljava/lang/Object;ILjava/lang/Object;II)V"⟩) := ⟨List.mem_of_getElem? (i := 648) (by decide +kernel), by decide +kernel⟩
theorem tw_649 : gd_T (Cond.methodLink "IntervalRoutingLaw" 106 ⟨"IntervalRouting", "loss", "(II)I"⟩) := ⟨List.mem_of_getElem? (i := 649) (by decide +kernel), by decide +kernel⟩
theorem tw_650 : gd_T (Cond.instanceMethod ⟨"IntervalRouting", "loss", "(II)I"⟩) := ⟨List.mem_of_getElem? (i := 650) (by decide +kernel), by decide +kernel⟩
theorem tw_651 : gd_T (Cond.selects "IntervalRouting" ⟨"IntervalRouting", "loss", "(II)I"⟩ ⟨"IntervalRouting", "loss", "(II)I"⟩) := ⟨List.mem_of_getElem? (i := 651) (by decide +kernel), by decide +kernel⟩
theorem tw_652 : gd_T (Cond.code ⟨"IntervalRouting", "loss", "(II)I"⟩ prog_1_method_24_code 4 (some FieldType.int)) := ⟨List.mem_of_getElem? (i := 652) (by decide +kernel), by decide +kernel⟩
theorem tw_653 : gd_T (Cond.methodLink "IntervalRouting" 234 ⟨"IntervalRouting$Ways", "countPairs", "(I)I"⟩) := ⟨List.mem_of_getElem? (i := 653) (by decide +kernel), by decide +kernel⟩
theorem tw_654 : gd_T (Cond.instanceMethod ⟨"IntervalRouting$Ways", "countPairs", "(I)I"⟩) := ⟨List.mem_of_getElem? (i := 654) (by decide +kernel), by decide +kernel⟩
theorem tw_655 : gd_T (Cond.selects "IntervalRouting$Ways" ⟨"IntervalRouting$Ways", "countPairs", "(I)I"⟩ ⟨"IntervalRouting$Ways", "countPairs", "(I)I"⟩) := ⟨List.mem_of_getElem? (i := 655) (by decide +kernel), by decide +kernel⟩
theorem tw_656 : gd_T (Cond.code ⟨"IntervalRouting$Ways", "countPairs", "(I)I"⟩ prog_8_method_5_code 5 (some FieldType.int)) := ⟨List.mem_of_getElem? (i := 656) (by decide +kernel), by decide +kernel⟩
theorem tw_657 : gd_T (Cond.methodLink "IntervalRouting$Ways" 38 ⟨"IntervalRouting$Ways", "exists", "(I)Z"⟩) := ⟨List.mem_of_getElem? (i := 657) (by decide +kernel), by decide +kernel⟩
theorem tw_658 : gd_T (Cond.methodLink "IntervalRoutingLaw" 110 ⟨"IntervalRouting", "recovery", "(II)I"⟩) := ⟨List.mem_of_getElem? (i := 658) (by decide +kernel), by decide +kernel⟩
theorem tw_659 : gd_T (Cond.instanceMethod ⟨"IntervalRouting", "recovery", "(II)I"⟩) := ⟨List.mem_of_getElem? (i := 659) (by decide +kernel), by decide +kernel⟩
theorem tw_660 : gd_T (Cond.selects "IntervalRouting" ⟨"IntervalRouting", "recovery", "(II)I"⟩ ⟨"IntervalRouting", "recovery", "(II)I"⟩) := ⟨List.mem_of_getElem? (i := 660) (by decide +kernel), by decide +kernel⟩
theorem tw_661 : gd_T (Cond.code ⟨"IntervalRouting", "recovery", "(II)I"⟩ prog_1_method_25_code 5 (some FieldType.int)) := ⟨List.mem_of_getElem? (i := 661) (by decide +kernel), by decide +kernel⟩
theorem tw_662 : gd_T (Cond.methodLink "IntervalRoutingLaw" 114 ⟨"IntervalRouting", "store", "()I"⟩) := ⟨List.mem_of_getElem? (i := 662) (by decide +kernel), by decide +kernel⟩
theorem tw_663 : gd_T (Cond.instanceMethod ⟨"IntervalRouting", "store", "()I"⟩) := ⟨List.mem_of_getElem? (i := 663) (by decide +kernel), by decide +kernel⟩
theorem tw_664 : gd_T (Cond.selects "IntervalRouting" ⟨"IntervalRouting", "store", "()I"⟩ ⟨"IntervalRouting", "store", "()I"⟩) := ⟨List.mem_of_getElem? (i := 664) (by decide +kernel), by decide +kernel⟩
theorem tw_665 : gd_T (Cond.code ⟨"IntervalRouting", "store", "()I"⟩ prog_1_method_26_code 1 (some FieldType.int)) := ⟨List.mem_of_getElem? (i := 665) (by decide +kernel), by decide +kernel⟩
theorem tw_666 : gd_T (Cond.methodLink "IntervalRoutingLaw" 118 ⟨"IntervalRouting", "recall", "()I"⟩) := ⟨List.mem_of_getElem? (i := 666) (by decide +kernel), by decide +kernel⟩
theorem tw_667 : gd_T (Cond.instanceMethod ⟨"IntervalRouting", "recall", "()I"⟩) := ⟨List.mem_of_getElem? (i := 667) (by decide +kernel), by decide +kernel⟩
theorem tw_668 : gd_T (Cond.selects "IntervalRouting" ⟨"IntervalRouting", "recall", "()I"⟩ ⟨"IntervalRouting", "recall", "()I"⟩) := ⟨List.mem_of_getElem? (i := 668) (by decide +kernel), by decide +kernel⟩
theorem tw_669 : gd_T (Cond.code ⟨"IntervalRouting", "recall", "()I"⟩ prog_1_method_27_code 1 (some FieldType.int)) := ⟨List.mem_of_getElem? (i := 669) (by decide +kernel), by decide +kernel⟩
theorem tw_670 : gd_T (Cond.classLink "IntervalRoutingLaw" 10 "IntervalRoutingModel") := ⟨List.mem_of_getElem? (i := 670) (by decide +kernel), by decide +kernel⟩
theorem tw_671 : gd_T (Cond.instantiable "IntervalRoutingModel" 15) := ⟨List.mem_of_getElem? (i := 671) (by decide +kernel), by decide +kernel⟩
theorem tw_672 : gd_T (Cond.methodLink "IntervalRoutingLaw" 12 ⟨"IntervalRoutingModel", "<init>", "()V"⟩) := ⟨List.mem_of_getElem? (i := 672) (by decide +kernel), by decide +kernel⟩
theorem tw_673 : gd_T (Cond.instanceMethod ⟨"IntervalRoutingModel", "<init>", "()V"⟩) := ⟨List.mem_of_getElem? (i := 673) (by decide +kernel), by decide +kernel⟩
theorem tw_674 : gd_T (Cond.code ⟨"IntervalRoutingModel", "<init>", "()V"⟩ prog_10_method_1_code 1 (Option.none : Option Jvm.ClassFile.FieldType)) := ⟨List.mem_of_getElem? (i := 674) (by decide +kernel), by decide +kernel⟩
theorem tw_675 : gd_T (Cond.methodLink "IntervalRoutingModel" 1 ⟨"java/lang/Object", "<init>", "()V"⟩) := ⟨List.mem_of_getElem? (i := 675) (by decide +kernel), by decide +kernel⟩
theorem tw_676 : gd_T (Cond.methodLink "IntervalRoutingModel" 51 ⟨"IntervalRoutingModel", "begins", "()V"⟩) := ⟨List.mem_of_getElem? (i := 676) (by decide +kernel), by decide +kernel⟩
theorem tw_678 : gd_T (Cond.instanceMethod ⟨"IntervalRoutingModel", "begins", "()V"⟩) := ⟨List.mem_of_getElem? (i := 678) (by decide +kernel), by decide +kernel⟩
theorem tw_679 : gd_T (Cond.code ⟨"IntervalRoutingModel", "begins", "()V"⟩ prog_10_method_2_code 2 (Option.none : Option Jvm.ClassFile.FieldType)) := ⟨List.mem_of_getElem? (i := 679) (by decide +kernel), by decide +kernel⟩
theorem tw_680 : gd_T (Cond.fieldLink "IntervalRoutingModel" 7 "IntervalRoutingModel" "n" "I") := ⟨List.mem_of_getElem? (i := 680) (by decide +kernel), by decide +kernel⟩
theorem tw_681 : gd_T (Cond.fieldLink "IntervalRoutingModel" 13 "IntervalRoutingModel" "now" "[I") := ⟨List.mem_of_getElem? (i := 681) (by decide +kernel), by decide +kernel⟩
theorem tw_682 : gd_T (Cond.fieldLink "IntervalRoutingModel" 17 "IntervalRoutingModel" "aside" "[I") := ⟨List.mem_of_getElem? (i := 682) (by decide +kernel), by decide +kernel⟩
theorem tw_683 : gd_T (Cond.fieldLink "IntervalRoutingModel" 20 "IntervalRoutingModel" "stored" "[I") := ⟨List.mem_of_getElem? (i := 683) (by decide +kernel), by decide +kernel⟩
theorem tw_684 : gd_T (Cond.fieldLink "IntervalRoutingModel" 70 "IntervalRoutingModel" "isStored" "Z") := ⟨List.mem_of_getElem? (i := 684) (by decide +kernel), by decide +kernel⟩
theorem tw_685 : gd_T (Cond.fieldLink "IntervalRoutingModel" 23 "IntervalRoutingModel" "settings" "[I") := ⟨List.mem_of_getElem? (i := 685) (by decide +kernel), by decide +kernel⟩
theorem tw_686 : gd_T (Cond.fieldLink "IntervalRoutingModel" 26 "IntervalRoutingModel" "low" "[I") := ⟨List.mem_of_getElem? (i := 686) (by decide +kernel), by decide +kernel⟩
theorem tw_687 : gd_T (Cond.fieldLink "IntervalRoutingModel" 29 "IntervalRoutingModel" "high" "[I") := ⟨List.mem_of_getElem? (i := 687) (by decide +kernel), by decide +kernel⟩
theorem tw_688 : gd_T (Cond.fieldLink "IntervalRoutingModel" 32 "IntervalRoutingModel" "lowers" "[I") := ⟨List.mem_of_getElem? (i := 688) (by decide +kernel), by decide +kernel⟩
theorem tw_689 : gd_T (Cond.fieldLink "IntervalRoutingModel" 35 "IntervalRoutingModel" "uppers" "[I") := ⟨List.mem_of_getElem? (i := 689) (by decide +kernel), by decide +kernel⟩
theorem tw_690 : gd_T (Cond.fieldLink "IntervalRoutingModel" 38 "IntervalRoutingModel" "picks" "[I") := ⟨List.mem_of_getElem? (i := 690) (by decide +kernel), by decide +kernel⟩
theorem tw_691 : gd_T (Cond.fieldLink "IntervalRoutingModel" 41 "IntervalRoutingModel" "sends" "[Z") := ⟨List.mem_of_getElem? (i := 691) (by decide +kernel), by decide +kernel⟩
theorem tw_692 : gd_T (Cond.fieldLink "IntervalRoutingModel" 45 "IntervalRoutingModel" "ways" "[I") := ⟨List.mem_of_getElem? (i := 692) (by decide +kernel), by decide +kernel⟩
theorem tw_693 : gd_T (Cond.fieldLink "IntervalRoutingModel" 48 "IntervalRoutingModel" "changed" "[Z") := ⟨List.mem_of_getElem? (i := 693) (by decide +kernel), by decide +kernel⟩
theorem tw_694 : gd_T (Cond.fieldLink "IntervalRoutingModel" 121 "IntervalRoutingModel" "changes" "I") := ⟨List.mem_of_getElem? (i := 694) (by decide +kernel), by decide +kernel⟩
theorem tw_695 : gd_T (Cond.lays "IntervalRoutingModel" "IntervalRoutingModel" "n" "I") := ⟨List.mem_of_getElem? (i := 695) (by decide +kernel), by decide +kernel⟩
theorem tw_697 : gd_T (Cond.laysFinal "IntervalRoutingModel" "IntervalRoutingModel" "now" "[I") := ⟨List.mem_of_getElem? (i := 697) (by decide +kernel), by decide +kernel⟩
theorem tw_699 : gd_T (Cond.laysFinal "IntervalRoutingModel" "IntervalRoutingModel" "aside" "[I") := ⟨List.mem_of_getElem? (i := 699) (by decide +kernel), by decide +kernel⟩
theorem tw_701 : gd_T (Cond.laysFinal "IntervalRoutingModel" "IntervalRoutingModel" "stored" "[I") := ⟨List.mem_of_getElem? (i := 701) (by decide +kernel), by decide +kernel⟩
theorem tw_703 : gd_T (Cond.lays "IntervalRoutingModel" "IntervalRoutingModel" "isStored" "Z") := ⟨List.mem_of_getElem? (i := 703) (by decide +kernel), by decide +kernel⟩
theorem tw_705 : gd_T (Cond.laysFinal "IntervalRoutingModel" "IntervalRoutingModel" "settings" "[I") := ⟨List.mem_of_getElem? (i := 705) (by decide +kernel), by decide +kernel⟩
theorem tw_707 : gd_T (Cond.laysFinal "IntervalRoutingModel" "IntervalRoutingModel" "low" "[I") := ⟨List.mem_of_getElem? (i := 707) (by decide +kernel), by decide +kernel⟩
theorem tw_709 : gd_T (Cond.laysFinal "IntervalRoutingModel" "IntervalRoutingModel" "high" "[I") := ⟨List.mem_of_getElem? (i := 709) (by decide +kernel), by decide +kernel⟩
theorem tw_711 : gd_T (Cond.laysFinal "IntervalRoutingModel" "IntervalRoutingModel" "lowers" "[I") := ⟨List.mem_of_getElem? (i := 711) (by decide +kernel), by decide +kernel⟩
theorem tw_713 : gd_T (Cond.laysFinal "IntervalRoutingModel" "IntervalRoutingModel" "uppers" "[I") := ⟨List.mem_of_getElem? (i := 713) (by decide +kernel), by decide +kernel⟩
theorem tw_715 : gd_T (Cond.laysFinal "IntervalRoutingModel" "IntervalRoutingModel" "picks" "[I") := ⟨List.mem_of_getElem? (i := 715) (by decide +kernel), by decide +kernel⟩
theorem tw_717 : gd_T (Cond.laysFinal "IntervalRoutingModel" "IntervalRoutingModel" "sends" "[Z") := ⟨List.mem_of_getElem? (i := 717) (by decide +kernel), by decide +kernel⟩
theorem tw_719 : gd_T (Cond.laysFinal "IntervalRoutingModel" "IntervalRoutingModel" "ways" "[I") := ⟨List.mem_of_getElem? (i := 719) (by decide +kernel), by decide +kernel⟩
theorem tw_721 : gd_T (Cond.laysFinal "IntervalRoutingModel" "IntervalRoutingModel" "changed" "[Z") := ⟨List.mem_of_getElem? (i := 721) (by decide +kernel), by decide +kernel⟩
theorem tw_723 : gd_T (Cond.lays "IntervalRoutingModel" "IntervalRoutingModel" "changes" "I") := ⟨List.mem_of_getElem? (i := 723) (by decide +kernel), by decide +kernel⟩
theorem tw_726 : gd_T (Cond.methodLink "IntervalRoutingLaw" 17 ⟨"IntervalRoutingModel", "reset", "(I)I"⟩) := ⟨List.mem_of_getElem? (i := 726) (by decide +kernel), by decide +kernel⟩
theorem tw_727 : gd_T (Cond.instanceMethod ⟨"IntervalRoutingModel", "reset", "(I)I"⟩) := ⟨List.mem_of_getElem? (i := 727) (by decide +kernel), by decide +kernel⟩
theorem tw_728 : gd_T (Cond.selects "IntervalRoutingModel" ⟨"IntervalRoutingModel", "reset", "(I)I"⟩ ⟨"IntervalRoutingModel", "reset", "(I)I"⟩) := ⟨List.mem_of_getElem? (i := 728) (by decide +kernel), by decide +kernel⟩
theorem tw_729 : gd_T (Cond.code ⟨"IntervalRoutingModel", "reset", "(I)I"⟩ prog_10_method_11_code 3 (some FieldType.int)) := ⟨List.mem_of_getElem? (i := 729) (by decide +kernel), by decide +kernel⟩
theorem tw_730 : gd_T (Cond.methodLink "IntervalRoutingModel" 54 ⟨"IntervalRoutingModel", "in", "(III)Z"⟩) := ⟨List.mem_of_getElem? (i := 730) (by decide +kernel), by decide +kernel⟩
theorem tw_731 : gd_T (Cond.static ⟨"IntervalRoutingModel", "in", "(III)Z"⟩) := ⟨List.mem_of_getElem? (i := 731) (by decide +kernel), by decide +kernel⟩
theorem tw_732 : gd_T (Cond.code ⟨"IntervalRoutingModel", "in", "(III)Z"⟩ prog_10_method_3_code 3 (some FieldType.boolean)) := ⟨List.mem_of_getElem? (i := 732) (by decide +kernel), by decide +kernel⟩
theorem tw_733 : gd_T (Cond.methodLink "IntervalRoutingLaw" 22 ⟨"IntervalRoutingModel", "addLink", "(IIII)I"⟩) := ⟨List.mem_of_getElem? (i := 733) (by decide +kernel), by decide +kernel⟩
theorem tw_734 : gd_T (Cond.instanceMethod ⟨"IntervalRoutingModel", "addLink", "(IIII)I"⟩) := ⟨List.mem_of_getElem? (i := 734) (by decide +kernel), by decide +kernel⟩
theorem tw_735 : gd_T (Cond.selects "IntervalRoutingModel" ⟨"IntervalRoutingModel", "addLink", "(IIII)I"⟩ ⟨"IntervalRoutingModel", "addLink", "(IIII)I"⟩) := ⟨List.mem_of_getElem? (i := 735) (by decide +kernel), by decide +kernel⟩
theorem tw_736 : gd_T (Cond.code ⟨"IntervalRoutingModel", "addLink", "(IIII)I"⟩ prog_10_method_12_code 5 (some FieldType.int)) := ⟨List.mem_of_getElem? (i := 736) (by decide +kernel), by decide +kernel⟩
theorem tw_737 : gd_T (Cond.methodLink "IntervalRoutingModel" 74 ⟨"IntervalRoutingModel", "arePair", "(II)Z"⟩) := ⟨List.mem_of_getElem? (i := 737) (by decide +kernel), by decide +kernel⟩
theorem tw_739 : gd_T (Cond.instanceMethod ⟨"IntervalRoutingModel", "arePair", "(II)Z"⟩) := ⟨List.mem_of_getElem? (i := 739) (by decide +kernel), by decide +kernel⟩
theorem tw_740 : gd_T (Cond.code ⟨"IntervalRoutingModel", "arePair", "(II)Z"⟩ prog_10_method_5_code 3 (some FieldType.boolean)) := ⟨List.mem_of_getElem? (i := 740) (by decide +kernel), by decide +kernel⟩
theorem tw_741 : gd_T (Cond.methodLink "IntervalRoutingModel" 58 ⟨"IntervalRoutingModel", "isNode", "(I)Z"⟩) := ⟨List.mem_of_getElem? (i := 741) (by decide +kernel), by decide +kernel⟩
theorem tw_743 : gd_T (Cond.instanceMethod ⟨"IntervalRoutingModel", "isNode", "(I)Z"⟩) := ⟨List.mem_of_getElem? (i := 743) (by decide +kernel), by decide +kernel⟩
theorem tw_744 : gd_T (Cond.code ⟨"IntervalRoutingModel", "isNode", "(I)Z"⟩ prog_10_method_4_code 2 (some FieldType.boolean)) := ⟨List.mem_of_getElem? (i := 744) (by decide +kernel), by decide +kernel⟩
theorem tw_745 : gd_T (Cond.methodLink "IntervalRoutingModel" 66 ⟨"IntervalRoutingModel", "isLink", "(II)Z"⟩) := ⟨List.mem_of_getElem? (i := 745) (by decide +kernel), by decide +kernel⟩
theorem tw_747 : gd_T (Cond.instanceMethod ⟨"IntervalRoutingModel", "isLink", "(II)Z"⟩) := ⟨List.mem_of_getElem? (i := 747) (by decide +kernel), by decide +kernel⟩
theorem tw_748 : gd_T (Cond.code ⟨"IntervalRoutingModel", "isLink", "(II)Z"⟩ prog_10_method_8_code 3 (some FieldType.boolean)) := ⟨List.mem_of_getElem? (i := 748) (by decide +kernel), by decide +kernel⟩
theorem tw_749 : gd_T (Cond.methodLink "IntervalRoutingModel" 62 ⟨"IntervalRoutingModel", "linkAt", "(III)I"⟩) := ⟨List.mem_of_getElem? (i := 749) (by decide +kernel), by decide +kernel⟩
theorem tw_750 : gd_T (Cond.static ⟨"IntervalRoutingModel", "linkAt", "(III)I"⟩) := ⟨List.mem_of_getElem? (i := 750) (by decide +kernel), by decide +kernel⟩
theorem tw_751 : gd_T (Cond.code ⟨"IntervalRoutingModel", "linkAt", "(III)I"⟩ prog_10_method_6_code 3 (some FieldType.int)) := ⟨List.mem_of_getElem? (i := 751) (by decide +kernel), by decide +kernel⟩
theorem tw_752 : gd_T (Cond.methodLink "IntervalRoutingModel" 77 ⟨"IntervalRoutingModel", "sets", "(IIII)V"⟩) := ⟨List.mem_of_getElem? (i := 752) (by decide +kernel), by decide +kernel⟩
theorem tw_754 : gd_T (Cond.instanceMethod ⟨"IntervalRoutingModel", "sets", "(IIII)V"⟩) := ⟨List.mem_of_getElem? (i := 754) (by decide +kernel), by decide +kernel⟩
theorem tw_755 : gd_T (Cond.code ⟨"IntervalRoutingModel", "sets", "(IIII)V"⟩ prog_10_method_10_code 5 (Option.none : Option Jvm.ClassFile.FieldType)) := ⟨List.mem_of_getElem? (i := 755) (by decide +kernel), by decide +kernel⟩
theorem tw_756 : gd_T (Cond.methodLink "IntervalRoutingLaw" 27 ⟨"IntervalRoutingModel", "removeLink", "(II)I"⟩) := ⟨List.mem_of_getElem? (i := 756) (by decide +kernel), by decide +kernel⟩
theorem tw_757 : gd_T (Cond.instanceMethod ⟨"IntervalRoutingModel", "removeLink", "(II)I"⟩) := ⟨List.mem_of_getElem? (i := 757) (by decide +kernel), by decide +kernel⟩
theorem tw_758 : gd_T (Cond.selects "IntervalRoutingModel" ⟨"IntervalRoutingModel", "removeLink", "(II)I"⟩ ⟨"IntervalRoutingModel", "removeLink", "(II)I"⟩) := ⟨List.mem_of_getElem? (i := 758) (by decide +kernel), by decide +kernel⟩
theorem tw_759 : gd_T (Cond.code ⟨"IntervalRoutingModel", "removeLink", "(II)I"⟩ prog_10_method_13_code 4 (some FieldType.int)) := ⟨List.mem_of_getElem? (i := 759) (by decide +kernel), by decide +kernel⟩
theorem tw_760 : gd_T (Cond.methodLink "IntervalRoutingLaw" 32 ⟨"IntervalRoutingModel", "setCost", "(III)I"⟩) := ⟨List.mem_of_getElem? (i := 760) (by decide +kernel), by decide +kernel⟩
theorem tw_761 : gd_T (Cond.instanceMethod ⟨"IntervalRoutingModel", "setCost", "(III)I"⟩) := ⟨List.mem_of_getElem? (i := 761) (by decide +kernel), by decide +kernel⟩
theorem tw_762 : gd_T (Cond.selects "IntervalRoutingModel" ⟨"IntervalRoutingModel", "setCost", "(III)I"⟩ ⟨"IntervalRoutingModel", "setCost", "(III)I"⟩) := ⟨List.mem_of_getElem? (i := 762) (by decide +kernel), by decide +kernel⟩
theorem tw_763 : gd_T (Cond.code ⟨"IntervalRoutingModel", "setCost", "(III)I"⟩ prog_10_method_14_code 5 (some FieldType.int)) := ⟨List.mem_of_getElem? (i := 763) (by decide +kernel), by decide +kernel⟩
theorem tw_764 : gd_T (Cond.methodLink "IntervalRoutingLaw" 36 ⟨"IntervalRoutingModel", "setUp", "(III)I"⟩) := ⟨List.mem_of_getElem? (i := 764) (by decide +kernel), by decide +kernel⟩
theorem tw_765 : gd_T (Cond.instanceMethod ⟨"IntervalRoutingModel", "setUp", "(III)I"⟩) := ⟨List.mem_of_getElem? (i := 765) (by decide +kernel), by decide +kernel⟩
theorem tw_766 : gd_T (Cond.selects "IntervalRoutingModel" ⟨"IntervalRoutingModel", "setUp", "(III)I"⟩ ⟨"IntervalRoutingModel", "setUp", "(III)I"⟩) := ⟨List.mem_of_getElem? (i := 766) (by decide +kernel), by decide +kernel⟩
theorem tw_767 : gd_T (Cond.code ⟨"IntervalRoutingModel", "setUp", "(III)I"⟩ prog_10_method_15_code 5 (some FieldType.int)) := ⟨List.mem_of_getElem? (i := 767) (by decide +kernel), by decide +kernel⟩
theorem tw_768 : gd_T (Cond.methodLink "IntervalRoutingLaw" 40 ⟨"IntervalRoutingModel", "link", "(III)I"⟩) := ⟨List.mem_of_getElem? (i := 768) (by decide +kernel), by decide +kernel⟩
theorem tw_769 : gd_T (Cond.instanceMethod ⟨"IntervalRoutingModel", "link", "(III)I"⟩) := ⟨List.mem_of_getElem? (i := 769) (by decide +kernel), by decide +kernel⟩
theorem tw_770 : gd_T (Cond.selects "IntervalRoutingModel" ⟨"IntervalRoutingModel", "link", "(III)I"⟩ ⟨"IntervalRoutingModel", "link", "(III)I"⟩) := ⟨List.mem_of_getElem? (i := 770) (by decide +kernel), by decide +kernel⟩
theorem tw_771 : gd_T (Cond.code ⟨"IntervalRoutingModel", "link", "(III)I"⟩ prog_10_method_16_code 4 (some FieldType.int)) := ⟨List.mem_of_getElem? (i := 771) (by decide +kernel), by decide +kernel⟩
theorem tw_772 : gd_T (Cond.methodLink "IntervalRoutingLaw" 44 ⟨"IntervalRoutingModel", "set", "(II)I"⟩) := ⟨List.mem_of_getElem? (i := 772) (by decide +kernel), by decide +kernel⟩
theorem tw_773 : gd_T (Cond.instanceMethod ⟨"IntervalRoutingModel", "set", "(II)I"⟩) := ⟨List.mem_of_getElem? (i := 773) (by decide +kernel), by decide +kernel⟩
theorem tw_774 : gd_T (Cond.selects "IntervalRoutingModel" ⟨"IntervalRoutingModel", "set", "(II)I"⟩ ⟨"IntervalRoutingModel", "set", "(II)I"⟩) := ⟨List.mem_of_getElem? (i := 774) (by decide +kernel), by decide +kernel⟩
theorem tw_775 : gd_T (Cond.code ⟨"IntervalRoutingModel", "set", "(II)I"⟩ prog_10_method_17_code 4 (some FieldType.int)) := ⟨List.mem_of_getElem? (i := 775) (by decide +kernel), by decide +kernel⟩
theorem tw_776 : gd_T (Cond.methodLink "IntervalRoutingLaw" 48 ⟨"IntervalRoutingModel", "run", "(I)I"⟩) := ⟨List.mem_of_getElem? (i := 776) (by decide +kernel), by decide +kernel⟩
theorem tw_777 : gd_T (Cond.instanceMethod ⟨"IntervalRoutingModel", "run", "(I)I"⟩) := ⟨List.mem_of_getElem? (i := 777) (by decide +kernel), by decide +kernel⟩
theorem tw_778 : gd_T (Cond.selects "IntervalRoutingModel" ⟨"IntervalRoutingModel", "run", "(I)I"⟩ ⟨"IntervalRoutingModel", "run", "(I)I"⟩) := ⟨List.mem_of_getElem? (i := 778) (by decide +kernel), by decide +kernel⟩
theorem tw_779 : gd_T (Cond.code ⟨"IntervalRoutingModel", "run", "(I)I"⟩ prog_10_method_35_code 3 (some FieldType.int)) := ⟨List.mem_of_getElem? (i := 779) (by decide +kernel), by decide +kernel⟩
theorem tw_780 : gd_T (Cond.constant "IntervalRoutingModel" 141 (100000 : Int32)) := ⟨List.mem_of_getElem? (i := 780) (by decide +kernel), by decide +kernel⟩
theorem tw_781 : gd_T (Cond.methodLink "IntervalRoutingModel" 142 ⟨"IntervalRoutingModel", "tick", "()V"⟩) := ⟨List.mem_of_getElem? (i := 781) (by decide +kernel), by decide +kernel⟩
theorem tw_783 : gd_T (Cond.instanceMethod ⟨"IntervalRoutingModel", "tick", "()V"⟩) := ⟨List.mem_of_getElem? (i := 783) (by decide +kernel), by decide +kernel⟩
theorem tw_784 : gd_T (Cond.code ⟨"IntervalRoutingModel", "tick", "()V"⟩ prog_10_method_34_code 4 (Option.none : Option Jvm.ClassFile.FieldType)) := ⟨List.mem_of_getElem? (i := 784) (by decide +kernel), by decide +kernel⟩
theorem tw_785 : gd_T (Cond.methodLink "IntervalRoutingModel" 124 ⟨"IntervalRoutingModel", "looks", "()V"⟩) := ⟨List.mem_of_getElem? (i := 785) (by decide +kernel), by decide +kernel⟩
theorem tw_787 : gd_T (Cond.instanceMethod ⟨"IntervalRoutingModel", "looks", "()V"⟩) := ⟨List.mem_of_getElem? (i := 787) (by decide +kernel), by decide +kernel⟩
theorem tw_788 : gd_T (Cond.code ⟨"IntervalRoutingModel", "looks", "()V"⟩ prog_10_method_26_code 5 (Option.none : Option Jvm.ClassFile.FieldType)) := ⟨List.mem_of_getElem? (i := 788) (by decide +kernel), by decide +kernel⟩
theorem tw_789 : gd_T (Cond.methodLink "IntervalRoutingModel" 104 ⟨"IntervalRoutingModel", "boundOf", "(III)I"⟩) := ⟨List.mem_of_getElem? (i := 789) (by decide +kernel), by decide +kernel⟩
theorem tw_791 : gd_T (Cond.instanceMethod ⟨"IntervalRoutingModel", "boundOf", "(III)I"⟩) := ⟨List.mem_of_getElem? (i := 791) (by decide +kernel), by decide +kernel⟩
theorem tw_792 : gd_T (Cond.code ⟨"IntervalRoutingModel", "boundOf", "(III)I"⟩ prog_10_method_22_code 4 (some FieldType.int)) := ⟨List.mem_of_getElem? (i := 792) (by decide +kernel), by decide +kernel⟩
theorem tw_793 : gd_T (Cond.methodLink "IntervalRoutingModel" 97 ⟨"IntervalRoutingModel", "least", "(IIII)I"⟩) := ⟨List.mem_of_getElem? (i := 793) (by decide +kernel), by decide +kernel⟩
theorem tw_795 : gd_T (Cond.instanceMethod ⟨"IntervalRoutingModel", "least", "(IIII)I"⟩) := ⟨List.mem_of_getElem? (i := 795) (by decide +kernel), by decide +kernel⟩
theorem tw_796 : gd_T (Cond.code ⟨"IntervalRoutingModel", "least", "(IIII)I"⟩ prog_10_method_21_code 8 (some FieldType.int)) := ⟨List.mem_of_getElem? (i := 796) (by decide +kernel), by decide +kernel⟩
theorem tw_797 : gd_T (Cond.methodLink "IntervalRoutingModel" 94 ⟨"IntervalRoutingModel", "isUsable", "(III)Z"⟩) := ⟨List.mem_of_getElem? (i := 797) (by decide +kernel), by decide +kernel⟩
theorem tw_799 : gd_T (Cond.instanceMethod ⟨"IntervalRoutingModel", "isUsable", "(III)Z"⟩) := ⟨List.mem_of_getElem? (i := 799) (by decide +kernel), by decide +kernel⟩
theorem tw_800 : gd_T (Cond.code ⟨"IntervalRoutingModel", "isUsable", "(III)Z"⟩ prog_10_method_20_code 5 (some FieldType.boolean)) := ⟨List.mem_of_getElem? (i := 800) (by decide +kernel), by decide +kernel⟩
theorem tw_801 : gd_T (Cond.methodLink "IntervalRoutingModel" 88 ⟨"IntervalRoutingModel", "isEntry", "(III)Z"⟩) := ⟨List.mem_of_getElem? (i := 801) (by decide +kernel), by decide +kernel⟩
theorem tw_803 : gd_T (Cond.instanceMethod ⟨"IntervalRoutingModel", "isEntry", "(III)Z"⟩) := ⟨List.mem_of_getElem? (i := 803) (by decide +kernel), by decide +kernel⟩
theorem tw_804 : gd_T (Cond.code ⟨"IntervalRoutingModel", "isEntry", "(III)Z"⟩ prog_10_method_19_code 4 (some FieldType.boolean)) := ⟨List.mem_of_getElem? (i := 804) (by decide +kernel), by decide +kernel⟩
theorem tw_805 : gd_T (Cond.methodLink "IntervalRoutingModel" 85 ⟨"IntervalRoutingModel", "of", "(IIII)I"⟩) := ⟨List.mem_of_getElem? (i := 805) (by decide +kernel), by decide +kernel⟩
theorem tw_807 : gd_T (Cond.instanceMethod ⟨"IntervalRoutingModel", "of", "(IIII)I"⟩) := ⟨List.mem_of_getElem? (i := 807) (by decide +kernel), by decide +kernel⟩
theorem tw_808 : gd_T (Cond.code ⟨"IntervalRoutingModel", "of", "(IIII)I"⟩ prog_10_method_18_code 5 (some FieldType.int)) := ⟨List.mem_of_getElem? (i := 808) (by decide +kernel), by decide +kernel⟩
theorem tw_809 : gd_T (Cond.methodLink "IntervalRoutingModel" 81 ⟨"IntervalRoutingModel", "entryAt", "(IIII)I"⟩) := ⟨List.mem_of_getElem? (i := 809) (by decide +kernel), by decide +kernel⟩
theorem tw_810 : gd_T (Cond.static ⟨"IntervalRoutingModel", "entryAt", "(IIII)I"⟩) := ⟨List.mem_of_getElem? (i := 810) (by decide +kernel), by decide +kernel⟩
theorem tw_811 : gd_T (Cond.code ⟨"IntervalRoutingModel", "entryAt", "(IIII)I"⟩ prog_10_method_7_code 4 (some FieldType.int)) := ⟨List.mem_of_getElem? (i := 811) (by decide +kernel), by decide +kernel⟩
theorem tw_812 : gd_T (Cond.methodLink "IntervalRoutingModel" 91 ⟨"IntervalRoutingModel", "areNear", "(II)Z"⟩) := ⟨List.mem_of_getElem? (i := 812) (by decide +kernel), by decide +kernel⟩
theorem tw_814 : gd_T (Cond.instanceMethod ⟨"IntervalRoutingModel", "areNear", "(II)Z"⟩) := ⟨List.mem_of_getElem? (i := 814) (by decide +kernel), by decide +kernel⟩
theorem tw_815 : gd_T (Cond.code ⟨"IntervalRoutingModel", "areNear", "(II)Z"⟩ prog_10_method_9_code 3 (some FieldType.boolean)) := ⟨List.mem_of_getElem? (i := 815) (by decide +kernel), by decide +kernel⟩
theorem tw_816 : gd_T (Cond.methodLink "IntervalRoutingModel" 107 ⟨"IntervalRoutingModel", "choiceOf", "(II)I"⟩) := ⟨List.mem_of_getElem? (i := 816) (by decide +kernel), by decide +kernel⟩
theorem tw_818 : gd_T (Cond.instanceMethod ⟨"IntervalRoutingModel", "choiceOf", "(II)I"⟩) := ⟨List.mem_of_getElem? (i := 818) (by decide +kernel), by decide +kernel⟩
theorem tw_819 : gd_T (Cond.code ⟨"IntervalRoutingModel", "choiceOf", "(II)I"⟩ prog_10_method_24_code 6 (some FieldType.int)) := ⟨List.mem_of_getElem? (i := 819) (by decide +kernel), by decide +kernel⟩
theorem tw_820 : gd_T (Cond.methodLink "IntervalRoutingModel" 100 ⟨"IntervalRoutingModel", "weight", "(IIIZ)I"⟩) := ⟨List.mem_of_getElem? (i := 820) (by decide +kernel), by decide +kernel⟩
theorem tw_822 : gd_T (Cond.instanceMethod ⟨"IntervalRoutingModel", "weight", "(IIIZ)I"⟩) := ⟨List.mem_of_getElem? (i := 822) (by decide +kernel), by decide +kernel⟩
theorem tw_823 : gd_T (Cond.code ⟨"IntervalRoutingModel", "weight", "(IIIZ)I"⟩ prog_10_method_23_code 8 (some FieldType.int)) := ⟨List.mem_of_getElem? (i := 823) (by decide +kernel), by decide +kernel⟩
theorem tw_824 : gd_T (Cond.methodLink "IntervalRoutingModel" 127 ⟨"IntervalRoutingModel", "isNew", "(I)Z"⟩) := ⟨List.mem_of_getElem? (i := 824) (by decide +kernel), by decide +kernel⟩
theorem tw_826 : gd_T (Cond.instanceMethod ⟨"IntervalRoutingModel", "isNew", "(I)Z"⟩) := ⟨List.mem_of_getElem? (i := 826) (by decide +kernel), by decide +kernel⟩
theorem tw_827 : gd_T (Cond.code ⟨"IntervalRoutingModel", "isNew", "(I)Z"⟩ prog_10_method_28_code 4 (some FieldType.boolean)) := ⟨List.mem_of_getElem? (i := 827) (by decide +kernel), by decide +kernel⟩
theorem tw_828 : gd_T (Cond.methodLink "IntervalRoutingModel" 111 ⟨"IntervalRoutingModel", "sentAt", "(II)I"⟩) := ⟨List.mem_of_getElem? (i := 828) (by decide +kernel), by decide +kernel⟩
theorem tw_829 : gd_T (Cond.static ⟨"IntervalRoutingModel", "sentAt", "(II)I"⟩) := ⟨List.mem_of_getElem? (i := 829) (by decide +kernel), by decide +kernel⟩
theorem tw_830 : gd_T (Cond.code ⟨"IntervalRoutingModel", "sentAt", "(II)I"⟩ prog_10_method_27_code 2 (some FieldType.int)) := ⟨List.mem_of_getElem? (i := 830) (by decide +kernel), by decide +kernel⟩
theorem tw_831 : gd_T (Cond.methodLink "IntervalRoutingModel" 130 ⟨"IntervalRoutingModel", "sendsAll", "(I)V"⟩) := ⟨List.mem_of_getElem? (i := 831) (by decide +kernel), by decide +kernel⟩
theorem tw_833 : gd_T (Cond.instanceMethod ⟨"IntervalRoutingModel", "sendsAll", "(I)V"⟩) := ⟨List.mem_of_getElem? (i := 833) (by decide +kernel), by decide +kernel⟩
theorem tw_834 : gd_T (Cond.code ⟨"IntervalRoutingModel", "sendsAll", "(I)V"⟩ prog_10_method_32_code 6 (Option.none : Option Jvm.ClassFile.FieldType)) := ⟨List.mem_of_getElem? (i := 834) (by decide +kernel), by decide +kernel⟩
theorem tw_835 : gd_T (Cond.methodLink "IntervalRoutingModel" 117 ⟨"IntervalRoutingModel", "receives", "(IIIZ)V"⟩) := ⟨List.mem_of_getElem? (i := 835) (by decide +kernel), by decide +kernel⟩
theorem tw_837 : gd_T (Cond.instanceMethod ⟨"IntervalRoutingModel", "receives", "(IIIZ)V"⟩) := ⟨List.mem_of_getElem? (i := 837) (by decide +kernel), by decide +kernel⟩
theorem tw_838 : gd_T (Cond.code ⟨"IntervalRoutingModel", "receives", "(IIIZ)V"⟩ prog_10_method_31_code 11 (Option.none : Option Jvm.ClassFile.FieldType)) := ⟨List.mem_of_getElem? (i := 838) (by decide +kernel), by decide +kernel⟩
theorem tw_839 : gd_T (Cond.methodLink "IntervalRoutingModel" 114 ⟨"IntervalRoutingModel", "limited", "(II)I"⟩) := ⟨List.mem_of_getElem? (i := 839) (by decide +kernel), by decide +kernel⟩
theorem tw_840 : gd_T (Cond.static ⟨"IntervalRoutingModel", "limited", "(II)I"⟩) := ⟨List.mem_of_getElem? (i := 840) (by decide +kernel), by decide +kernel⟩
theorem tw_841 : gd_T (Cond.code ⟨"IntervalRoutingModel", "limited", "(II)I"⟩ prog_10_method_30_code 2 (some FieldType.int)) := ⟨List.mem_of_getElem? (i := 841) (by decide +kernel), by decide +kernel⟩
theorem tw_842 : gd_T (Cond.methodLink "IntervalRoutingModel" 134 ⟨"IntervalRoutingModel", "keepsSent", "(I)V"⟩) := ⟨List.mem_of_getElem? (i := 842) (by decide +kernel), by decide +kernel⟩
theorem tw_844 : gd_T (Cond.instanceMethod ⟨"IntervalRoutingModel", "keepsSent", "(I)V"⟩) := ⟨List.mem_of_getElem? (i := 844) (by decide +kernel), by decide +kernel⟩
theorem tw_845 : gd_T (Cond.code ⟨"IntervalRoutingModel", "keepsSent", "(I)V"⟩ prog_10_method_29_code 3 (Option.none : Option Jvm.ClassFile.FieldType)) := ⟨List.mem_of_getElem? (i := 845) (by decide +kernel), by decide +kernel⟩
theorem tw_846 : gd_T (Cond.methodLink "IntervalRoutingModel" 137 ⟨"IntervalRoutingModel", "notes", "(III)V"⟩) := ⟨List.mem_of_getElem? (i := 846) (by decide +kernel), by decide +kernel⟩
theorem tw_848 : gd_T (Cond.instanceMethod ⟨"IntervalRoutingModel", "notes", "(III)V"⟩) := ⟨List.mem_of_getElem? (i := 848) (by decide +kernel), by decide +kernel⟩
theorem tw_849 : gd_T (Cond.code ⟨"IntervalRoutingModel", "notes", "(III)V"⟩ prog_10_method_33_code 5 (Option.none : Option Jvm.ClassFile.FieldType)) := ⟨List.mem_of_getElem? (i := 849) (by decide +kernel), by decide +kernel⟩
theorem tw_850 : gd_T (Cond.methodLink "IntervalRoutingLaw" 53 ⟨"IntervalRoutingModel", "time", "()I"⟩) := ⟨List.mem_of_getElem? (i := 850) (by decide +kernel), by decide +kernel⟩
theorem tw_851 : gd_T (Cond.instanceMethod ⟨"IntervalRoutingModel", "time", "()I"⟩) := ⟨List.mem_of_getElem? (i := 851) (by decide +kernel), by decide +kernel⟩
theorem tw_852 : gd_T (Cond.selects "IntervalRoutingModel" ⟨"IntervalRoutingModel", "time", "()I"⟩ ⟨"IntervalRoutingModel", "time", "()I"⟩) := ⟨List.mem_of_getElem? (i := 852) (by decide +kernel), by decide +kernel⟩
theorem tw_853 : gd_T (Cond.code ⟨"IntervalRoutingModel", "time", "()I"⟩ prog_10_method_36_code 1 (some FieldType.int)) := ⟨List.mem_of_getElem? (i := 853) (by decide +kernel), by decide +kernel⟩
theorem tw_854 : gd_T (Cond.methodLink "IntervalRoutingLaw" 57 ⟨"IntervalRoutingModel", "sent", "()I"⟩) := ⟨List.mem_of_getElem? (i := 854) (by decide +kernel), by decide +kernel⟩
theorem tw_855 : gd_T (Cond.instanceMethod ⟨"IntervalRoutingModel", "sent", "()I"⟩) := ⟨List.mem_of_getElem? (i := 855) (by decide +kernel), by decide +kernel⟩
theorem tw_856 : gd_T (Cond.selects "IntervalRoutingModel" ⟨"IntervalRoutingModel", "sent", "()I"⟩ ⟨"IntervalRoutingModel", "sent", "()I"⟩) := ⟨List.mem_of_getElem? (i := 856) (by decide +kernel), by decide +kernel⟩
theorem tw_857 : gd_T (Cond.code ⟨"IntervalRoutingModel", "sent", "()I"⟩ prog_10_method_37_code 1 (some FieldType.int)) := ⟨List.mem_of_getElem? (i := 857) (by decide +kernel), by decide +kernel⟩
theorem tw_858 : gd_T (Cond.methodLink "IntervalRoutingLaw" 61 ⟨"IntervalRoutingModel", "entry", "(IIII)I"⟩) := ⟨List.mem_of_getElem? (i := 858) (by decide +kernel), by decide +kernel⟩
theorem tw_859 : gd_T (Cond.instanceMethod ⟨"IntervalRoutingModel", "entry", "(IIII)I"⟩) := ⟨List.mem_of_getElem? (i := 859) (by decide +kernel), by decide +kernel⟩
theorem tw_860 : gd_T (Cond.selects "IntervalRoutingModel" ⟨"IntervalRoutingModel", "entry", "(IIII)I"⟩ ⟨"IntervalRoutingModel", "entry", "(IIII)I"⟩) := ⟨List.mem_of_getElem? (i := 860) (by decide +kernel), by decide +kernel⟩
theorem tw_861 : gd_T (Cond.code ⟨"IntervalRoutingModel", "entry", "(IIII)I"⟩ prog_10_method_38_code 5 (some FieldType.int)) := ⟨List.mem_of_getElem? (i := 861) (by decide +kernel), by decide +kernel⟩
theorem tw_862 : gd_T (Cond.methodLink "IntervalRoutingModel" 145 ⟨"IntervalRoutingModel", "isDominated", "(III)Z"⟩) := ⟨List.mem_of_getElem? (i := 862) (by decide +kernel), by decide +kernel⟩
theorem tw_864 : gd_T (Cond.instanceMethod ⟨"IntervalRoutingModel", "isDominated", "(III)Z"⟩) := ⟨List.mem_of_getElem? (i := 864) (by decide +kernel), by decide +kernel⟩
theorem tw_865 : gd_T (Cond.code ⟨"IntervalRoutingModel", "isDominated", "(III)Z"⟩ prog_10_method_25_code 7 (some FieldType.boolean)) := ⟨List.mem_of_getElem? (i := 865) (by decide +kernel), by decide +kernel⟩
theorem tw_866 : gd_T (Cond.methodLink "IntervalRoutingLaw" 65 ⟨"IntervalRoutingModel", "distance", "(III)I"⟩) := ⟨List.mem_of_getElem? (i := 866) (by decide +kernel), by decide +kernel⟩
theorem tw_867 : gd_T (Cond.instanceMethod ⟨"IntervalRoutingModel", "distance", "(III)I"⟩) := ⟨List.mem_of_getElem? (i := 867) (by decide +kernel), by decide +kernel⟩
theorem tw_868 : gd_T (Cond.selects "IntervalRoutingModel" ⟨"IntervalRoutingModel", "distance", "(III)I"⟩ ⟨"IntervalRoutingModel", "distance", "(III)I"⟩) := ⟨List.mem_of_getElem? (i := 868) (by decide +kernel), by decide +kernel⟩
theorem tw_869 : gd_T (Cond.code ⟨"IntervalRoutingModel", "distance", "(III)I"⟩ prog_10_method_39_code 5 (some FieldType.int)) := ⟨List.mem_of_getElem? (i := 869) (by decide +kernel), by decide +kernel⟩
theorem tw_870 : gd_T (Cond.methodLink "IntervalRoutingLaw" 69 ⟨"IntervalRoutingModel", "choice", "(II)I"⟩) := ⟨List.mem_of_getElem? (i := 870) (by decide +kernel), by decide +kernel⟩
theorem tw_871 : gd_T (Cond.instanceMethod ⟨"IntervalRoutingModel", "choice", "(II)I"⟩) := ⟨List.mem_of_getElem? (i := 871) (by decide +kernel), by decide +kernel⟩
theorem tw_872 : gd_T (Cond.selects "IntervalRoutingModel" ⟨"IntervalRoutingModel", "choice", "(II)I"⟩ ⟨"IntervalRoutingModel", "choice", "(II)I"⟩) := ⟨List.mem_of_getElem? (i := 872) (by decide +kernel), by decide +kernel⟩
theorem tw_873 : gd_T (Cond.code ⟨"IntervalRoutingModel", "choice", "(II)I"⟩ prog_10_method_40_code 4 (some FieldType.int)) := ⟨List.mem_of_getElem? (i := 873) (by decide +kernel), by decide +kernel⟩
theorem tw_874 : gd_T (Cond.methodLink "IntervalRoutingLaw" 73 ⟨"IntervalRoutingModel", "entries", "(III)I"⟩) := ⟨List.mem_of_getElem? (i := 874) (by decide +kernel), by decide +kernel⟩
theorem tw_875 : gd_T (Cond.instanceMethod ⟨"IntervalRoutingModel", "entries", "(III)I"⟩) := ⟨List.mem_of_getElem? (i := 875) (by decide +kernel), by decide +kernel⟩
theorem tw_876 : gd_T (Cond.selects "IntervalRoutingModel" ⟨"IntervalRoutingModel", "entries", "(III)I"⟩ ⟨"IntervalRoutingModel", "entries", "(III)I"⟩) := ⟨List.mem_of_getElem? (i := 876) (by decide +kernel), by decide +kernel⟩
theorem tw_877 : gd_T (Cond.code ⟨"IntervalRoutingModel", "entries", "(III)I"⟩ prog_10_method_41_code 7 (some FieldType.int)) := ⟨List.mem_of_getElem? (i := 877) (by decide +kernel), by decide +kernel⟩
theorem tw_878 : gd_T (Cond.methodLink "IntervalRoutingLaw" 77 ⟨"IntervalRoutingModel", "meanWidthBits", "()I"⟩) := ⟨List.mem_of_getElem? (i := 878) (by decide +kernel), by decide +kernel⟩
theorem tw_879 : gd_T (Cond.instanceMethod ⟨"IntervalRoutingModel", "meanWidthBits", "()I"⟩) := ⟨List.mem_of_getElem? (i := 879) (by decide +kernel), by decide +kernel⟩
theorem tw_880 : gd_T (Cond.selects "IntervalRoutingModel" ⟨"IntervalRoutingModel", "meanWidthBits", "()I"⟩ ⟨"IntervalRoutingModel", "meanWidthBits", "()I"⟩) := ⟨List.mem_of_getElem? (i := 880) (by decide +kernel), by decide +kernel⟩
theorem tw_881 : gd_T (Cond.code ⟨"IntervalRoutingModel", "meanWidthBits", "()I"⟩ prog_10_method_42_code 6 (some FieldType.int)) := ⟨List.mem_of_getElem? (i := 881) (by decide +kernel), by decide +kernel⟩
theorem tw_882 : gd_T (Cond.methodLink "IntervalRoutingModel" 148 ⟨"java/lang/Float", "floatToIntBits", "(F)I"⟩) := ⟨List.mem_of_getElem? (i := 882) (by decide +kernel), by decide +kernel⟩
theorem tw_883 : gd_T (Cond.static ⟨"java/lang/Float", "floatToIntBits", "(F)I"⟩) := ⟨List.mem_of_getElem? (i := 883) (by decide +kernel), by decide +kernel⟩
theorem tw_884 : gd_T (Cond.code ⟨"java/lang/Float", "floatToIntBits", "(F)I"⟩ prog_12_method_24_code 1 (some FieldType.int)) := ⟨List.mem_of_getElem? (i := 884) (by decide +kernel), by decide +kernel⟩
theorem tw_885 : gd_T (Cond.methodLink "java/lang/Float" 59 ⟨"java/lang/Float", "isNaN", "(F)Z"⟩) := ⟨List.mem_of_getElem? (i := 885) (by decide +kernel), by decide +kernel⟩
theorem tw_886 : gd_T (Cond.static ⟨"java/lang/Float", "isNaN", "(F)Z"⟩) := ⟨List.mem_of_getElem? (i := 886) (by decide +kernel), by decide +kernel⟩
theorem tw_887 : gd_T (Cond.code ⟨"java/lang/Float", "isNaN", "(F)Z"⟩ prog_12_method_6_code 1 (some FieldType.boolean)) := ⟨List.mem_of_getElem? (i := 887) (by decide +kernel), by decide +kernel⟩
theorem tw_888 : gd_T (Cond.methodLink "java/lang/Float" 74 ⟨"java/lang/Float", "floatToRawIntBits", "(F)I"⟩) := ⟨List.mem_of_getElem? (i := 888) (by decide +kernel), by decide +kernel⟩
theorem tw_889 : gd_T (Cond.static ⟨"java/lang/Float", "floatToRawIntBits", "(F)I"⟩) := ⟨List.mem_of_getElem? (i := 889) (by decide +kernel), by decide +kernel⟩
theorem tw_890 : gd_T (Cond.native ⟨"java/lang/Float", "floatToRawIntBits", "(F)I"⟩) := ⟨List.mem_of_getElem? (i := 890) (by decide +kernel), by decide +kernel⟩
theorem tw_891 : gd_T (Cond.constant "java/lang/Float" 77 (2143289344 : Int32)) := ⟨List.mem_of_getElem? (i := 891) (by decide +kernel), by decide +kernel⟩
theorem tw_892 : gd_T (Cond.methodLink "IntervalRoutingLaw" 81 ⟨"IntervalRoutingModel", "journalSize", "()I"⟩) := ⟨List.mem_of_getElem? (i := 892) (by decide +kernel), by decide +kernel⟩
theorem tw_893 : gd_T (Cond.instanceMethod ⟨"IntervalRoutingModel", "journalSize", "()I"⟩) := ⟨List.mem_of_getElem? (i := 893) (by decide +kernel), by decide +kernel⟩
theorem tw_894 : gd_T (Cond.selects "IntervalRoutingModel" ⟨"IntervalRoutingModel", "journalSize", "()I"⟩ ⟨"IntervalRoutingModel", "journalSize", "()I"⟩) := ⟨List.mem_of_getElem? (i := 894) (by decide +kernel), by decide +kernel⟩
theorem tw_895 : gd_T (Cond.code ⟨"IntervalRoutingModel", "journalSize", "()I"⟩ prog_10_method_43_code 1 (some FieldType.int)) := ⟨List.mem_of_getElem? (i := 895) (by decide +kernel), by decide +kernel⟩
theorem tw_896 : gd_T (Cond.methodLink "IntervalRoutingLaw" 85 ⟨"IntervalRoutingModel", "journal", "(II)I"⟩) := ⟨List.mem_of_getElem? (i := 896) (by decide +kernel), by decide +kernel⟩
theorem tw_897 : gd_T (Cond.instanceMethod ⟨"IntervalRoutingModel", "journal", "(II)I"⟩) := ⟨List.mem_of_getElem? (i := 897) (by decide +kernel), by decide +kernel⟩
theorem tw_898 : gd_T (Cond.selects "IntervalRoutingModel" ⟨"IntervalRoutingModel", "journal", "(II)I"⟩ ⟨"IntervalRoutingModel", "journal", "(II)I"⟩) := ⟨List.mem_of_getElem? (i := 898) (by decide +kernel), by decide +kernel⟩
theorem tw_899 : gd_T (Cond.code ⟨"IntervalRoutingModel", "journal", "(II)I"⟩ prog_10_method_44_code 3 (some FieldType.int)) := ⟨List.mem_of_getElem? (i := 899) (by decide +kernel), by decide +kernel⟩
theorem tw_900 : gd_T (Cond.methodLink "IntervalRoutingLaw" 89 ⟨"IntervalRoutingModel", "trueDistance", "(II)I"⟩) := ⟨List.mem_of_getElem? (i := 900) (by decide +kernel), by decide +kernel⟩
theorem tw_901 : gd_T (Cond.instanceMethod ⟨"IntervalRoutingModel", "trueDistance", "(II)I"⟩) := ⟨List.mem_of_getElem? (i := 901) (by decide +kernel), by decide +kernel⟩
theorem tw_902 : gd_T (Cond.selects "IntervalRoutingModel" ⟨"IntervalRoutingModel", "trueDistance", "(II)I"⟩ ⟨"IntervalRoutingModel", "trueDistance", "(II)I"⟩) := ⟨List.mem_of_getElem? (i := 902) (by decide +kernel), by decide +kernel⟩
theorem tw_903 : gd_T (Cond.code ⟨"IntervalRoutingModel", "trueDistance", "(II)I"⟩ prog_10_method_46_code 3 (some FieldType.int)) := ⟨List.mem_of_getElem? (i := 903) (by decide +kernel), by decide +kernel⟩
theorem tw_904 : gd_T (Cond.methodLink "IntervalRoutingModel" 154 ⟨"IntervalRoutingModel", "measures", "()V"⟩) := ⟨List.mem_of_getElem? (i := 904) (by decide +kernel), by decide +kernel⟩
theorem tw_906 : gd_T (Cond.instanceMethod ⟨"IntervalRoutingModel", "measures", "()V"⟩) := ⟨List.mem_of_getElem? (i := 906) (by decide +kernel), by decide +kernel⟩
theorem tw_907 : gd_T (Cond.code ⟨"IntervalRoutingModel", "measures", "()V"⟩ prog_10_method_45_code 8 (Option.none : Option Jvm.ClassFile.FieldType)) := ⟨List.mem_of_getElem? (i := 907) (by decide +kernel), by decide +kernel⟩
theorem tw_908 : gd_T (Cond.methodLink "IntervalRoutingLaw" 93 ⟨"IntervalRoutingModel", "wrongPairs", "()I"⟩) := ⟨List.mem_of_getElem? (i := 908) (by decide +kernel), by decide +kernel⟩
theorem tw_909 : gd_T (Cond.instanceMethod ⟨"IntervalRoutingModel", "wrongPairs", "()I"⟩) := ⟨List.mem_of_getElem? (i := 909) (by decide +kernel), by decide +kernel⟩
theorem tw_910 : gd_T (Cond.selects "IntervalRoutingModel" ⟨"IntervalRoutingModel", "wrongPairs", "()I"⟩ ⟨"IntervalRoutingModel", "wrongPairs", "()I"⟩) := ⟨List.mem_of_getElem? (i := 910) (by decide +kernel), by decide +kernel⟩
theorem tw_911 : gd_T (Cond.code ⟨"IntervalRoutingModel", "wrongPairs", "()I"⟩ prog_10_method_47_code 7 (some FieldType.int)) := ⟨List.mem_of_getElem? (i := 911) (by decide +kernel), by decide +kernel⟩
theorem tw_912 : gd_T (Cond.methodLink "IntervalRoutingLaw" 97 ⟨"IntervalRoutingModel", "follow", "(II)I"⟩) := ⟨List.mem_of_getElem? (i := 912) (by decide +kernel), by decide +kernel⟩
theorem tw_913 : gd_T (Cond.instanceMethod ⟨"IntervalRoutingModel", "follow", "(II)I"⟩) := ⟨List.mem_of_getElem? (i := 913) (by decide +kernel), by decide +kernel⟩
theorem tw_914 : gd_T (Cond.selects "IntervalRoutingModel" ⟨"IntervalRoutingModel", "follow", "(II)I"⟩ ⟨"IntervalRoutingModel", "follow", "(II)I"⟩) := ⟨List.mem_of_getElem? (i := 914) (by decide +kernel), by decide +kernel⟩
theorem tw_915 : gd_T (Cond.code ⟨"IntervalRoutingModel", "follow", "(II)I"⟩ prog_10_method_49_code 3 (some FieldType.int)) := ⟨List.mem_of_getElem? (i := 915) (by decide +kernel), by decide +kernel⟩
theorem tw_916 : gd_T (Cond.methodLink "IntervalRoutingModel" 157 ⟨"IntervalRoutingModel", "follows", "(II)I"⟩) := ⟨List.mem_of_getElem? (i := 916) (by decide +kernel), by decide +kernel⟩
theorem tw_918 : gd_T (Cond.instanceMethod ⟨"IntervalRoutingModel", "follows", "(II)I"⟩) := ⟨List.mem_of_getElem? (i := 918) (by decide +kernel), by decide +kernel⟩
theorem tw_919 : gd_T (Cond.code ⟨"IntervalRoutingModel", "follows", "(II)I"⟩ prog_10_method_48_code 7 (some FieldType.int)) := ⟨List.mem_of_getElem? (i := 919) (by decide +kernel), by decide +kernel⟩
theorem tw_920 : gd_T (Cond.methodLink "IntervalRoutingLaw" 101 ⟨"IntervalRoutingModel", "loops", "()I"⟩) := ⟨List.mem_of_getElem? (i := 920) (by decide +kernel), by decide +kernel⟩
theorem tw_921 : gd_T (Cond.instanceMethod ⟨"IntervalRoutingModel", "loops", "()I"⟩) := ⟨List.mem_of_getElem? (i := 921) (by decide +kernel), by decide +kernel⟩
theorem tw_922 : gd_T (Cond.selects "IntervalRoutingModel" ⟨"IntervalRoutingModel", "loops", "()I"⟩ ⟨"IntervalRoutingModel", "loops", "()I"⟩) := ⟨List.mem_of_getElem? (i := 922) (by decide +kernel), by decide +kernel⟩
theorem tw_923 : gd_T (Cond.code ⟨"IntervalRoutingModel", "loops", "()I"⟩ prog_10_method_50_code 4 (some FieldType.int)) := ⟨List.mem_of_getElem? (i := 923) (by decide +kernel), by decide +kernel⟩
theorem tw_924 : gd_T (Cond.methodLink "IntervalRoutingLaw" 105 ⟨"IntervalRoutingModel", "settling", "()I"⟩) := ⟨List.mem_of_getElem? (i := 924) (by decide +kernel), by decide +kernel⟩
theorem tw_925 : gd_T (Cond.instanceMethod ⟨"IntervalRoutingModel", "settling", "()I"⟩) := ⟨List.mem_of_getElem? (i := 925) (by decide +kernel), by decide +kernel⟩
theorem tw_926 : gd_T (Cond.selects "IntervalRoutingModel" ⟨"IntervalRoutingModel", "settling", "()I"⟩ ⟨"IntervalRoutingModel", "settling", "()I"⟩) := ⟨List.mem_of_getElem? (i := 926) (by decide +kernel), by decide +kernel⟩
theorem tw_927 : gd_T (Cond.code ⟨"IntervalRoutingModel", "settling", "()I"⟩ prog_10_method_53_code 4 (some FieldType.int)) := ⟨List.mem_of_getElem? (i := 927) (by decide +kernel), by decide +kernel⟩
theorem tw_928 : gd_T (Cond.methodLink "IntervalRoutingModel" 160 ⟨"IntervalRoutingModel", "putsAside", "()V"⟩) := ⟨List.mem_of_getElem? (i := 928) (by decide +kernel), by decide +kernel⟩
theorem tw_930 : gd_T (Cond.instanceMethod ⟨"IntervalRoutingModel", "putsAside", "()V"⟩) := ⟨List.mem_of_getElem? (i := 930) (by decide +kernel), by decide +kernel⟩
theorem tw_931 : gd_T (Cond.code ⟨"IntervalRoutingModel", "putsAside", "()V"⟩ prog_10_method_51_code 2 (Option.none : Option Jvm.ClassFile.FieldType)) := ⟨List.mem_of_getElem? (i := 931) (by decide +kernel), by decide +kernel⟩
theorem tw_932 : gd_T (Cond.methodLink "IntervalRoutingModel" 163 ⟨"IntervalRoutingModel", "putsBack", "()V"⟩) := ⟨List.mem_of_getElem? (i := 932) (by decide +kernel), by decide +kernel⟩
theorem tw_934 : gd_T (Cond.instanceMethod ⟨"IntervalRoutingModel", "putsBack", "()V"⟩) := ⟨List.mem_of_getElem? (i := 934) (by decide +kernel), by decide +kernel⟩
theorem tw_935 : gd_T (Cond.code ⟨"IntervalRoutingModel", "putsBack", "()V"⟩ prog_10_method_52_code 2 (Option.none : Option Jvm.ClassFile.FieldType)) := ⟨List.mem_of_getElem? (i := 935) (by decide +kernel), by decide +kernel⟩
theorem tw_936 : gd_T (Cond.methodLink "IntervalRoutingLaw" 109 ⟨"IntervalRoutingModel", "loss", "(II)I"⟩) := ⟨List.mem_of_getElem? (i := 936) (by decide +kernel), by decide +kernel⟩
theorem tw_937 : gd_T (Cond.instanceMethod ⟨"IntervalRoutingModel", "loss", "(II)I"⟩) := ⟨List.mem_of_getElem? (i := 937) (by decide +kernel), by decide +kernel⟩
theorem tw_938 : gd_T (Cond.selects "IntervalRoutingModel" ⟨"IntervalRoutingModel", "loss", "(II)I"⟩ ⟨"IntervalRoutingModel", "loss", "(II)I"⟩) := ⟨List.mem_of_getElem? (i := 938) (by decide +kernel), by decide +kernel⟩
theorem tw_939 : gd_T (Cond.code ⟨"IntervalRoutingModel", "loss", "(II)I"⟩ prog_10_method_55_code 6 (some FieldType.int)) := ⟨List.mem_of_getElem? (i := 939) (by decide +kernel), by decide +kernel⟩
theorem tw_940 : gd_T (Cond.methodLink "IntervalRoutingModel" 166 ⟨"IntervalRoutingModel", "pairs", "()I"⟩) := ⟨List.mem_of_getElem? (i := 940) (by decide +kernel), by decide +kernel⟩
theorem tw_942 : gd_T (Cond.instanceMethod ⟨"IntervalRoutingModel", "pairs", "()I"⟩) := ⟨List.mem_of_getElem? (i := 942) (by decide +kernel), by decide +kernel⟩
theorem tw_943 : gd_T (Cond.code ⟨"IntervalRoutingModel", "pairs", "()I"⟩ prog_10_method_54_code 3 (some FieldType.int)) := ⟨List.mem_of_getElem? (i := 943) (by decide +kernel), by decide +kernel⟩
theorem tw_944 : gd_T (Cond.methodLink "IntervalRoutingLaw" 113 ⟨"IntervalRoutingModel", "recovery", "(II)I"⟩) := ⟨List.mem_of_getElem? (i := 944) (by decide +kernel), by decide +kernel⟩
theorem tw_945 : gd_T (Cond.instanceMethod ⟨"IntervalRoutingModel", "recovery", "(II)I"⟩) := ⟨List.mem_of_getElem? (i := 945) (by decide +kernel), by decide +kernel⟩
theorem tw_946 : gd_T (Cond.selects "IntervalRoutingModel" ⟨"IntervalRoutingModel", "recovery", "(II)I"⟩ ⟨"IntervalRoutingModel", "recovery", "(II)I"⟩) := ⟨List.mem_of_getElem? (i := 946) (by decide +kernel), by decide +kernel⟩
theorem tw_947 : gd_T (Cond.code ⟨"IntervalRoutingModel", "recovery", "(II)I"⟩ prog_10_method_56_code 6 (some FieldType.int)) := ⟨List.mem_of_getElem? (i := 947) (by decide +kernel), by decide +kernel⟩
theorem tw_948 : gd_T (Cond.methodLink "IntervalRoutingModel" 170 ⟨"IntervalRoutingModel", "loops", "()I"⟩) := ⟨List.mem_of_getElem? (i := 948) (by decide +kernel), by decide +kernel⟩
theorem tw_949 : gd_T (Cond.methodLink "IntervalRoutingLaw" 117 ⟨"IntervalRoutingModel", "store", "()I"⟩) := ⟨List.mem_of_getElem? (i := 949) (by decide +kernel), by decide +kernel⟩
theorem tw_950 : gd_T (Cond.instanceMethod ⟨"IntervalRoutingModel", "store", "()I"⟩) := ⟨List.mem_of_getElem? (i := 950) (by decide +kernel), by decide +kernel⟩
theorem tw_951 : gd_T (Cond.selects "IntervalRoutingModel" ⟨"IntervalRoutingModel", "store", "()I"⟩ ⟨"IntervalRoutingModel", "store", "()I"⟩) := ⟨List.mem_of_getElem? (i := 951) (by decide +kernel), by decide +kernel⟩
theorem tw_952 : gd_T (Cond.code ⟨"IntervalRoutingModel", "store", "()I"⟩ prog_10_method_57_code 2 (some FieldType.int)) := ⟨List.mem_of_getElem? (i := 952) (by decide +kernel), by decide +kernel⟩
theorem tw_953 : gd_T (Cond.methodLink "IntervalRoutingLaw" 121 ⟨"IntervalRoutingModel", "recall", "()I"⟩) := ⟨List.mem_of_getElem? (i := 953) (by decide +kernel), by decide +kernel⟩
theorem tw_954 : gd_T (Cond.instanceMethod ⟨"IntervalRoutingModel", "recall", "()I"⟩) := ⟨List.mem_of_getElem? (i := 954) (by decide +kernel), by decide +kernel⟩
theorem tw_955 : gd_T (Cond.selects "IntervalRoutingModel" ⟨"IntervalRoutingModel", "recall", "()I"⟩ ⟨"IntervalRoutingModel", "recall", "()I"⟩) := ⟨List.mem_of_getElem? (i := 955) (by decide +kernel), by decide +kernel⟩
theorem tw_956 : gd_T (Cond.code ⟨"IntervalRoutingModel", "recall", "()I"⟩ prog_10_method_58_code 2 (some FieldType.int)) := ⟨List.mem_of_getElem? (i := 956) (by decide +kernel), by decide +kernel⟩
def nw_L : List Cond := [Cond.methodLinkNest "IntervalRouting" 23 ⟨"IntervalRouting$State", "<init>", "()V"⟩ "IntervalRouting", Cond.methodLinkNest "IntervalRouting$State" 11 ⟨"IntervalRouting$Links", "<init>", "()V"⟩ "IntervalRouting", Cond.methodLinkNest "IntervalRouting$State" 20 ⟨"IntervalRouting$Tables", "<init>", "()V"⟩ "IntervalRouting", Cond.methodLinkNest "IntervalRouting$State" 27 ⟨"IntervalRouting$Vectors", "<init>", "()V"⟩ "IntervalRouting", Cond.methodLinkNest "IntervalRouting$State" 34 ⟨"IntervalRouting$Journal", "<init>", "()V"⟩ "IntervalRouting", Cond.methodLinkNest "IntervalRouting" 36 ⟨"IntervalRouting$Survey", "<init>", "()V"⟩ "IntervalRouting", Cond.methodLinkNest "IntervalRouting" 43 ⟨"IntervalRouting$Ways", "<init>", "()V"⟩ "IntervalRouting", Cond.methodLinkNest "IntervalRouting$Links" 24 ⟨"IntervalRouting", "pair", "(II)I"⟩ "IntervalRouting", Cond.methodLinkNest "IntervalRouting$Survey" 66 ⟨"IntervalRouting", "pair", "(II)I"⟩ "IntervalRouting", Cond.methodLinkNest "IntervalRouting$Survey" 89 ⟨"IntervalRouting", "slot", "(III)I"⟩ "IntervalRouting", Cond.methodLinkNest "IntervalRouting$Vectors" 18 ⟨"IntervalRouting", "pair", "(II)I"⟩ "IntervalRouting", Cond.methodLinkNest "IntervalRouting$State" 88 ⟨"IntervalRouting", "slot", "(III)I"⟩ "IntervalRouting", Cond.methodLinkNest "IntervalRouting$Ways" 16 ⟨"IntervalRouting", "pair", "(II)I"⟩ "IntervalRouting"]
theorem nw_in : ∀ w ∈ nw_L, w ∈ lw_tbl := by
  intro w hw
  simp only [nw_L, List.mem_cons, List.not_mem_nil, or_false] at hw
  rcases hw with rfl | rfl | rfl | rfl | rfl | rfl | rfl | rfl | rfl | rfl | rfl | rfl | rfl
  · exact List.mem_of_getElem? (i := 70) (by decide +kernel)
  · exact List.mem_of_getElem? (i := 76) (by decide +kernel)
  · exact List.mem_of_getElem? (i := 105) (by decide +kernel)
  · exact List.mem_of_getElem? (i := 134) (by decide +kernel)
  · exact List.mem_of_getElem? (i := 147) (by decide +kernel)
  · exact List.mem_of_getElem? (i := 197) (by decide +kernel)
  · exact List.mem_of_getElem? (i := 242) (by decide +kernel)
  · exact List.mem_of_getElem? (i := 324) (by decide +kernel)
  · exact List.mem_of_getElem? (i := 405) (by decide +kernel)
  · exact List.mem_of_getElem? (i := 410) (by decide +kernel)
  · exact List.mem_of_getElem? (i := 459) (by decide +kernel)
  · exact List.mem_of_getElem? (i := 513) (by decide +kernel)
  · exact List.mem_of_getElem? (i := 581) (by decide +kernel)
def mX0_init : mi_T := (yX0_init, cX0_init, 1, (Option.none : Option Jvm.ClassFile.FieldType), 1, 20)
def mX0_size : mi_T := (yX0_size, cX0_size, 1, (some FieldType.int), 1, 21)
def mX0_add : mi_T := (yX0_add, cX0_add, 6, (Option.none : Option Jvm.ClassFile.FieldType), 0, 0)
def mX0_value : mi_T := (yX0_value, cX0_value, 3, (some FieldType.int), 0, 0)
def mX0_clear : mi_T := (yX0_clear, cX0_clear, 1, (Option.none : Option Jvm.ClassFile.FieldType), 1, 23)
def mX0_copyFrom : mi_T := (yX0_copyFrom, cX0_copyFrom, 2, (Option.none : Option Jvm.ClassFile.FieldType), 1, 26)
def mX1_init : mi_T := (yX1_init, cX1_init, 1, (Option.none : Option Jvm.ClassFile.FieldType), 1, 20)
def mX1_joins : mi_T := (yX1_joins, cX1_joins, 3, (some FieldType.boolean), 1, 21)
def mX1_isUp : mi_T := (yX1_isUp, cX1_isUp, 3, (some FieldType.boolean), 1, 21)
def mX1_insert : mi_T := (yX1_insert, cX1_insert, 5, (Option.none : Option Jvm.ClassFile.FieldType), 2, 45)
def mX1_delete : mi_T := (yX1_delete, cX1_delete, 3, (Option.none : Option Jvm.ClassFile.FieldType), 2, 45)
def mX1_putBounds : mi_T := (yX1_putBounds, cX1_putBounds, 5, (Option.none : Option Jvm.ClassFile.FieldType), 1, 21)
def mX1_putCost : mi_T := (yX1_putCost, cX1_putCost, 4, (Option.none : Option Jvm.ClassFile.FieldType), 1, 21)
def mX1_putUp : mi_T := (yX1_putUp, cX1_putUp, 4, (Option.none : Option Jvm.ClassFile.FieldType), 1, 21)
def mX1_clear : mi_T := (yX1_clear, cX1_clear, 1, (Option.none : Option Jvm.ClassFile.FieldType), 1, 23)
def mX1_copyFrom : mi_T := (yX1_copyFrom, cX1_copyFrom, 2, (Option.none : Option Jvm.ClassFile.FieldType), 1, 26)
def mX2_init : mi_T := (yX2_init, cX2_init, 1, (Option.none : Option Jvm.ClassFile.FieldType), 2, 40)
def mX2_startAnew : mi_T := (yX2_startAnew, cX2_startAnew, 2, (Option.none : Option Jvm.ClassFile.FieldType), 2, 43)
def mX2_copyFrom : mi_T := (yX2_copyFrom, cX2_copyFrom, 2, (Option.none : Option Jvm.ClassFile.FieldType), 2, 47)
def mX2_isUsable : mi_T := (yX2_isUsable, cX2_isUsable, 5, (some FieldType.boolean), 2, 44)
def mX2_isDominated : mi_T := (yX2_isDominated, cX2_isDominated, 6, (some FieldType.boolean), 3, 68)
def mX3_init : mi_T := (yX3_init, cX3_init, 1, (Option.none : Option Jvm.ClassFile.FieldType), 1, 20)
def mX3_reaches : mi_T := (yX3_reaches, cX3_reaches, 2, (some FieldType.boolean), 0, 0)
def mX3_take : mi_T := (yX3_take, cX3_take, 5, (Option.none : Option Jvm.ClassFile.FieldType), 4, 95)
def mX3_takeOne : mi_T := (yX3_takeOne, cX3_takeOne, 5, (Option.none : Option Jvm.ClassFile.FieldType), 4, 95)
def mX3_findNeighbours : mi_T := (yX3_findNeighbours, cX3_findNeighbours, 4, (Option.none : Option Jvm.ClassFile.FieldType), 2, 43)
def mX3_look : mi_T := (yX3_look, cX3_look, 6, (Option.none : Option Jvm.ClassFile.FieldType), 3, 70)
def mX3_gather : mi_T := (yX3_gather, cX3_gather, 7, (Option.none : Option Jvm.ClassFile.FieldType), 2, 44)
def mX3_putDistance : mi_T := (yX3_putDistance, cX3_putDistance, 6, (Option.none : Option Jvm.ClassFile.FieldType), 1, 21)
def mX3_rankAll : mi_T := (yX3_rankAll, cX3_rankAll, 3, (Option.none : Option Jvm.ClassFile.FieldType), 2, 44)
def mX3_choose : mi_T := (yX3_choose, cX3_choose, 3, (some FieldType.int), 1, 22)
def mX3_isBetter : mi_T := (yX3_isBetter, cX3_isBetter, 3, (some FieldType.boolean), 0, 0)
def mX3_regret : mi_T := (yX3_regret, cX3_regret, 4, (some FieldType.int), 1, 21)
def mX3_walk : mi_T := (yX3_walk, cX3_walk, 7, (some FieldType.int), 1, 21)
def mX3_countLoops : mi_T := (yX3_countLoops, cX3_countLoops, 6, (some FieldType.int), 2, 47)
def mX4_init : mi_T := (yX4_init, cX4_init, 1, (Option.none : Option Jvm.ClassFile.FieldType), 1, 20)
def mX4_has : mi_T := (yX4_has, cX4_has, 2, (some FieldType.boolean), 0, 0)
def mX4_isOpen : mi_T := (yX4_isOpen, cX4_isOpen, 4, (some FieldType.boolean), 1, 21)
def mX4_dominates : mi_T := (yX4_dominates, cX4_dominates, 4, (some FieldType.boolean), 0, 0)
def mX4_receive : mi_T := (yX4_receive, cX4_receive, 6, (Option.none : Option Jvm.ClassFile.FieldType), 1, 22)
def mX4_countGrowth : mi_T := (yX4_countGrowth, cX4_countGrowth, 3, (Option.none : Option Jvm.ClassFile.FieldType), 0, 0)
def mX4_clear : mi_T := (yX4_clear, cX4_clear, 1, (Option.none : Option Jvm.ClassFile.FieldType), 1, 23)
def mX4_copyFrom : mi_T := (yX4_copyFrom, cX4_copyFrom, 2, (Option.none : Option Jvm.ClassFile.FieldType), 1, 26)
def mX5_init : mi_T := (yX5_init, cX5_init, 1, (Option.none : Option Jvm.ClassFile.FieldType), 1, 20)
def mX5_differs : mi_T := (yX5_differs, cX5_differs, 6, (some FieldType.boolean), 1, 21)
def mX5_keep : mi_T := (yX5_keep, cX5_keep, 6, (Option.none : Option Jvm.ClassFile.FieldType), 1, 21)
def mX5_clear : mi_T := (yX5_clear, cX5_clear, 1, (Option.none : Option Jvm.ClassFile.FieldType), 1, 23)
def mX5_copyFrom : mi_T := (yX5_copyFrom, cX5_copyFrom, 2, (Option.none : Option Jvm.ClassFile.FieldType), 1, 26)
def mX6_init : mi_T := (yX6_init, cX6_init, 1, (Option.none : Option Jvm.ClassFile.FieldType), 1, 20)
def mX6_exists : mi_T := (yX6_exists, cX6_exists, 2, (some FieldType.boolean), 0, 0)
def mX6_measure : mi_T := (yX6_measure, cX6_measure, 7, (Option.none : Option Jvm.ClassFile.FieldType), 2, 46)
def mX6_shorten : mi_T := (yX6_shorten, cX6_shorten, 6, (Option.none : Option Jvm.ClassFile.FieldType), 1, 21)
def mX6_countPairs : mi_T := (yX6_countPairs, cX6_countPairs, 5, (some FieldType.int), 1, 21)
def mX7_init : mi_T := (yX7_init, cX7_init, 1, (Option.none : Option Jvm.ClassFile.FieldType), 3, 64)
def mX7_reset : mi_T := (yX7_reset, cX7_reset, 3, (some FieldType.int), 3, 64)
def mX7_addLink : mi_T := (yX7_addLink, cX7_addLink, 5, (some FieldType.int), 3, 69)
def mX7_removeLink : mi_T := (yX7_removeLink, cX7_removeLink, 3, (some FieldType.int), 3, 67)
def mX7_setCost : mi_T := (yX7_setCost, cX7_setCost, 6, (some FieldType.int), 2, 44)
def mX7_setUp : mi_T := (yX7_setUp, cX7_setUp, 5, (some FieldType.int), 2, 44)
def mX7_link : mi_T := (yX7_link, cX7_link, 5, (some FieldType.int), 2, 43)
def mX7_set : mi_T := (yX7_set, cX7_set, 4, (some FieldType.int), 2, 42)
def mX7_run : mi_T := (yX7_run, cX7_run, 3, (some FieldType.int), 6, 141)
def mX7_time : mi_T := (yX7_time, cX7_time, 1, (some FieldType.int), 0, 0)
def mX7_sent : mi_T := (yX7_sent, cX7_sent, 1, (some FieldType.int), 0, 0)
def mX7_entry : mi_T := (yX7_entry, cX7_entry, 6, (some FieldType.int), 4, 93)
def mX7_distance : mi_T := (yX7_distance, cX7_distance, 5, (some FieldType.int), 5, 119)
def mX7_choice : mi_T := (yX7_choice, cX7_choice, 4, (some FieldType.int), 5, 119)
def mX7_entries : mi_T := (yX7_entries, cX7_entries, 6, (some FieldType.int), 5, 118)
def mX7_meanWidthBits : mi_T := (yX7_meanWidthBits, cX7_meanWidthBits, 6, (some FieldType.int), 5, 119)
def mX7_journalSize : mi_T := (yX7_journalSize, cX7_journalSize, 1, (some FieldType.int), 2, 41)
def mX7_journal : mi_T := (yX7_journal, cX7_journal, 3, (some FieldType.int), 2, 41)
def mX7_trueDistance : mi_T := (yX7_trueDistance, cX7_trueDistance, 4, (some FieldType.int), 3, 72)
def mX7_wrongPairs : mi_T := (yX7_wrongPairs, cX7_wrongPairs, 4, (some FieldType.int), 5, 119)
def mX7_follow : mi_T := (yX7_follow, cX7_follow, 3, (some FieldType.int), 5, 119)
def mX7_loops : mi_T := (yX7_loops, cX7_loops, 1, (some FieldType.int), 5, 119)
def mX7_settling : mi_T := (yX7_settling, cX7_settling, 4, (some FieldType.int), 6, 141)
def mX7_loss : mi_T := (yX7_loss, cX7_loss, 4, (some FieldType.int), 3, 72)
def mX7_recovery : mi_T := (yX7_recovery, cX7_recovery, 5, (some FieldType.int), 6, 141)
def mX7_store : mi_T := (yX7_store, cX7_store, 1, (some FieldType.int), 3, 68)
def mX7_recall : mi_T := (yX7_recall, cX7_recall, 1, (some FieldType.int), 3, 68)
def mX7_isNode : mi_T := (yX7_isNode, cX7_isNode, 2, (some FieldType.boolean), 0, 0)
def mX7_isPair : mi_T := (yX7_isPair, cX7_isPair, 3, (some FieldType.boolean), 1, 21)
def mX7_isBetween : mi_T := (yX7_isBetween, cX7_isBetween, 3, (some FieldType.boolean), 0, 0)
def mX7_isSetting : mi_T := (yX7_isSetting, cX7_isSetting, 1, (some FieldType.boolean), 1, 22)
def mX7_asNumber : mi_T := (yX7_asNumber, cX7_asNumber, 1, (some FieldType.int), 0, 0)
def mX7_pair : mi_T := (yX7_pair, cX7_pair, 2, (some FieldType.int), 0, 0)
def mX7_slot : mi_T := (yX7_slot, cX7_slot, 3, (some FieldType.int), 0, 0)
def mX7_counts : mi_T := (yX7_counts, cX7_counts, 6, (some FieldType.boolean), 4, 93)
def mX7_isWrong : mi_T := (yX7_isWrong, cX7_isWrong, 2, (some FieldType.boolean), 1, 22)
def mX7_bitsOf : mi_T := (yX7_bitsOf, cX7_bitsOf, 4, (some FieldType.int), 0, 0)
def mX7_makeTick : mi_T := (yX7_makeTick, cX7_makeTick, 3, (some FieldType.int), 5, 119)
def mX7_chooseSpeakers : mi_T := (yX7_chooseSpeakers, cX7_chooseSpeakers, 3, (Option.none : Option Jvm.ClassFile.FieldType), 2, 46)
def mX7_isDue : mi_T := (yX7_isDue, cX7_isDue, 4, (some FieldType.boolean), 0, 0)
def mX7_speak : mi_T := (yX7_speak, cX7_speak, 5, (Option.none : Option Jvm.ClassFile.FieldType), 3, 76)
def mX7_announce : mi_T := (yX7_announce, cX7_announce, 10, (Option.none : Option Jvm.ClassFile.FieldType), 2, 47)
def mX7_noteChanges : mi_T := (yX7_noteChanges, cX7_noteChanges, 7, (some FieldType.int), 1, 25)
def mX8_init : mi_T := (yX8_init, cX8_init, 1, (Option.none : Option Jvm.ClassFile.FieldType), 1, 21)
def mX8_begins : mi_T := (yX8_begins, cX8_begins, 2, (Option.none : Option Jvm.ClassFile.FieldType), 0, 0)
def mX8_in : mi_T := (yX8_in, cX8_in, 3, (some FieldType.boolean), 0, 0)
def mX8_isNode : mi_T := (yX8_isNode, cX8_isNode, 2, (some FieldType.boolean), 1, 22)
def mX8_arePair : mi_T := (yX8_arePair, cX8_arePair, 3, (some FieldType.boolean), 2, 43)
def mX8_linkAt : mi_T := (yX8_linkAt, cX8_linkAt, 3, (some FieldType.int), 0, 0)
def mX8_entryAt : mi_T := (yX8_entryAt, cX8_entryAt, 4, (some FieldType.int), 0, 0)
def mX8_isLink : mi_T := (yX8_isLink, cX8_isLink, 3, (some FieldType.boolean), 1, 22)
def mX8_areNear : mi_T := (yX8_areNear, cX8_areNear, 3, (some FieldType.boolean), 2, 44)
def mX8_sets : mi_T := (yX8_sets, cX8_sets, 5, (Option.none : Option Jvm.ClassFile.FieldType), 1, 22)
def mX8_reset : mi_T := (yX8_reset, cX8_reset, 3, (some FieldType.int), 1, 22)
def mX8_addLink : mi_T := (yX8_addLink, cX8_addLink, 5, (some FieldType.int), 3, 65)
def mX8_removeLink : mi_T := (yX8_removeLink, cX8_removeLink, 4, (some FieldType.int), 3, 65)
def mX8_setCost : mi_T := (yX8_setCost, cX8_setCost, 5, (some FieldType.int), 3, 65)
def mX8_setUp : mi_T := (yX8_setUp, cX8_setUp, 5, (some FieldType.int), 3, 65)
def mX8_link : mi_T := (yX8_link, cX8_link, 4, (some FieldType.int), 3, 65)
def mX8_set : mi_T := (yX8_set, cX8_set, 4, (some FieldType.int), 1, 22)
def mX8_of : mi_T := (yX8_of, cX8_of, 5, (some FieldType.int), 1, 23)
def mX8_isEntry : mi_T := (yX8_isEntry, cX8_isEntry, 4, (some FieldType.boolean), 2, 47)
def mX8_isUsable : mi_T := (yX8_isUsable, cX8_isUsable, 5, (some FieldType.boolean), 3, 70)
def mX8_least : mi_T := (yX8_least, cX8_least, 8, (some FieldType.int), 4, 94)
def mX8_boundOf : mi_T := (yX8_boundOf, cX8_boundOf, 4, (some FieldType.int), 5, 121)
def mX8_weight : mi_T := (yX8_weight, cX8_weight, 8, (some FieldType.int), 5, 121)
def mX8_choiceOf : mi_T := (yX8_choiceOf, cX8_choiceOf, 6, (some FieldType.int), 6, 148)
def mX8_isDominated : mi_T := (yX8_isDominated, cX8_isDominated, 7, (some FieldType.boolean), 4, 94)
def mX8_looks : mi_T := (yX8_looks, cX8_looks, 5, (Option.none : Option Jvm.ClassFile.FieldType), 7, 173)
def mX8_sentAt : mi_T := (yX8_sentAt, cX8_sentAt, 2, (some FieldType.int), 0, 0)
def mX8_isNew : mi_T := (yX8_isNew, cX8_isNew, 4, (some FieldType.boolean), 1, 21)
def mX8_keepsSent : mi_T := (yX8_keepsSent, cX8_keepsSent, 3, (Option.none : Option Jvm.ClassFile.FieldType), 1, 21)
def mX8_limited : mi_T := (yX8_limited, cX8_limited, 2, (some FieldType.int), 0, 0)
def mX8_receives : mi_T := (yX8_receives, cX8_receives, 11, (Option.none : Option Jvm.ClassFile.FieldType), 1, 23)
def mX8_sendsAll : mi_T := (yX8_sendsAll, cX8_sendsAll, 6, (Option.none : Option Jvm.ClassFile.FieldType), 3, 66)
def mX8_notes : mi_T := (yX8_notes, cX8_notes, 5, (Option.none : Option Jvm.ClassFile.FieldType), 0, 0)
def mX8_tick : mi_T := (yX8_tick, cX8_tick, 4, (Option.none : Option Jvm.ClassFile.FieldType), 8, 197)
def mX8_run : mi_T := (yX8_run, cX8_run, 3, (some FieldType.int), 9, 220)
def mX8_time : mi_T := (yX8_time, cX8_time, 1, (some FieldType.int), 0, 0)
def mX8_sent : mi_T := (yX8_sent, cX8_sent, 1, (some FieldType.int), 0, 0)
def mX8_entry : mi_T := (yX8_entry, cX8_entry, 5, (some FieldType.int), 5, 120)
def mX8_distance : mi_T := (yX8_distance, cX8_distance, 5, (some FieldType.int), 6, 144)
def mX8_choice : mi_T := (yX8_choice, cX8_choice, 4, (some FieldType.int), 7, 173)
def mX8_entries : mi_T := (yX8_entries, cX8_entries, 7, (some FieldType.int), 5, 120)
def mX8_meanWidthBits : mi_T := (yX8_meanWidthBits, cX8_meanWidthBits, 6, (some FieldType.int), 6, 144)
def mX8_journalSize : mi_T := (yX8_journalSize, cX8_journalSize, 1, (some FieldType.int), 0, 0)
def mX8_journal : mi_T := (yX8_journal, cX8_journal, 3, (some FieldType.int), 1, 22)
def mX8_measures : mi_T := (yX8_measures, cX8_measures, 8, (Option.none : Option Jvm.ClassFile.FieldType), 3, 66)
def mX8_trueDistance : mi_T := (yX8_trueDistance, cX8_trueDistance, 3, (some FieldType.int), 4, 93)
def mX8_wrongPairs : mi_T := (yX8_wrongPairs, cX8_wrongPairs, 7, (some FieldType.int), 6, 144)
def mX8_follows : mi_T := (yX8_follows, cX8_follows, 7, (some FieldType.int), 7, 173)
def mX8_follow : mi_T := (yX8_follow, cX8_follow, 3, (some FieldType.int), 8, 199)
def mX8_loops : mi_T := (yX8_loops, cX8_loops, 4, (some FieldType.int), 8, 199)
def mX8_putsAside : mi_T := (yX8_putsAside, cX8_putsAside, 2, (Option.none : Option Jvm.ClassFile.FieldType), 0, 0)
def mX8_putsBack : mi_T := (yX8_putsBack, cX8_putsBack, 2, (Option.none : Option Jvm.ClassFile.FieldType), 0, 0)
def mX8_settling : mi_T := (yX8_settling, cX8_settling, 4, (some FieldType.int), 9, 220)
def mX8_pairs : mi_T := (yX8_pairs, cX8_pairs, 3, (some FieldType.int), 4, 93)
def mX8_loss : mi_T := (yX8_loss, cX8_loss, 6, (some FieldType.int), 5, 115)
def mX8_recovery : mi_T := (yX8_recovery, cX8_recovery, 6, (some FieldType.int), 9, 222)
def mX8_store : mi_T := (yX8_store, cX8_store, 2, (some FieldType.int), 0, 0)
def mX8_recall : mi_T := (yX8_recall, cX8_recall, 2, (some FieldType.int), 0, 0)
def mJxf58ca_isNaN_12338 : mi_T := (yJxf58ca_isNaN_12338, cJxf58ca_isNaN_12338, 1, (some FieldType.boolean), 0, 0)
def mJxf58ca_floatToIntBits_5c35a : mi_T := (yJxf58ca_floatToIntBits_5c35a, cJxf58ca_floatToIntBits_5c35a, 1, (some FieldType.int), 1, 23)
def mJ7_fill_53178 : mi_T := (yJ7_fill_53178, cJ7_fill_53178, 4, (Option.none : Option Jvm.ClassFile.FieldType), 0, 0)
def mk_at (z : mi_T) (n : Nat) : Prop := gd_T (.initialized z.1.cls) ∧ gd_T (.code z.1 z.2.1 z.2.2.1 z.2.2.2.1) ∧ (z.1.cls ≠ "java/lang/invoke/MethodHandle" ∧ z.1.cls ≠ "java/lang/invoke/VarHandle") ∧ (parseMethodDescriptor z.1.desc).map (fun d => d.parameters.length) = some n ∧ plainFor z.1 = true
def mv_at (z : mi_T) (n : Nat) : Prop := gd_T (.instanceMethod z.1) ∧ gd_T (.selects z.1.cls z.1 z.1) ∧ mk_at z n
def ms_at (z : mi_T) (n : Nat) : Prop := gd_T (.static z.1) ∧ mk_at z n
def fl_at (own : String) (idx ci k : Nat) : Prop := ∃ (C : String) (T : u_T) (N : Nat), vwCl[ci]? = some (C, T, N) ∧ k < N ∧ gd_T (.fieldLink own idx (T k).1 (T k).2.1 (T k).2.2.1)
theorem mi_X0_init : gd_T (.instanceMethod mX0_init.1) ∧ mk_at mX0_init 0 := ⟨tw_148, ⟨tw_42, tw_149, ⟨by decide +kernel, by decide +kernel⟩, by decide +kernel, by decide +kernel⟩⟩
theorem mv_X0_size : mv_at mX0_size 0 := ⟨tw_561, tw_562, ⟨tw_42, tw_563, ⟨by decide +kernel, by decide +kernel⟩, by decide +kernel, by decide +kernel⟩⟩
theorem mv_X0_add : mv_at mX0_add 4 := ⟨tw_492, tw_493, ⟨tw_42, tw_494, ⟨by decide +kernel, by decide +kernel⟩, by decide +kernel, by decide +kernel⟩⟩
theorem mv_X0_value : mv_at mX0_value 2 := ⟨tw_570, tw_571, ⟨tw_42, tw_572, ⟨by decide +kernel, by decide +kernel⟩, by decide +kernel, by decide +kernel⟩⟩
theorem mv_X0_clear : mv_at mX0_clear 0 := ⟨tw_273, tw_274, ⟨tw_42, tw_275, ⟨by decide +kernel, by decide +kernel⟩, by decide +kernel, by decide +kernel⟩⟩
theorem mv_X0_copyFrom : mv_at mX0_copyFrom 1 := ⟨tw_644, tw_645, ⟨tw_42, tw_646, ⟨by decide +kernel, by decide +kernel⟩, by decide +kernel, by decide +kernel⟩⟩
theorem mi_X1_init : gd_T (.instanceMethod mX1_init.1) ∧ mk_at mX1_init 0 := ⟨tw_77, ⟨tw_39, tw_78, ⟨by decide +kernel, by decide +kernel⟩, by decide +kernel, by decide +kernel⟩⟩
theorem mv_X1_joins : mv_at mX1_joins 2 := ⟨tw_321, tw_322, ⟨tw_39, tw_323, ⟨by decide +kernel, by decide +kernel⟩, by decide +kernel, by decide +kernel⟩⟩
theorem mv_X1_isUp : mv_at mX1_isUp 2 := ⟨tw_398, tw_399, ⟨tw_39, tw_400, ⟨by decide +kernel, by decide +kernel⟩, by decide +kernel, by decide +kernel⟩⟩
theorem mv_X1_insert : mv_at mX1_insert 4 := ⟨tw_328, tw_329, ⟨tw_39, tw_330, ⟨by decide +kernel, by decide +kernel⟩, by decide +kernel, by decide +kernel⟩⟩
theorem mv_X1_delete : mv_at mX1_delete 2 := ⟨tw_348, tw_349, ⟨tw_39, tw_350, ⟨by decide +kernel, by decide +kernel⟩, by decide +kernel, by decide +kernel⟩⟩
theorem mv_X1_putBounds : mv_at mX1_putBounds 4 := ⟨tw_332, tw_333, ⟨tw_39, tw_334, ⟨by decide +kernel, by decide +kernel⟩, by decide +kernel, by decide +kernel⟩⟩
theorem mv_X1_putCost : mv_at mX1_putCost 3 := ⟨tw_336, tw_337, ⟨tw_39, tw_338, ⟨by decide +kernel, by decide +kernel⟩, by decide +kernel, by decide +kernel⟩⟩
theorem mv_X1_putUp : mv_at mX1_putUp 3 := ⟨tw_340, tw_341, ⟨tw_39, tw_342, ⟨by decide +kernel, by decide +kernel⟩, by decide +kernel, by decide +kernel⟩⟩
theorem mv_X1_clear : mv_at mX1_clear 0 := ⟨tw_256, tw_257, ⟨tw_39, tw_258, ⟨by decide +kernel, by decide +kernel⟩, by decide +kernel, by decide +kernel⟩⟩
theorem mv_X1_copyFrom : mv_at mX1_copyFrom 1 := ⟨tw_627, tw_628, ⟨tw_39, tw_629, ⟨by decide +kernel, by decide +kernel⟩, by decide +kernel, by decide +kernel⟩⟩
theorem mi_X2_init : gd_T (.instanceMethod mX2_init.1) ∧ mk_at mX2_init 0 := ⟨tw_71, ⟨tw_38, tw_72, ⟨by decide +kernel, by decide +kernel⟩, by decide +kernel, by decide +kernel⟩⟩
theorem mv_X2_startAnew : mv_at mX2_startAnew 1 := ⟨tw_252, tw_253, ⟨tw_38, tw_254, ⟨by decide +kernel, by decide +kernel⟩, by decide +kernel, by decide +kernel⟩⟩
theorem mv_X2_copyFrom : mv_at mX2_copyFrom 1 := ⟨tw_623, tw_624, ⟨tw_38, tw_625, ⟨by decide +kernel, by decide +kernel⟩, by decide +kernel, by decide +kernel⟩⟩
theorem mv_X2_isUsable : mv_at mX2_isUsable 4 := ⟨tw_509, tw_510, ⟨tw_38, tw_511, ⟨by decide +kernel, by decide +kernel⟩, by decide +kernel, by decide +kernel⟩⟩
theorem mv_X2_isDominated : mv_at mX2_isDominated 4 := ⟨tw_519, tw_520, ⟨tw_38, tw_521, ⟨by decide +kernel, by decide +kernel⟩, by decide +kernel, by decide +kernel⟩⟩
theorem mi_X3_init : gd_T (.instanceMethod mX3_init.1) ∧ mk_at mX3_init 0 := ⟨tw_198, ⟨tw_43, tw_199, ⟨by decide +kernel, by decide +kernel⟩, by decide +kernel, by decide +kernel⟩⟩
theorem mv_X3_reaches : mv_at mX3_reaches 1 := ⟨tw_474, tw_475, ⟨tw_43, tw_476, ⟨by decide +kernel, by decide +kernel⟩, by decide +kernel, by decide +kernel⟩⟩
theorem mv_X3_take : mv_at mX3_take 2 := ⟨tw_390, tw_391, ⟨tw_43, tw_392, ⟨by decide +kernel, by decide +kernel⟩, by decide +kernel, by decide +kernel⟩⟩
theorem mv_X3_takeOne : mv_at mX3_takeOne 4 := ⟨tw_532, tw_533, ⟨tw_43, tw_534, ⟨by decide +kernel, by decide +kernel⟩, by decide +kernel, by decide +kernel⟩⟩
theorem mv_X3_findNeighbours : mv_at mX3_findNeighbours 2 := ⟨tw_394, tw_395, ⟨tw_43, tw_396, ⟨by decide +kernel, by decide +kernel⟩, by decide +kernel, by decide +kernel⟩⟩
theorem mv_X3_look : mv_at mX3_look 4 := ⟨tw_402, tw_403, ⟨tw_43, tw_404, ⟨by decide +kernel, by decide +kernel⟩, by decide +kernel, by decide +kernel⟩⟩
theorem mv_X3_gather : mv_at mX3_gather 4 := ⟨tw_407, tw_408, ⟨tw_43, tw_409, ⟨by decide +kernel, by decide +kernel⟩, by decide +kernel, by decide +kernel⟩⟩
theorem mv_X3_putDistance : mv_at mX3_putDistance 2 := ⟨tw_422, tw_423, ⟨tw_43, tw_424, ⟨by decide +kernel, by decide +kernel⟩, by decide +kernel, by decide +kernel⟩⟩
theorem mv_X3_rankAll : mv_at mX3_rankAll 1 := ⟨tw_429, tw_430, ⟨tw_43, tw_431, ⟨by decide +kernel, by decide +kernel⟩, by decide +kernel, by decide +kernel⟩⟩
theorem mv_X3_choose : mv_at mX3_choose 0 := ⟨tw_440, tw_441, ⟨tw_43, tw_442, ⟨by decide +kernel, by decide +kernel⟩, by decide +kernel, by decide +kernel⟩⟩
theorem mv_X3_isBetter : mv_at mX3_isBetter 2 := ⟨tw_444, tw_445, ⟨tw_43, tw_446, ⟨by decide +kernel, by decide +kernel⟩, by decide +kernel, by decide +kernel⟩⟩
theorem mv_X3_regret : mv_at mX3_regret 1 := ⟨tw_433, tw_434, ⟨tw_43, tw_435, ⟨by decide +kernel, by decide +kernel⟩, by decide +kernel, by decide +kernel⟩⟩
theorem mv_X3_walk : mv_at mX3_walk 2 := ⟨tw_606, tw_607, ⟨tw_43, tw_608, ⟨by decide +kernel, by decide +kernel⟩, by decide +kernel, by decide +kernel⟩⟩
theorem mv_X3_countLoops : mv_at mX3_countLoops 1 := ⟨tw_614, tw_615, ⟨tw_43, tw_616, ⟨by decide +kernel, by decide +kernel⟩, by decide +kernel, by decide +kernel⟩⟩
theorem mi_X4_init : gd_T (.instanceMethod mX4_init.1) ∧ mk_at mX4_init 0 := ⟨tw_106, ⟨tw_40, tw_107, ⟨by decide +kernel, by decide +kernel⟩, by decide +kernel, by decide +kernel⟩⟩
theorem mv_X4_has : mv_at mX4_has 1 := ⟨tw_418, tw_419, ⟨tw_40, tw_420, ⟨by decide +kernel, by decide +kernel⟩, by decide +kernel, by decide +kernel⟩⟩
theorem mv_X4_isOpen : mv_at mX4_isOpen 3 := ⟨tw_414, tw_415, ⟨tw_40, tw_416, ⟨by decide +kernel, by decide +kernel⟩, by decide +kernel, by decide +kernel⟩⟩
theorem mv_X4_dominates : mv_at mX4_dominates 2 := ⟨tw_524, tw_525, ⟨tw_40, tw_526, ⟨by decide +kernel, by decide +kernel⟩, by decide +kernel, by decide +kernel⟩⟩
theorem mv_X4_receive : mv_at mX4_receive 5 := ⟨tw_480, tw_481, ⟨tw_40, tw_482, ⟨by decide +kernel, by decide +kernel⟩, by decide +kernel, by decide +kernel⟩⟩
theorem mv_X4_countGrowth : mv_at mX4_countGrowth 2 := ⟨tw_484, tw_485, ⟨tw_40, tw_486, ⟨by decide +kernel, by decide +kernel⟩, by decide +kernel, by decide +kernel⟩⟩
theorem mv_X4_clear : mv_at mX4_clear 0 := ⟨tw_263, tw_264, ⟨tw_40, tw_265, ⟨by decide +kernel, by decide +kernel⟩, by decide +kernel, by decide +kernel⟩⟩
theorem mv_X4_copyFrom : mv_at mX4_copyFrom 1 := ⟨tw_634, tw_635, ⟨tw_40, tw_636, ⟨by decide +kernel, by decide +kernel⟩, by decide +kernel, by decide +kernel⟩⟩
theorem mi_X5_init : gd_T (.instanceMethod mX5_init.1) ∧ mk_at mX5_init 0 := ⟨tw_135, ⟨tw_41, tw_136, ⟨by decide +kernel, by decide +kernel⟩, by decide +kernel, by decide +kernel⟩⟩
theorem mv_X5_differs : mv_at mX5_differs 3 := ⟨tw_456, tw_457, ⟨tw_41, tw_458, ⟨by decide +kernel, by decide +kernel⟩, by decide +kernel, by decide +kernel⟩⟩
theorem mv_X5_keep : mv_at mX5_keep 3 := ⟨tw_461, tw_462, ⟨tw_41, tw_463, ⟨by decide +kernel, by decide +kernel⟩, by decide +kernel, by decide +kernel⟩⟩
theorem mv_X5_clear : mv_at mX5_clear 0 := ⟨tw_268, tw_269, ⟨tw_41, tw_270, ⟨by decide +kernel, by decide +kernel⟩, by decide +kernel, by decide +kernel⟩⟩
theorem mv_X5_copyFrom : mv_at mX5_copyFrom 1 := ⟨tw_639, tw_640, ⟨tw_41, tw_641, ⟨by decide +kernel, by decide +kernel⟩, by decide +kernel, by decide +kernel⟩⟩
theorem mi_X6_init : gd_T (.instanceMethod mX6_init.1) ∧ mk_at mX6_init 0 := ⟨tw_243, ⟨tw_44, tw_244, ⟨by decide +kernel, by decide +kernel⟩, by decide +kernel, by decide +kernel⟩⟩
theorem mv_X6_exists : mv_at mX6_exists 1 := ⟨tw_590, tw_591, ⟨tw_44, tw_592, ⟨by decide +kernel, by decide +kernel⟩, by decide +kernel, by decide +kernel⟩⟩
theorem mv_X6_measure : mv_at mX6_measure 2 := ⟨tw_578, tw_579, ⟨tw_44, tw_580, ⟨by decide +kernel, by decide +kernel⟩, by decide +kernel, by decide +kernel⟩⟩
theorem mv_X6_shorten : mv_at mX6_shorten 2 := ⟨tw_585, tw_586, ⟨tw_44, tw_587, ⟨by decide +kernel, by decide +kernel⟩, by decide +kernel, by decide +kernel⟩⟩
theorem mv_X6_countPairs : mv_at mX6_countPairs 1 := ⟨tw_654, tw_655, ⟨tw_44, tw_656, ⟨by decide +kernel, by decide +kernel⟩, by decide +kernel, by decide +kernel⟩⟩
theorem mi_X7_init : gd_T (.instanceMethod mX7_init.1) ∧ mk_at mX7_init 0 := ⟨tw_54, ⟨tw_37, tw_55, ⟨by decide +kernel, by decide +kernel⟩, by decide +kernel, by decide +kernel⟩⟩
theorem mv_X7_reset : mv_at mX7_reset 1 := ⟨tw_305, tw_306, ⟨tw_37, tw_307, ⟨by decide +kernel, by decide +kernel⟩, by decide +kernel, by decide +kernel⟩⟩
theorem mv_X7_addLink : mv_at mX7_addLink 4 := ⟨tw_309, tw_310, ⟨tw_37, tw_311, ⟨by decide +kernel, by decide +kernel⟩, by decide +kernel, by decide +kernel⟩⟩
theorem mv_X7_removeLink : mv_at mX7_removeLink 2 := ⟨tw_344, tw_345, ⟨tw_37, tw_346, ⟨by decide +kernel, by decide +kernel⟩, by decide +kernel, by decide +kernel⟩⟩
theorem mv_X7_setCost : mv_at mX7_setCost 3 := ⟨tw_352, tw_353, ⟨tw_37, tw_354, ⟨by decide +kernel, by decide +kernel⟩, by decide +kernel, by decide +kernel⟩⟩
theorem mv_X7_setUp : mv_at mX7_setUp 3 := ⟨tw_358, tw_359, ⟨tw_37, tw_360, ⟨by decide +kernel, by decide +kernel⟩, by decide +kernel, by decide +kernel⟩⟩
theorem mv_X7_link : mv_at mX7_link 3 := ⟨tw_366, tw_367, ⟨tw_37, tw_368, ⟨by decide +kernel, by decide +kernel⟩, by decide +kernel, by decide +kernel⟩⟩
theorem mv_X7_set : mv_at mX7_set 2 := ⟨tw_370, tw_371, ⟨tw_37, tw_372, ⟨by decide +kernel, by decide +kernel⟩, by decide +kernel, by decide +kernel⟩⟩
theorem mv_X7_run : mv_at mX7_run 1 := ⟨tw_381, tw_382, ⟨tw_37, tw_383, ⟨by decide +kernel, by decide +kernel⟩, by decide +kernel, by decide +kernel⟩⟩
theorem mv_X7_time : mv_at mX7_time 0 := ⟨tw_496, tw_497, ⟨tw_37, tw_498, ⟨by decide +kernel, by decide +kernel⟩, by decide +kernel, by decide +kernel⟩⟩
theorem mv_X7_sent : mv_at mX7_sent 0 := ⟨tw_500, tw_501, ⟨tw_37, tw_502, ⟨by decide +kernel, by decide +kernel⟩, by decide +kernel, by decide +kernel⟩⟩
theorem mv_X7_entry : mv_at mX7_entry 4 := ⟨tw_504, tw_505, ⟨tw_37, tw_506, ⟨by decide +kernel, by decide +kernel⟩, by decide +kernel, by decide +kernel⟩⟩
theorem mv_X7_distance : mv_at mX7_distance 3 := ⟨tw_528, tw_529, ⟨tw_37, tw_530, ⟨by decide +kernel, by decide +kernel⟩, by decide +kernel, by decide +kernel⟩⟩
theorem mv_X7_choice : mv_at mX7_choice 2 := ⟨tw_536, tw_537, ⟨tw_37, tw_538, ⟨by decide +kernel, by decide +kernel⟩, by decide +kernel, by decide +kernel⟩⟩
theorem mv_X7_entries : mv_at mX7_entries 3 := ⟨tw_540, tw_541, ⟨tw_37, tw_542, ⟨by decide +kernel, by decide +kernel⟩, by decide +kernel, by decide +kernel⟩⟩
theorem mv_X7_meanWidthBits : mv_at mX7_meanWidthBits 0 := ⟨tw_548, tw_549, ⟨tw_37, tw_550, ⟨by decide +kernel, by decide +kernel⟩, by decide +kernel, by decide +kernel⟩⟩
theorem mv_X7_journalSize : mv_at mX7_journalSize 0 := ⟨tw_557, tw_558, ⟨tw_37, tw_559, ⟨by decide +kernel, by decide +kernel⟩, by decide +kernel, by decide +kernel⟩⟩
theorem mv_X7_journal : mv_at mX7_journal 2 := ⟨tw_566, tw_567, ⟨tw_37, tw_568, ⟨by decide +kernel, by decide +kernel⟩, by decide +kernel, by decide +kernel⟩⟩
theorem mv_X7_trueDistance : mv_at mX7_trueDistance 2 := ⟨tw_574, tw_575, ⟨tw_37, tw_576, ⟨by decide +kernel, by decide +kernel⟩, by decide +kernel, by decide +kernel⟩⟩
theorem mv_X7_wrongPairs : mv_at mX7_wrongPairs 0 := ⟨tw_594, tw_595, ⟨tw_37, tw_596, ⟨by decide +kernel, by decide +kernel⟩, by decide +kernel, by decide +kernel⟩⟩
theorem mv_X7_follow : mv_at mX7_follow 2 := ⟨tw_602, tw_603, ⟨tw_37, tw_604, ⟨by decide +kernel, by decide +kernel⟩, by decide +kernel, by decide +kernel⟩⟩
theorem mv_X7_loops : mv_at mX7_loops 0 := ⟨tw_610, tw_611, ⟨tw_37, tw_612, ⟨by decide +kernel, by decide +kernel⟩, by decide +kernel, by decide +kernel⟩⟩
theorem mv_X7_settling : mv_at mX7_settling 0 := ⟨tw_619, tw_620, ⟨tw_37, tw_621, ⟨by decide +kernel, by decide +kernel⟩, by decide +kernel, by decide +kernel⟩⟩
theorem mv_X7_loss : mv_at mX7_loss 2 := ⟨tw_650, tw_651, ⟨tw_37, tw_652, ⟨by decide +kernel, by decide +kernel⟩, by decide +kernel, by decide +kernel⟩⟩
theorem mv_X7_recovery : mv_at mX7_recovery 2 := ⟨tw_659, tw_660, ⟨tw_37, tw_661, ⟨by decide +kernel, by decide +kernel⟩, by decide +kernel, by decide +kernel⟩⟩
theorem mv_X7_store : mv_at mX7_store 0 := ⟨tw_663, tw_664, ⟨tw_37, tw_665, ⟨by decide +kernel, by decide +kernel⟩, by decide +kernel, by decide +kernel⟩⟩
theorem mv_X7_recall : mv_at mX7_recall 0 := ⟨tw_667, tw_668, ⟨tw_37, tw_669, ⟨by decide +kernel, by decide +kernel⟩, by decide +kernel, by decide +kernel⟩⟩
theorem mv_X7_isNode : mv_at mX7_isNode 1 := ⟨tw_318, tw_1, ⟨tw_37, tw_319, ⟨by decide +kernel, by decide +kernel⟩, by decide +kernel, by decide +kernel⟩⟩
theorem mv_X7_isPair : mv_at mX7_isPair 2 := ⟨tw_314, tw_0, ⟨tw_37, tw_315, ⟨by decide +kernel, by decide +kernel⟩, by decide +kernel, by decide +kernel⟩⟩
theorem ms_X7_isBetween : ms_at mX7_isBetween 3 := ⟨tw_362, ⟨tw_37, tw_363, ⟨by decide +kernel, by decide +kernel⟩, by decide +kernel, by decide +kernel⟩⟩
theorem ms_X7_isSetting : ms_at mX7_isSetting 1 := ⟨tw_374, ⟨tw_37, tw_375, ⟨by decide +kernel, by decide +kernel⟩, by decide +kernel, by decide +kernel⟩⟩
theorem ms_X7_asNumber : ms_at mX7_asNumber 1 := ⟨tw_516, ⟨tw_37, tw_517, ⟨by decide +kernel, by decide +kernel⟩, by decide +kernel, by decide +kernel⟩⟩
theorem ms_X7_pair : ms_at mX7_pair 2 := ⟨tw_325, ⟨tw_37, tw_326, ⟨by decide +kernel, by decide +kernel⟩, by decide +kernel, by decide +kernel⟩⟩
theorem ms_X7_slot : ms_at mX7_slot 3 := ⟨tw_411, ⟨tw_37, tw_412, ⟨by decide +kernel, by decide +kernel⟩, by decide +kernel, by decide +kernel⟩⟩
theorem mv_X7_counts : mv_at mX7_counts 4 := ⟨tw_545, tw_8, ⟨tw_37, tw_546, ⟨by decide +kernel, by decide +kernel⟩, by decide +kernel, by decide +kernel⟩⟩
theorem mv_X7_isWrong : mv_at mX7_isWrong 1 := ⟨tw_599, tw_9, ⟨tw_37, tw_600, ⟨by decide +kernel, by decide +kernel⟩, by decide +kernel, by decide +kernel⟩⟩
theorem ms_X7_bitsOf : ms_at mX7_bitsOf 1 := ⟨tw_552, ⟨tw_37, tw_553, ⟨by decide +kernel, by decide +kernel⟩, by decide +kernel, by decide +kernel⟩⟩
theorem mv_X7_makeTick : mv_at mX7_makeTick 1 := ⟨tw_387, tw_2, ⟨tw_37, tw_388, ⟨by decide +kernel, by decide +kernel⟩, by decide +kernel, by decide +kernel⟩⟩
theorem mv_X7_chooseSpeakers : mv_at mX7_chooseSpeakers 1 := ⟨tw_449, tw_3, ⟨tw_37, tw_450, ⟨by decide +kernel, by decide +kernel⟩, by decide +kernel, by decide +kernel⟩⟩
theorem mv_X7_isDue : mv_at mX7_isDue 2 := ⟨tw_453, tw_4, ⟨tw_37, tw_454, ⟨by decide +kernel, by decide +kernel⟩, by decide +kernel, by decide +kernel⟩⟩
theorem mv_X7_speak : mv_at mX7_speak 2 := ⟨tw_466, tw_5, ⟨tw_37, tw_467, ⟨by decide +kernel, by decide +kernel⟩, by decide +kernel, by decide +kernel⟩⟩
theorem mv_X7_announce : mv_at mX7_announce 4 := ⟨tw_471, tw_6, ⟨tw_37, tw_472, ⟨by decide +kernel, by decide +kernel⟩, by decide +kernel, by decide +kernel⟩⟩
theorem mv_X7_noteChanges : mv_at mX7_noteChanges 1 := ⟨tw_489, tw_7, ⟨tw_37, tw_490, ⟨by decide +kernel, by decide +kernel⟩, by decide +kernel, by decide +kernel⟩⟩
theorem mi_X8_init : gd_T (.instanceMethod mX8_init.1) ∧ mk_at mX8_init 0 := ⟨tw_673, ⟨tw_46, tw_674, ⟨by decide +kernel, by decide +kernel⟩, by decide +kernel, by decide +kernel⟩⟩
theorem mv_X8_begins : mv_at mX8_begins 0 := ⟨tw_678, tw_10, ⟨tw_46, tw_679, ⟨by decide +kernel, by decide +kernel⟩, by decide +kernel, by decide +kernel⟩⟩
theorem ms_X8_in : ms_at mX8_in 3 := ⟨tw_731, ⟨tw_46, tw_732, ⟨by decide +kernel, by decide +kernel⟩, by decide +kernel, by decide +kernel⟩⟩
theorem mv_X8_isNode : mv_at mX8_isNode 1 := ⟨tw_743, tw_12, ⟨tw_46, tw_744, ⟨by decide +kernel, by decide +kernel⟩, by decide +kernel, by decide +kernel⟩⟩
theorem mv_X8_arePair : mv_at mX8_arePair 2 := ⟨tw_739, tw_11, ⟨tw_46, tw_740, ⟨by decide +kernel, by decide +kernel⟩, by decide +kernel, by decide +kernel⟩⟩
theorem ms_X8_linkAt : ms_at mX8_linkAt 3 := ⟨tw_750, ⟨tw_46, tw_751, ⟨by decide +kernel, by decide +kernel⟩, by decide +kernel, by decide +kernel⟩⟩
theorem ms_X8_entryAt : ms_at mX8_entryAt 4 := ⟨tw_810, ⟨tw_46, tw_811, ⟨by decide +kernel, by decide +kernel⟩, by decide +kernel, by decide +kernel⟩⟩
theorem mv_X8_isLink : mv_at mX8_isLink 2 := ⟨tw_747, tw_13, ⟨tw_46, tw_748, ⟨by decide +kernel, by decide +kernel⟩, by decide +kernel, by decide +kernel⟩⟩
theorem mv_X8_areNear : mv_at mX8_areNear 2 := ⟨tw_814, tw_22, ⟨tw_46, tw_815, ⟨by decide +kernel, by decide +kernel⟩, by decide +kernel, by decide +kernel⟩⟩
theorem mv_X8_sets : mv_at mX8_sets 4 := ⟨tw_754, tw_14, ⟨tw_46, tw_755, ⟨by decide +kernel, by decide +kernel⟩, by decide +kernel, by decide +kernel⟩⟩
theorem mv_X8_reset : mv_at mX8_reset 1 := ⟨tw_727, tw_728, ⟨tw_46, tw_729, ⟨by decide +kernel, by decide +kernel⟩, by decide +kernel, by decide +kernel⟩⟩
theorem mv_X8_addLink : mv_at mX8_addLink 4 := ⟨tw_734, tw_735, ⟨tw_46, tw_736, ⟨by decide +kernel, by decide +kernel⟩, by decide +kernel, by decide +kernel⟩⟩
theorem mv_X8_removeLink : mv_at mX8_removeLink 2 := ⟨tw_757, tw_758, ⟨tw_46, tw_759, ⟨by decide +kernel, by decide +kernel⟩, by decide +kernel, by decide +kernel⟩⟩
theorem mv_X8_setCost : mv_at mX8_setCost 3 := ⟨tw_761, tw_762, ⟨tw_46, tw_763, ⟨by decide +kernel, by decide +kernel⟩, by decide +kernel, by decide +kernel⟩⟩
theorem mv_X8_setUp : mv_at mX8_setUp 3 := ⟨tw_765, tw_766, ⟨tw_46, tw_767, ⟨by decide +kernel, by decide +kernel⟩, by decide +kernel, by decide +kernel⟩⟩
theorem mv_X8_link : mv_at mX8_link 3 := ⟨tw_769, tw_770, ⟨tw_46, tw_771, ⟨by decide +kernel, by decide +kernel⟩, by decide +kernel, by decide +kernel⟩⟩
theorem mv_X8_set : mv_at mX8_set 2 := ⟨tw_773, tw_774, ⟨tw_46, tw_775, ⟨by decide +kernel, by decide +kernel⟩, by decide +kernel, by decide +kernel⟩⟩
theorem mv_X8_of : mv_at mX8_of 4 := ⟨tw_807, tw_21, ⟨tw_46, tw_808, ⟨by decide +kernel, by decide +kernel⟩, by decide +kernel, by decide +kernel⟩⟩
theorem mv_X8_isEntry : mv_at mX8_isEntry 3 := ⟨tw_803, tw_20, ⟨tw_46, tw_804, ⟨by decide +kernel, by decide +kernel⟩, by decide +kernel, by decide +kernel⟩⟩
theorem mv_X8_isUsable : mv_at mX8_isUsable 3 := ⟨tw_799, tw_19, ⟨tw_46, tw_800, ⟨by decide +kernel, by decide +kernel⟩, by decide +kernel, by decide +kernel⟩⟩
theorem mv_X8_least : mv_at mX8_least 4 := ⟨tw_795, tw_18, ⟨tw_46, tw_796, ⟨by decide +kernel, by decide +kernel⟩, by decide +kernel, by decide +kernel⟩⟩
theorem mv_X8_boundOf : mv_at mX8_boundOf 3 := ⟨tw_791, tw_17, ⟨tw_46, tw_792, ⟨by decide +kernel, by decide +kernel⟩, by decide +kernel, by decide +kernel⟩⟩
theorem mv_X8_weight : mv_at mX8_weight 4 := ⟨tw_822, tw_24, ⟨tw_46, tw_823, ⟨by decide +kernel, by decide +kernel⟩, by decide +kernel, by decide +kernel⟩⟩
theorem mv_X8_choiceOf : mv_at mX8_choiceOf 2 := ⟨tw_818, tw_23, ⟨tw_46, tw_819, ⟨by decide +kernel, by decide +kernel⟩, by decide +kernel, by decide +kernel⟩⟩
theorem mv_X8_isDominated : mv_at mX8_isDominated 3 := ⟨tw_864, tw_30, ⟨tw_46, tw_865, ⟨by decide +kernel, by decide +kernel⟩, by decide +kernel, by decide +kernel⟩⟩
theorem mv_X8_looks : mv_at mX8_looks 0 := ⟨tw_787, tw_16, ⟨tw_46, tw_788, ⟨by decide +kernel, by decide +kernel⟩, by decide +kernel, by decide +kernel⟩⟩
theorem ms_X8_sentAt : ms_at mX8_sentAt 2 := ⟨tw_829, ⟨tw_46, tw_830, ⟨by decide +kernel, by decide +kernel⟩, by decide +kernel, by decide +kernel⟩⟩
theorem mv_X8_isNew : mv_at mX8_isNew 1 := ⟨tw_826, tw_25, ⟨tw_46, tw_827, ⟨by decide +kernel, by decide +kernel⟩, by decide +kernel, by decide +kernel⟩⟩
theorem mv_X8_keepsSent : mv_at mX8_keepsSent 1 := ⟨tw_844, tw_28, ⟨tw_46, tw_845, ⟨by decide +kernel, by decide +kernel⟩, by decide +kernel, by decide +kernel⟩⟩
theorem ms_X8_limited : ms_at mX8_limited 2 := ⟨tw_840, ⟨tw_46, tw_841, ⟨by decide +kernel, by decide +kernel⟩, by decide +kernel, by decide +kernel⟩⟩
theorem mv_X8_receives : mv_at mX8_receives 4 := ⟨tw_837, tw_27, ⟨tw_46, tw_838, ⟨by decide +kernel, by decide +kernel⟩, by decide +kernel, by decide +kernel⟩⟩
theorem mv_X8_sendsAll : mv_at mX8_sendsAll 1 := ⟨tw_833, tw_26, ⟨tw_46, tw_834, ⟨by decide +kernel, by decide +kernel⟩, by decide +kernel, by decide +kernel⟩⟩
theorem mv_X8_notes : mv_at mX8_notes 3 := ⟨tw_848, tw_29, ⟨tw_46, tw_849, ⟨by decide +kernel, by decide +kernel⟩, by decide +kernel, by decide +kernel⟩⟩
theorem mv_X8_tick : mv_at mX8_tick 0 := ⟨tw_783, tw_15, ⟨tw_46, tw_784, ⟨by decide +kernel, by decide +kernel⟩, by decide +kernel, by decide +kernel⟩⟩
theorem mv_X8_run : mv_at mX8_run 1 := ⟨tw_777, tw_778, ⟨tw_46, tw_779, ⟨by decide +kernel, by decide +kernel⟩, by decide +kernel, by decide +kernel⟩⟩
theorem mv_X8_time : mv_at mX8_time 0 := ⟨tw_851, tw_852, ⟨tw_46, tw_853, ⟨by decide +kernel, by decide +kernel⟩, by decide +kernel, by decide +kernel⟩⟩
theorem mv_X8_sent : mv_at mX8_sent 0 := ⟨tw_855, tw_856, ⟨tw_46, tw_857, ⟨by decide +kernel, by decide +kernel⟩, by decide +kernel, by decide +kernel⟩⟩
theorem mv_X8_entry : mv_at mX8_entry 4 := ⟨tw_859, tw_860, ⟨tw_46, tw_861, ⟨by decide +kernel, by decide +kernel⟩, by decide +kernel, by decide +kernel⟩⟩
theorem mv_X8_distance : mv_at mX8_distance 3 := ⟨tw_867, tw_868, ⟨tw_46, tw_869, ⟨by decide +kernel, by decide +kernel⟩, by decide +kernel, by decide +kernel⟩⟩
theorem mv_X8_choice : mv_at mX8_choice 2 := ⟨tw_871, tw_872, ⟨tw_46, tw_873, ⟨by decide +kernel, by decide +kernel⟩, by decide +kernel, by decide +kernel⟩⟩
theorem mv_X8_entries : mv_at mX8_entries 3 := ⟨tw_875, tw_876, ⟨tw_46, tw_877, ⟨by decide +kernel, by decide +kernel⟩, by decide +kernel, by decide +kernel⟩⟩
theorem mv_X8_meanWidthBits : mv_at mX8_meanWidthBits 0 := ⟨tw_879, tw_880, ⟨tw_46, tw_881, ⟨by decide +kernel, by decide +kernel⟩, by decide +kernel, by decide +kernel⟩⟩
theorem mv_X8_journalSize : mv_at mX8_journalSize 0 := ⟨tw_893, tw_894, ⟨tw_46, tw_895, ⟨by decide +kernel, by decide +kernel⟩, by decide +kernel, by decide +kernel⟩⟩
theorem mv_X8_journal : mv_at mX8_journal 2 := ⟨tw_897, tw_898, ⟨tw_46, tw_899, ⟨by decide +kernel, by decide +kernel⟩, by decide +kernel, by decide +kernel⟩⟩
theorem mv_X8_measures : mv_at mX8_measures 0 := ⟨tw_906, tw_31, ⟨tw_46, tw_907, ⟨by decide +kernel, by decide +kernel⟩, by decide +kernel, by decide +kernel⟩⟩
theorem mv_X8_trueDistance : mv_at mX8_trueDistance 2 := ⟨tw_901, tw_902, ⟨tw_46, tw_903, ⟨by decide +kernel, by decide +kernel⟩, by decide +kernel, by decide +kernel⟩⟩
theorem mv_X8_wrongPairs : mv_at mX8_wrongPairs 0 := ⟨tw_909, tw_910, ⟨tw_46, tw_911, ⟨by decide +kernel, by decide +kernel⟩, by decide +kernel, by decide +kernel⟩⟩
theorem mv_X8_follows : mv_at mX8_follows 2 := ⟨tw_918, tw_32, ⟨tw_46, tw_919, ⟨by decide +kernel, by decide +kernel⟩, by decide +kernel, by decide +kernel⟩⟩
theorem mv_X8_follow : mv_at mX8_follow 2 := ⟨tw_913, tw_914, ⟨tw_46, tw_915, ⟨by decide +kernel, by decide +kernel⟩, by decide +kernel, by decide +kernel⟩⟩
theorem mv_X8_loops : mv_at mX8_loops 0 := ⟨tw_921, tw_922, ⟨tw_46, tw_923, ⟨by decide +kernel, by decide +kernel⟩, by decide +kernel, by decide +kernel⟩⟩
theorem mv_X8_putsAside : mv_at mX8_putsAside 0 := ⟨tw_930, tw_33, ⟨tw_46, tw_931, ⟨by decide +kernel, by decide +kernel⟩, by decide +kernel, by decide +kernel⟩⟩
theorem mv_X8_putsBack : mv_at mX8_putsBack 0 := ⟨tw_934, tw_34, ⟨tw_46, tw_935, ⟨by decide +kernel, by decide +kernel⟩, by decide +kernel, by decide +kernel⟩⟩
theorem mv_X8_settling : mv_at mX8_settling 0 := ⟨tw_925, tw_926, ⟨tw_46, tw_927, ⟨by decide +kernel, by decide +kernel⟩, by decide +kernel, by decide +kernel⟩⟩
theorem mv_X8_pairs : mv_at mX8_pairs 0 := ⟨tw_942, tw_35, ⟨tw_46, tw_943, ⟨by decide +kernel, by decide +kernel⟩, by decide +kernel, by decide +kernel⟩⟩
theorem mv_X8_loss : mv_at mX8_loss 2 := ⟨tw_937, tw_938, ⟨tw_46, tw_939, ⟨by decide +kernel, by decide +kernel⟩, by decide +kernel, by decide +kernel⟩⟩
theorem mv_X8_recovery : mv_at mX8_recovery 2 := ⟨tw_945, tw_946, ⟨tw_46, tw_947, ⟨by decide +kernel, by decide +kernel⟩, by decide +kernel, by decide +kernel⟩⟩
theorem mv_X8_store : mv_at mX8_store 0 := ⟨tw_950, tw_951, ⟨tw_46, tw_952, ⟨by decide +kernel, by decide +kernel⟩, by decide +kernel, by decide +kernel⟩⟩
theorem mv_X8_recall : mv_at mX8_recall 0 := ⟨tw_954, tw_955, ⟨tw_46, tw_956, ⟨by decide +kernel, by decide +kernel⟩, by decide +kernel, by decide +kernel⟩⟩
theorem ms_Jxf58ca_isNaN_12338 : ms_at mJxf58ca_isNaN_12338 1 := ⟨tw_886, ⟨tw_49, tw_887, ⟨by decide +kernel, by decide +kernel⟩, by decide +kernel, by decide +kernel⟩⟩
theorem ms_Jxf58ca_floatToIntBits_5c35a : ms_at mJxf58ca_floatToIntBits_5c35a 1 := ⟨tw_883, ⟨tw_49, tw_884, ⟨by decide +kernel, by decide +kernel⟩, by decide +kernel, by decide +kernel⟩⟩
theorem ms_J7_fill_53178 : ms_at mJ7_fill_53178 2 := ⟨tw_260, ⟨tw_45, tw_261, ⟨by decide +kernel, by decide +kernel⟩, by decide +kernel, by decide +kernel⟩⟩
theorem fl_X7_77 : fl_at RX7 77 1 0 := ⟨RX1, TX1, 5, rfl, by decide, tw_80⟩
theorem fl_X1_39 : fl_at RX1 39 1 0 := ⟨RX1, TX1, 5, rfl, by decide, tw_81⟩
theorem fl_X1_9 : fl_at RX1 9 1 1 := ⟨RX1, TX1, 5, rfl, by decide, tw_82⟩
theorem fl_X7_92 : fl_at RX7 92 1 1 := ⟨RX1, TX1, 5, rfl, by decide, tw_83⟩
theorem fl_X1_15 : fl_at RX1 15 1 2 := ⟨RX1, TX1, 5, rfl, by decide, tw_84⟩
theorem fl_X7_95 : fl_at RX7 95 1 2 := ⟨RX1, TX1, 5, rfl, by decide, tw_85⟩
theorem fl_X1_18 : fl_at RX1 18 1 3 := ⟨RX1, TX1, 5, rfl, by decide, tw_86⟩
theorem fl_X6_26 : fl_at RX6 26 1 3 := ⟨RX1, TX1, 5, rfl, by decide, tw_87⟩
theorem fl_X7_98 : fl_at RX7 98 1 3 := ⟨RX1, TX1, 5, rfl, by decide, tw_88⟩
theorem fl_X1_21 : fl_at RX1 21 1 4 := ⟨RX1, TX1, 5, rfl, by decide, tw_89⟩
theorem fl_X7_109 : fl_at RX7 109 1 4 := ⟨RX1, TX1, 5, rfl, by decide, tw_90⟩
theorem fl_X4_9 : fl_at RX4 9 4 0 := ⟨RX4, TX4, 5, rfl, by decide, tw_109⟩
theorem fl_X3_106 : fl_at RX3 106 4 0 := ⟨RX4, TX4, 5, rfl, by decide, tw_110⟩
theorem fl_X7_149 : fl_at RX7 149 4 0 := ⟨RX4, TX4, 5, rfl, by decide, tw_111⟩
theorem fl_X4_15 : fl_at RX4 15 4 1 := ⟨RX4, TX4, 5, rfl, by decide, tw_112⟩
theorem fl_X3_107 : fl_at RX3 107 4 1 := ⟨RX4, TX4, 5, rfl, by decide, tw_113⟩
theorem fl_X7_150 : fl_at RX7 150 4 1 := ⟨RX4, TX4, 5, rfl, by decide, tw_114⟩
theorem fl_X4_18 : fl_at RX4 18 4 2 := ⟨RX4, TX4, 5, rfl, by decide, tw_115⟩
theorem fl_X7_151 : fl_at RX7 151 4 2 := ⟨RX4, TX4, 5, rfl, by decide, tw_116⟩
theorem fl_X4_21 : fl_at RX4 21 4 3 := ⟨RX4, TX4, 5, rfl, by decide, tw_117⟩
theorem fl_X7_154 : fl_at RX7 154 4 3 := ⟨RX4, TX4, 5, rfl, by decide, tw_118⟩
theorem fl_X4_24 : fl_at RX4 24 4 4 := ⟨RX4, TX4, 5, rfl, by decide, tw_119⟩
theorem fl_X7_157 : fl_at RX7 157 4 4 := ⟨RX4, TX4, 5, rfl, by decide, tw_120⟩
theorem fl_X5_9 : fl_at RX5 9 5 0 := ⟨RX5, TX5, 2, rfl, by decide, tw_138⟩
theorem fl_X5_15 : fl_at RX5 15 5 1 := ⟨RX5, TX5, 2, rfl, by decide, tw_139⟩
theorem fl_X0_9 : fl_at RX0 9 0 0 := ⟨RX0, TX0, 2, rfl, by decide, tw_151⟩
theorem fl_X0_15 : fl_at RX0 15 0 1 := ⟨RX0, TX0, 2, rfl, by decide, tw_152⟩
theorem fl_X2_43 : fl_at RX2 43 2 0 := ⟨RX2, TX2, 8, rfl, by decide, tw_158⟩
theorem fl_X7_60 : fl_at RX7 60 2 0 := ⟨RX2, TX2, 8, rfl, by decide, tw_159⟩
theorem fl_X3_39 : fl_at RX3 39 2 0 := ⟨RX2, TX2, 8, rfl, by decide, tw_160⟩
theorem fl_X2_47 : fl_at RX2 47 2 1 := ⟨RX2, TX2, 8, rfl, by decide, tw_161⟩
theorem fl_X3_97 : fl_at RX3 97 2 1 := ⟨RX2, TX2, 8, rfl, by decide, tw_162⟩
theorem fl_X7_125 : fl_at RX7 125 2 1 := ⟨RX2, TX2, 8, rfl, by decide, tw_163⟩
theorem fl_X2_50 : fl_at RX2 50 2 2 := ⟨RX2, TX2, 8, rfl, by decide, tw_164⟩
theorem fl_X7_133 : fl_at RX7 133 2 2 := ⟨RX2, TX2, 8, rfl, by decide, tw_165⟩
theorem fl_X2_12 : fl_at RX2 12 2 3 := ⟨RX2, TX2, 8, rfl, by decide, tw_166⟩
theorem fl_X7_68 : fl_at RX7 68 2 3 := ⟨RX2, TX2, 8, rfl, by decide, tw_167⟩
theorem fl_X3_56 : fl_at RX3 56 2 3 := ⟨RX2, TX2, 8, rfl, by decide, tw_168⟩
theorem fl_X2_21 : fl_at RX2 21 2 4 := ⟨RX2, TX2, 8, rfl, by decide, tw_169⟩
theorem fl_X3_93 : fl_at RX3 93 2 4 := ⟨RX2, TX2, 8, rfl, by decide, tw_170⟩
theorem fl_X7_140 : fl_at RX7 140 2 4 := ⟨RX2, TX2, 8, rfl, by decide, tw_171⟩
theorem fl_X2_28 : fl_at RX2 28 2 5 := ⟨RX2, TX2, 8, rfl, by decide, tw_172⟩
theorem fl_X7_256 : fl_at RX7 256 2 5 := ⟨RX2, TX2, 8, rfl, by decide, tw_173⟩
theorem fl_X2_35 : fl_at RX2 35 2 6 := ⟨RX2, TX2, 8, rfl, by decide, tw_174⟩
theorem fl_X7_197 : fl_at RX7 197 2 6 := ⟨RX2, TX2, 8, rfl, by decide, tw_175⟩
theorem fl_X2_39 : fl_at RX2 39 2 7 := ⟨RX2, TX2, 8, rfl, by decide, tw_176⟩
theorem fl_X7_283 : fl_at RX7 283 2 7 := ⟨RX2, TX2, 8, rfl, by decide, tw_177⟩
theorem fl_X3_9 : fl_at RX3 9 3 0 := ⟨RX3, TX3, 11, rfl, by decide, tw_201⟩
theorem fl_X5_22 : fl_at RX5 22 3 0 := ⟨RX3, TX3, 11, rfl, by decide, tw_202⟩
theorem fl_X7_181 : fl_at RX7 181 3 0 := ⟨RX3, TX3, 11, rfl, by decide, tw_203⟩
theorem fl_X3_15 : fl_at RX3 15 3 1 := ⟨RX3, TX3, 11, rfl, by decide, tw_204⟩
theorem fl_X5_25 : fl_at RX5 25 3 1 := ⟨RX3, TX3, 11, rfl, by decide, tw_205⟩
theorem fl_X7_182 : fl_at RX7 182 3 1 := ⟨RX3, TX3, 11, rfl, by decide, tw_206⟩
theorem fl_X3_18 : fl_at RX3 18 3 2 := ⟨RX3, TX3, 11, rfl, by decide, tw_207⟩
theorem fl_X7_183 : fl_at RX7 183 3 2 := ⟨RX3, TX3, 11, rfl, by decide, tw_208⟩
theorem fl_X3_21 : fl_at RX3 21 3 3 := ⟨RX3, TX3, 11, rfl, by decide, tw_209⟩
theorem fl_X3_53 : fl_at RX3 53 3 4 := ⟨RX3, TX3, 11, rfl, by decide, tw_210⟩
theorem fl_X3_24 : fl_at RX3 24 3 5 := ⟨RX3, TX3, 11, rfl, by decide, tw_211⟩
theorem fl_X3_27 : fl_at RX3 27 3 6 := ⟨RX3, TX3, 11, rfl, by decide, tw_212⟩
theorem fl_X3_30 : fl_at RX3 30 3 7 := ⟨RX3, TX3, 11, rfl, by decide, tw_213⟩
theorem fl_X3_33 : fl_at RX3 33 3 8 := ⟨RX3, TX3, 11, rfl, by decide, tw_214⟩
theorem fl_X3_36 : fl_at RX3 36 3 9 := ⟨RX3, TX3, 11, rfl, by decide, tw_215⟩
theorem fl_X3_86 : fl_at RX3 86 3 10 := ⟨RX3, TX3, 11, rfl, by decide, tw_216⟩
theorem fl_X6_9 : fl_at RX6 9 6 0 := ⟨RX6, TX6, 1, rfl, by decide, tw_246⟩
theorem fl_X7_217 : fl_at RX7 217 6 0 := ⟨RX6, TX6, 1, rfl, by decide, tw_247⟩
theorem fl_X7_18 : fl_at RX7 18 7 0 := ⟨RX7, TX7, 8, rfl, by decide, tw_278⟩
theorem fl_X7_24 : fl_at RX7 24 7 1 := ⟨RX7, TX7, 8, rfl, by decide, tw_279⟩
theorem fl_X7_28 : fl_at RX7 28 7 2 := ⟨RX7, TX7, 8, rfl, by decide, tw_280⟩
theorem fl_X7_31 : fl_at RX7 31 7 3 := ⟨RX7, TX7, 8, rfl, by decide, tw_281⟩
theorem fl_X7_37 : fl_at RX7 37 7 4 := ⟨RX7, TX7, 8, rfl, by decide, tw_282⟩
theorem fl_X7_44 : fl_at RX7 44 7 5 := ⟨RX7, TX7, 8, rfl, by decide, tw_283⟩
theorem fl_X7_48 : fl_at RX7 48 7 6 := ⟨RX7, TX7, 8, rfl, by decide, tw_284⟩
theorem fl_X7_52 : fl_at RX7 52 7 7 := ⟨RX7, TX7, 8, rfl, by decide, tw_285⟩
theorem fl_X8_7 : fl_at RX8 7 8 0 := ⟨RX8, TX8, 15, rfl, by decide, tw_680⟩
theorem fl_X8_13 : fl_at RX8 13 8 1 := ⟨RX8, TX8, 15, rfl, by decide, tw_681⟩
theorem fl_X8_17 : fl_at RX8 17 8 2 := ⟨RX8, TX8, 15, rfl, by decide, tw_682⟩
theorem fl_X8_20 : fl_at RX8 20 8 3 := ⟨RX8, TX8, 15, rfl, by decide, tw_683⟩
theorem fl_X8_70 : fl_at RX8 70 8 4 := ⟨RX8, TX8, 15, rfl, by decide, tw_684⟩
theorem fl_X8_23 : fl_at RX8 23 8 5 := ⟨RX8, TX8, 15, rfl, by decide, tw_685⟩
theorem fl_X8_26 : fl_at RX8 26 8 6 := ⟨RX8, TX8, 15, rfl, by decide, tw_686⟩
theorem fl_X8_29 : fl_at RX8 29 8 7 := ⟨RX8, TX8, 15, rfl, by decide, tw_687⟩
theorem fl_X8_32 : fl_at RX8 32 8 8 := ⟨RX8, TX8, 15, rfl, by decide, tw_688⟩
theorem fl_X8_35 : fl_at RX8 35 8 9 := ⟨RX8, TX8, 15, rfl, by decide, tw_689⟩
theorem fl_X8_38 : fl_at RX8 38 8 10 := ⟨RX8, TX8, 15, rfl, by decide, tw_690⟩
theorem fl_X8_41 : fl_at RX8 41 8 11 := ⟨RX8, TX8, 15, rfl, by decide, tw_691⟩
theorem fl_X8_45 : fl_at RX8 45 8 12 := ⟨RX8, TX8, 15, rfl, by decide, tw_692⟩
theorem fl_X8_48 : fl_at RX8 48 8 13 := ⟨RX8, TX8, 15, rfl, by decide, tw_693⟩
theorem fl_X8_121 : fl_at RX8 121 8 14 := ⟨RX8, TX8, 15, rfl, by decide, tw_694⟩
theorem ly_X0 : ∀ w ∈ u_ws RX0 TX0 2, gd_T w := by
  intro w hw
  obtain ⟨k, hk, rfl⟩ := List.mem_map.mp hw
  have hk := List.mem_range.mp hk
  match k, hk with
  | 0, _ => exact tw_153
  | 1, _ => exact tw_155
  | k + 2, h => exact absurd h (by omega)
theorem ly_X1 : ∀ w ∈ u_ws RX1 TX1 5, gd_T w := by
  intro w hw
  obtain ⟨k, hk, rfl⟩ := List.mem_map.mp hw
  have hk := List.mem_range.mp hk
  match k, hk with
  | 0, _ => exact tw_91
  | 1, _ => exact tw_93
  | 2, _ => exact tw_95
  | 3, _ => exact tw_97
  | 4, _ => exact tw_99
  | k + 5, h => exact absurd h (by omega)
theorem ly_X2 : ∀ w ∈ u_ws RX2 TX2 8, gd_T w := by
  intro w hw
  obtain ⟨k, hk, rfl⟩ := List.mem_map.mp hw
  have hk := List.mem_range.mp hk
  match k, hk with
  | 0, _ => exact tw_178
  | 1, _ => exact tw_180
  | 2, _ => exact tw_182
  | 3, _ => exact tw_184
  | 4, _ => exact tw_186
  | 5, _ => exact tw_188
  | 6, _ => exact tw_190
  | 7, _ => exact tw_192
  | k + 8, h => exact absurd h (by omega)
theorem ly_X3 : ∀ w ∈ u_ws RX3 TX3 11, gd_T w := by
  intro w hw
  obtain ⟨k, hk, rfl⟩ := List.mem_map.mp hw
  have hk := List.mem_range.mp hk
  match k, hk with
  | 0, _ => exact tw_217
  | 1, _ => exact tw_219
  | 2, _ => exact tw_221
  | 3, _ => exact tw_223
  | 4, _ => exact tw_225
  | 5, _ => exact tw_227
  | 6, _ => exact tw_229
  | 7, _ => exact tw_231
  | 8, _ => exact tw_233
  | 9, _ => exact tw_235
  | 10, _ => exact tw_237
  | k + 11, h => exact absurd h (by omega)
theorem ly_X4 : ∀ w ∈ u_ws RX4 TX4 5, gd_T w := by
  intro w hw
  obtain ⟨k, hk, rfl⟩ := List.mem_map.mp hw
  have hk := List.mem_range.mp hk
  match k, hk with
  | 0, _ => exact tw_121
  | 1, _ => exact tw_123
  | 2, _ => exact tw_125
  | 3, _ => exact tw_127
  | 4, _ => exact tw_129
  | k + 5, h => exact absurd h (by omega)
theorem ly_X5 : ∀ w ∈ u_ws RX5 TX5 2, gd_T w := by
  intro w hw
  obtain ⟨k, hk, rfl⟩ := List.mem_map.mp hw
  have hk := List.mem_range.mp hk
  match k, hk with
  | 0, _ => exact tw_140
  | 1, _ => exact tw_142
  | k + 2, h => exact absurd h (by omega)
theorem ly_X6 : ∀ w ∈ u_ws RX6 TX6 1, gd_T w := by
  intro w hw
  obtain ⟨k, hk, rfl⟩ := List.mem_map.mp hw
  have hk := List.mem_range.mp hk
  match k, hk with
  | 0, _ => exact tw_248
  | k + 1, h => exact absurd h (by omega)
theorem ly_X7 : ∀ w ∈ u_ws RX7 TX7 8, gd_T w := by
  intro w hw
  obtain ⟨k, hk, rfl⟩ := List.mem_map.mp hw
  have hk := List.mem_range.mp hk
  match k, hk with
  | 0, _ => exact tw_286
  | 1, _ => exact tw_288
  | 2, _ => exact tw_290
  | 3, _ => exact tw_292
  | 4, _ => exact tw_294
  | 5, _ => exact tw_296
  | 6, _ => exact tw_298
  | 7, _ => exact tw_300
  | k + 8, h => exact absurd h (by omega)
theorem ly_X8 : ∀ w ∈ u_ws RX8 TX8 15, gd_T w := by
  intro w hw
  obtain ⟨k, hk, rfl⟩ := List.mem_map.mp hw
  have hk := List.mem_range.mp hk
  match k, hk with
  | 0, _ => exact tw_695
  | 1, _ => exact tw_697
  | 2, _ => exact tw_699
  | 3, _ => exact tw_701
  | 4, _ => exact tw_703
  | 5, _ => exact tw_705
  | 6, _ => exact tw_707
  | 7, _ => exact tw_709
  | 8, _ => exact tw_711
  | 9, _ => exact tw_713
  | 10, _ => exact tw_715
  | 11, _ => exact tw_717
  | 12, _ => exact tw_719
  | 13, _ => exact tw_721
  | 14, _ => exact tw_723
  | k + 15, h => exact absurd h (by omega)
theorem cl_ok : ∀ (ci : Nat) (C : String) (T : u_T) (N : Nat), vwCl[ci]? = some (C, T, N) → (∀ w ∈ u_ws C T N, gd_T w) ∧ (∀ a, a < N → ∀ b, b < N → a ≠ b → (T a).2.1 ≠ (T b).2.1) ∧ ∃ ty : Nat → FieldType, ∀ k, k < N → parseFieldDescriptor (T k).2.2.1 = some (ty k) := by
  intro ci C T N h
  match ci, h with
  | 0, h => cases h; exact ⟨ly_X0, nmX0, tyX0, tyX0_ok⟩
  | 1, h => cases h; exact ⟨ly_X1, nmX1, tyX1, tyX1_ok⟩
  | 2, h => cases h; exact ⟨ly_X2, nmX2, tyX2, tyX2_ok⟩
  | 3, h => cases h; exact ⟨ly_X3, nmX3, tyX3, tyX3_ok⟩
  | 4, h => cases h; exact ⟨ly_X4, nmX4, tyX4, tyX4_ok⟩
  | 5, h => cases h; exact ⟨ly_X5, nmX5, tyX5, tyX5_ok⟩
  | 6, h => cases h; exact ⟨ly_X6, nmX6, tyX6, tyX6_ok⟩
  | 7, h => cases h; exact ⟨ly_X7, nmX7, tyX7, tyX7_ok⟩
  | 8, h => cases h; exact ⟨ly_X8, nmX8, tyX8, tyX8_ok⟩
  | k + 9, h => simp [vwCl] at h
end
