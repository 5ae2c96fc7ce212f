section
-- ===== PART A: goes FIRST, ahead of the names: the tables' words, and 'selects' of the private methods out of them =====
/-- a private method of a class that the tables say can be made, by its rows of tables_1 -/
def lw_okq (q : MethodName × Nat) : Prop := (q.1.cls ≠ "java/lang/invoke/MethodHandle" ∧ q.1.cls ≠ "java/lang/invoke/VarHandle") ∧ Cond.instantiable q.1.cls q.2 ∈ tables_1 ∧ Cond.privateMethod q.1 ∈ tables_1 ∧ Cond.instanceMethod q.1 ∈ tables_1
theorem lw_p0 : lw_okq (⟨"IntervalRouting", "isPair", "(II)Z"⟩, 8) := ⟨⟨by decide +kernel, by decide +kernel⟩, List.mem_of_getElem? (i := 16) (by decide +kernel), List.mem_of_getElem? (i := 277) (by decide +kernel), List.mem_of_getElem? (i := 278) (by decide +kernel)⟩
theorem lw_p1 : lw_okq (⟨"IntervalRouting", "isNode", "(I)Z"⟩, 8) := ⟨⟨by decide +kernel, by decide +kernel⟩, List.mem_of_getElem? (i := 16) (by decide +kernel), List.mem_of_getElem? (i := 281) (by decide +kernel), List.mem_of_getElem? (i := 282) (by decide +kernel)⟩
theorem lw_p2 : lw_okq (⟨"IntervalRouting", "makeTick", "(LIntervalRouting$State;)I"⟩, 8) := ⟨⟨by decide +kernel, by decide +kernel⟩, List.mem_of_getElem? (i := 16) (by decide +kernel), List.mem_of_getElem? (i := 350) (by decide +kernel), List.mem_of_getElem? (i := 351) (by decide +kernel)⟩
theorem lw_p3 : lw_okq (⟨"IntervalRouting", "chooseSpeakers", "(LIntervalRouting$State;)V"⟩, 8) := ⟨⟨by decide +kernel, by decide +kernel⟩, List.mem_of_getElem? (i := 16) (by decide +kernel), List.mem_of_getElem? (i := 412) (by decide +kernel), List.mem_of_getElem? (i := 413) (by decide +kernel)⟩
theorem lw_p4 : lw_okq (⟨"IntervalRouting", "isDue", "(LIntervalRouting$State;I)Z"⟩, 8) := ⟨⟨by decide +kernel, by decide +kernel⟩, List.mem_of_getElem? (i := 16) (by decide +kernel), List.mem_of_getElem? (i := 416) (by decide +kernel), List.mem_of_getElem? (i := 417) (by decide +kernel)⟩
theorem lw_p5 : lw_okq (⟨"IntervalRouting", "speak", "(LIntervalRouting$State;I)V"⟩, 8) := ⟨⟨by decide +kernel, by decide +kernel⟩, List.mem_of_getElem? (i := 16) (by decide +kernel), List.mem_of_getElem? (i := 429) (by decide +kernel), List.mem_of_getElem? (i := 430) (by decide +kernel)⟩
theorem lw_p6 : lw_okq (⟨"IntervalRouting", "announce", "(LIntervalRouting$State;III)V"⟩, 8) := ⟨⟨by decide +kernel, by decide +kernel⟩, List.mem_of_getElem? (i := 16) (by decide +kernel), List.mem_of_getElem? (i := 434) (by decide +kernel), List.mem_of_getElem? (i := 435) (by decide +kernel)⟩
theorem lw_p7 : lw_okq (⟨"IntervalRouting", "noteChanges", "(LIntervalRouting$State;)I"⟩, 8) := ⟨⟨by decide +kernel, by decide +kernel⟩, List.mem_of_getElem? (i := 16) (by decide +kernel), List.mem_of_getElem? (i := 452) (by decide +kernel), List.mem_of_getElem? (i := 453) (by decide +kernel)⟩
theorem lw_p8 : lw_okq (⟨"IntervalRouting", "counts", "(IIII)Z"⟩, 8) := ⟨⟨by decide +kernel, by decide +kernel⟩, List.mem_of_getElem? (i := 16) (by decide +kernel), List.mem_of_getElem? (i := 508) (by decide +kernel), List.mem_of_getElem? (i := 509) (by decide +kernel)⟩
theorem lw_p9 : lw_okq (⟨"IntervalRouting", "isWrong", "(I)Z"⟩, 8) := ⟨⟨by decide +kernel, by decide +kernel⟩, List.mem_of_getElem? (i := 16) (by decide +kernel), List.mem_of_getElem? (i := 562) (by decide +kernel), List.mem_of_getElem? (i := 563) (by decide +kernel)⟩
theorem lw_p10 : lw_okq (⟨"IntervalRoutingModel", "begins", "()V"⟩, 15) := ⟨⟨by decide +kernel, by decide +kernel⟩, List.mem_of_getElem? (i := 635) (by decide +kernel), List.mem_of_getElem? (i := 641) (by decide +kernel), List.mem_of_getElem? (i := 642) (by decide +kernel)⟩
theorem lw_p11 : lw_okq (⟨"IntervalRoutingModel", "arePair", "(II)Z"⟩, 15) := ⟨⟨by decide +kernel, by decide +kernel⟩, List.mem_of_getElem? (i := 635) (by decide +kernel), List.mem_of_getElem? (i := 702) (by decide +kernel), List.mem_of_getElem? (i := 703) (by decide +kernel)⟩
theorem lw_p12 : lw_okq (⟨"IntervalRoutingModel", "isNode", "(I)Z"⟩, 15) := ⟨⟨by decide +kernel, by decide +kernel⟩, List.mem_of_getElem? (i := 635) (by decide +kernel), List.mem_of_getElem? (i := 706) (by decide +kernel), List.mem_of_getElem? (i := 707) (by decide +kernel)⟩
theorem lw_p13 : lw_okq (⟨"IntervalRoutingModel", "isLink", "(II)Z"⟩, 15) := ⟨⟨by decide +kernel, by decide +kernel⟩, List.mem_of_getElem? (i := 635) (by decide +kernel), List.mem_of_getElem? (i := 710) (by decide +kernel), List.mem_of_getElem? (i := 711) (by decide +kernel)⟩
theorem lw_p14 : lw_okq (⟨"IntervalRoutingModel", "sets", "(IIII)V"⟩, 15) := ⟨⟨by decide +kernel, by decide +kernel⟩, List.mem_of_getElem? (i := 635) (by decide +kernel), List.mem_of_getElem? (i := 717) (by decide +kernel), List.mem_of_getElem? (i := 718) (by decide +kernel)⟩
theorem lw_p15 : lw_okq (⟨"IntervalRoutingModel", "tick", "()V"⟩, 15) := ⟨⟨by decide +kernel, by decide +kernel⟩, List.mem_of_getElem? (i := 635) (by decide +kernel), List.mem_of_getElem? (i := 746) (by decide +kernel), List.mem_of_getElem? (i := 747) (by decide +kernel)⟩
def lw_privs_1 : List (MethodName × Nat) := [(⟨"IntervalRouting", "isPair", "(II)Z"⟩, 8), (⟨"IntervalRouting", "isNode", "(I)Z"⟩, 8), (⟨"IntervalRouting", "makeTick", "(LIntervalRouting$State;)I"⟩, 8), (⟨"IntervalRouting", "chooseSpeakers", "(LIntervalRouting$State;)V"⟩, 8), (⟨"IntervalRouting", "isDue", "(LIntervalRouting$State;I)Z"⟩, 8), (⟨"IntervalRouting", "speak", "(LIntervalRouting$State;I)V"⟩, 8), (⟨"IntervalRouting", "announce", "(LIntervalRouting$State;III)V"⟩, 8), (⟨"IntervalRouting", "noteChanges", "(LIntervalRouting$State;)I"⟩, 8), (⟨"IntervalRouting", "counts", "(IIII)Z"⟩, 8), (⟨"IntervalRouting", "isWrong", "(I)Z"⟩, 8), (⟨"IntervalRoutingModel", "begins", "()V"⟩, 15), (⟨"IntervalRoutingModel", "arePair", "(II)Z"⟩, 15), (⟨"IntervalRoutingModel", "isNode", "(I)Z"⟩, 15), (⟨"IntervalRoutingModel", "isLink", "(II)Z"⟩, 15), (⟨"IntervalRoutingModel", "sets", "(IIII)V"⟩, 15), (⟨"IntervalRoutingModel", "tick", "()V"⟩, 15)]
theorem lw_r1 : ∀ q ∈ lw_privs_1, lw_okq q := List.forall_mem_cons.mpr ⟨lw_p0, List.forall_mem_cons.mpr ⟨lw_p1, List.forall_mem_cons.mpr ⟨lw_p2, List.forall_mem_cons.mpr ⟨lw_p3, List.forall_mem_cons.mpr ⟨lw_p4, List.forall_mem_cons.mpr ⟨lw_p5, List.forall_mem_cons.mpr ⟨lw_p6, List.forall_mem_cons.mpr ⟨lw_p7, List.forall_mem_cons.mpr ⟨lw_p8, List.forall_mem_cons.mpr ⟨lw_p9, List.forall_mem_cons.mpr ⟨lw_p10, List.forall_mem_cons.mpr ⟨lw_p11, List.forall_mem_cons.mpr ⟨lw_p12, List.forall_mem_cons.mpr ⟨lw_p13, List.forall_mem_cons.mpr ⟨lw_p14, List.forall_mem_cons.mpr ⟨lw_p15, fun _ h => absurd h List.not_mem_nil⟩⟩⟩⟩⟩⟩⟩⟩⟩⟩⟩⟩⟩⟩⟩⟩
theorem lw_p16 : lw_okq (⟨"IntervalRoutingModel", "looks", "()V"⟩, 15) := ⟨⟨by decide +kernel, by decide +kernel⟩, List.mem_of_getElem? (i := 635) (by decide +kernel), List.mem_of_getElem? (i := 750) (by decide +kernel), List.mem_of_getElem? (i := 751) (by decide +kernel)⟩
theorem lw_p17 : lw_okq (⟨"IntervalRoutingModel", "boundOf", "(III)I"⟩, 15) := ⟨⟨by decide +kernel, by decide +kernel⟩, List.mem_of_getElem? (i := 635) (by decide +kernel), List.mem_of_getElem? (i := 754) (by decide +kernel), List.mem_of_getElem? (i := 755) (by decide +kernel)⟩
theorem lw_p18 : lw_okq (⟨"IntervalRoutingModel", "least", "(IIII)I"⟩, 15) := ⟨⟨by decide +kernel, by decide +kernel⟩, List.mem_of_getElem? (i := 635) (by decide +kernel), List.mem_of_getElem? (i := 758) (by decide +kernel), List.mem_of_getElem? (i := 759) (by decide +kernel)⟩
theorem lw_p19 : lw_okq (⟨"IntervalRoutingModel", "isUsable", "(III)Z"⟩, 15) := ⟨⟨by decide +kernel, by decide +kernel⟩, List.mem_of_getElem? (i := 635) (by decide +kernel), List.mem_of_getElem? (i := 762) (by decide +kernel), List.mem_of_getElem? (i := 763) (by decide +kernel)⟩
theorem lw_p20 : lw_okq (⟨"IntervalRoutingModel", "isEntry", "(III)Z"⟩, 15) := ⟨⟨by decide +kernel, by decide +kernel⟩, List.mem_of_getElem? (i := 635) (by decide +kernel), List.mem_of_getElem? (i := 766) (by decide +kernel), List.mem_of_getElem? (i := 767) (by decide +kernel)⟩
theorem lw_p21 : lw_okq (⟨"IntervalRoutingModel", "of", "(IIII)I"⟩, 15) := ⟨⟨by decide +kernel, by decide +kernel⟩, List.mem_of_getElem? (i := 635) (by decide +kernel), List.mem_of_getElem? (i := 770) (by decide +kernel), List.mem_of_getElem? (i := 771) (by decide +kernel)⟩
theorem lw_p22 : lw_okq (⟨"IntervalRoutingModel", "areNear", "(II)Z"⟩, 15) := ⟨⟨by decide +kernel, by decide +kernel⟩, List.mem_of_getElem? (i := 635) (by decide +kernel), List.mem_of_getElem? (i := 777) (by decide +kernel), List.mem_of_getElem? (i := 778) (by decide +kernel)⟩
theorem lw_p23 : lw_okq (⟨"IntervalRoutingModel", "choiceOf", "(II)I"⟩, 15) := ⟨⟨by decide +kernel, by decide +kernel⟩, List.mem_of_getElem? (i := 635) (by decide +kernel), List.mem_of_getElem? (i := 781) (by decide +kernel), List.mem_of_getElem? (i := 782) (by decide +kernel)⟩
theorem lw_p24 : lw_okq (⟨"IntervalRoutingModel", "weight", "(IIIZ)I"⟩, 15) := ⟨⟨by decide +kernel, by decide +kernel⟩, List.mem_of_getElem? (i := 635) (by decide +kernel), List.mem_of_getElem? (i := 785) (by decide +kernel), List.mem_of_getElem? (i := 786) (by decide +kernel)⟩
theorem lw_p25 : lw_okq (⟨"IntervalRoutingModel", "isNew", "(I)Z"⟩, 15) := ⟨⟨by decide +kernel, by decide +kernel⟩, List.mem_of_getElem? (i := 635) (by decide +kernel), List.mem_of_getElem? (i := 789) (by decide +kernel), List.mem_of_getElem? (i := 790) (by decide +kernel)⟩
theorem lw_p26 : lw_okq (⟨"IntervalRoutingModel", "sendsAll", "(I)V"⟩, 15) := ⟨⟨by decide +kernel, by decide +kernel⟩, List.mem_of_getElem? (i := 635) (by decide +kernel), List.mem_of_getElem? (i := 796) (by decide +kernel), List.mem_of_getElem? (i := 797) (by decide +kernel)⟩
theorem lw_p27 : lw_okq (⟨"IntervalRoutingModel", "receives", "(IIIZ)V"⟩, 15) := ⟨⟨by decide +kernel, by decide +kernel⟩, List.mem_of_getElem? (i := 635) (by decide +kernel), List.mem_of_getElem? (i := 800) (by decide +kernel), List.mem_of_getElem? (i := 801) (by decide +kernel)⟩
theorem lw_p28 : lw_okq (⟨"IntervalRoutingModel", "keepsSent", "(I)V"⟩, 15) := ⟨⟨by decide +kernel, by decide +kernel⟩, List.mem_of_getElem? (i := 635) (by decide +kernel), List.mem_of_getElem? (i := 807) (by decide +kernel), List.mem_of_getElem? (i := 808) (by decide +kernel)⟩
theorem lw_p29 : lw_okq (⟨"IntervalRoutingModel", "notes", "(III)V"⟩, 15) := ⟨⟨by decide +kernel, by decide +kernel⟩, List.mem_of_getElem? (i := 635) (by decide +kernel), List.mem_of_getElem? (i := 811) (by decide +kernel), List.mem_of_getElem? (i := 812) (by decide +kernel)⟩
theorem lw_p30 : lw_okq (⟨"IntervalRoutingModel", "isDominated", "(III)Z"⟩, 15) := ⟨⟨by decide +kernel, by decide +kernel⟩, List.mem_of_getElem? (i := 635) (by decide +kernel), List.mem_of_getElem? (i := 827) (by decide +kernel), List.mem_of_getElem? (i := 828) (by decide +kernel)⟩
theorem lw_p31 : lw_okq (⟨"IntervalRoutingModel", "measures", "()V"⟩, 15) := ⟨⟨by decide +kernel, by decide +kernel⟩, List.mem_of_getElem? (i := 635) (by decide +kernel), List.mem_of_getElem? (i := 869) (by decide +kernel), List.mem_of_getElem? (i := 870) (by decide +kernel)⟩
def lw_privs_2 : List (MethodName × Nat) := [(⟨"IntervalRoutingModel", "looks", "()V"⟩, 15), (⟨"IntervalRoutingModel", "boundOf", "(III)I"⟩, 15), (⟨"IntervalRoutingModel", "least", "(IIII)I"⟩, 15), (⟨"IntervalRoutingModel", "isUsable", "(III)Z"⟩, 15), (⟨"IntervalRoutingModel", "isEntry", "(III)Z"⟩, 15), (⟨"IntervalRoutingModel", "of", "(IIII)I"⟩, 15), (⟨"IntervalRoutingModel", "areNear", "(II)Z"⟩, 15), (⟨"IntervalRoutingModel", "choiceOf", "(II)I"⟩, 15), (⟨"IntervalRoutingModel", "weight", "(IIIZ)I"⟩, 15), (⟨"IntervalRoutingModel", "isNew", "(I)Z"⟩, 15), (⟨"IntervalRoutingModel", "sendsAll", "(I)V"⟩, 15), (⟨"IntervalRoutingModel", "receives", "(IIIZ)V"⟩, 15), (⟨"IntervalRoutingModel", "keepsSent", "(I)V"⟩, 15), (⟨"IntervalRoutingModel", "notes", "(III)V"⟩, 15), (⟨"IntervalRoutingModel", "isDominated", "(III)Z"⟩, 15), (⟨"IntervalRoutingModel", "measures", "()V"⟩, 15)]
theorem lw_r2 : ∀ q ∈ lw_privs_2, lw_okq q := List.forall_mem_cons.mpr ⟨lw_p16, List.forall_mem_cons.mpr ⟨lw_p17, List.forall_mem_cons.mpr ⟨lw_p18, List.forall_mem_cons.mpr ⟨lw_p19, List.forall_mem_cons.mpr ⟨lw_p20, List.forall_mem_cons.mpr ⟨lw_p21, List.forall_mem_cons.mpr ⟨lw_p22, List.forall_mem_cons.mpr ⟨lw_p23, List.forall_mem_cons.mpr ⟨lw_p24, List.forall_mem_cons.mpr ⟨lw_p25, List.forall_mem_cons.mpr ⟨lw_p26, List.forall_mem_cons.mpr ⟨lw_p27, List.forall_mem_cons.mpr ⟨lw_p28, List.forall_mem_cons.mpr ⟨lw_p29, List.forall_mem_cons.mpr ⟨lw_p30, List.forall_mem_cons.mpr ⟨lw_p31, fun _ h => absurd h List.not_mem_nil⟩⟩⟩⟩⟩⟩⟩⟩⟩⟩⟩⟩⟩⟩⟩⟩
theorem lw_p32 : lw_okq (⟨"IntervalRoutingModel", "follows", "(II)I"⟩, 15) := ⟨⟨by decide +kernel, by decide +kernel⟩, List.mem_of_getElem? (i := 635) (by decide +kernel), List.mem_of_getElem? (i := 881) (by decide +kernel), List.mem_of_getElem? (i := 882) (by decide +kernel)⟩
theorem lw_p33 : lw_okq (⟨"IntervalRoutingModel", "putsAside", "()V"⟩, 15) := ⟨⟨by decide +kernel, by decide +kernel⟩, List.mem_of_getElem? (i := 635) (by decide +kernel), List.mem_of_getElem? (i := 893) (by decide +kernel), List.mem_of_getElem? (i := 894) (by decide +kernel)⟩
theorem lw_p34 : lw_okq (⟨"IntervalRoutingModel", "putsBack", "()V"⟩, 15) := ⟨⟨by decide +kernel, by decide +kernel⟩, List.mem_of_getElem? (i := 635) (by decide +kernel), List.mem_of_getElem? (i := 897) (by decide +kernel), List.mem_of_getElem? (i := 898) (by decide +kernel)⟩
theorem lw_p35 : lw_okq (⟨"IntervalRoutingModel", "pairs", "()I"⟩, 15) := ⟨⟨by decide +kernel, by decide +kernel⟩, List.mem_of_getElem? (i := 635) (by decide +kernel), List.mem_of_getElem? (i := 905) (by decide +kernel), List.mem_of_getElem? (i := 906) (by decide +kernel)⟩
def lw_privs_3 : List (MethodName × Nat) := [(⟨"IntervalRoutingModel", "follows", "(II)I"⟩, 15), (⟨"IntervalRoutingModel", "putsAside", "()V"⟩, 15), (⟨"IntervalRoutingModel", "putsBack", "()V"⟩, 15), (⟨"IntervalRoutingModel", "pairs", "()I"⟩, 15)]
theorem lw_r3 : ∀ q ∈ lw_privs_3, lw_okq q := List.forall_mem_cons.mpr ⟨lw_p32, List.forall_mem_cons.mpr ⟨lw_p33, List.forall_mem_cons.mpr ⟨lw_p34, List.forall_mem_cons.mpr ⟨lw_p35, fun _ h => absurd h List.not_mem_nil⟩⟩⟩⟩
def lw_privs : List (MethodName × Nat) := lw_privs_1 ++ (lw_privs_2 ++ (lw_privs_3))
def lw_tbl : List Cond := k2_sels lw_privs ++ tables_1
theorem lw_privs_ok : ∀ q ∈ lw_privs, lw_okq q := by
  show ∀ q ∈ lw_privs_1 ++ (lw_privs_2 ++ (lw_privs_3)), lw_okq q
  exact List.forall_mem_append.mpr ⟨lw_r1, List.forall_mem_append.mpr ⟨lw_r2, lw_r3⟩⟩
/-- the streams that the claim lets the run draw from -/
abbrev lw_cs : List Choice := [Jvm.Choice.named "NaN.bits"]
theorem lw_bits : nanBits ∈ lw_cs := by first | decide | exact List.mem_cons_self | simp [lw_cs, nanBits]
end
section
/-! names: printed by wip/whole/names.py out of the claim's NAMES.whole.lean.txt: class tables, methods, decode rows, the tables' words by their places -/
abbrev mi_T : Type := MethodName × ByteArray × Nat × Option FieldType × Nat × Nat
def dc_at (y : mi_T) (pc : Nat) (i : Instr) (n : Nat) : Prop := decode y.2.1 pc = .ok (i, n)
def gd_T (w : Cond) : Prop := w ∈ lw_tbl ∧ goodWord w = true
def RX0 : String := "IntervalRouting$Journal"
def TX0 : u_T := fun k => match k with
  | 0 => ("IntervalRouting$Journal", "rows", "[I", true)
  | _ => ("IntervalRouting$Journal", "added", "I", false)
def tyX0 : Nat → FieldType := fun k => match k with
  | 0 => .array .int
  | _ => .int
theorem nmX0 : ∀ a, a < 2 → ∀ b, b < 2 → a ≠ b → (TX0 a).2.1 ≠ (TX0 b).2.1 := by decide +kernel
theorem tyX0_ok : ∀ k, k < 2 → parseFieldDescriptor (TX0 k).2.2.1 = some (tyX0 k) := by decide +kernel
abbrev cX0_init : ByteArray := prog_2_method_1_code
def yX0_init : MethodName := ⟨RX0, "<init>", "()V"⟩
abbrev cX0_size : ByteArray := prog_2_method_2_code
def yX0_size : MethodName := ⟨RX0, "size", "()I"⟩
abbrev cX0_add : ByteArray := prog_2_method_3_code
def yX0_add : MethodName := ⟨RX0, "add", "(IIII)V"⟩
abbrev cX0_value : ByteArray := prog_2_method_4_code
def yX0_value : MethodName := ⟨RX0, "value", "(II)I"⟩
abbrev cX0_clear : ByteArray := prog_2_method_5_code
def yX0_clear : MethodName := ⟨RX0, "clear", "()V"⟩
abbrev cX0_copyFrom : ByteArray := prog_2_method_6_code
def yX0_copyFrom : MethodName := ⟨RX0, "copyFrom", "(LIntervalRouting$Journal;)V"⟩
def RX1 : String := "IntervalRouting$Links"
def TX1 : u_T := fun k => match k with
  | 0 => ("IntervalRouting$Links", "count", "I", false)
  | 1 => ("IntervalRouting$Links", "lower", "[I", true)
  | 2 => ("IntervalRouting$Links", "upper", "[I", true)
  | 3 => ("IntervalRouting$Links", "cost", "[I", true)
  | _ => ("IntervalRouting$Links", "up", "[I", true)
def tyX1 : Nat → FieldType := fun k => match k with
  | 0 => .int
  | 1 => .array .int
  | 2 => .array .int
  | 3 => .array .int
  | _ => .array .int
theorem nmX1 : ∀ a, a < 5 → ∀ b, b < 5 → a ≠ b → (TX1 a).2.1 ≠ (TX1 b).2.1 := by decide +kernel
theorem tyX1_ok : ∀ k, k < 5 → parseFieldDescriptor (TX1 k).2.2.1 = some (tyX1 k) := by decide +kernel
abbrev cX1_init : ByteArray := prog_3_method_1_code
def yX1_init : MethodName := ⟨RX1, "<init>", "()V"⟩
abbrev cX1_joins : ByteArray := prog_3_method_2_code
def yX1_joins : MethodName := ⟨RX1, "joins", "(II)Z"⟩
abbrev cX1_isUp : ByteArray := prog_3_method_3_code
def yX1_isUp : MethodName := ⟨RX1, "isUp", "(II)Z"⟩
abbrev cX1_insert : ByteArray := prog_3_method_4_code
def yX1_insert : MethodName := ⟨RX1, "insert", "(IIII)V"⟩
abbrev cX1_delete : ByteArray := prog_3_method_5_code
def yX1_delete : MethodName := ⟨RX1, "delete", "(II)V"⟩
abbrev cX1_putBounds : ByteArray := prog_3_method_6_code
def yX1_putBounds : MethodName := ⟨RX1, "putBounds", "(IIII)V"⟩
abbrev cX1_putCost : ByteArray := prog_3_method_7_code
def yX1_putCost : MethodName := ⟨RX1, "putCost", "(III)V"⟩
abbrev cX1_putUp : ByteArray := prog_3_method_8_code
def yX1_putUp : MethodName := ⟨RX1, "putUp", "(III)V"⟩
abbrev cX1_clear : ByteArray := prog_3_method_9_code
def yX1_clear : MethodName := ⟨RX1, "clear", "()V"⟩
abbrev cX1_copyFrom : ByteArray := prog_3_method_10_code
def yX1_copyFrom : MethodName := ⟨RX1, "copyFrom", "(LIntervalRouting$Links;)V"⟩
def RX2 : String := "IntervalRouting$State"
def TX2 : u_T := fun k => match k with
  | 0 => ("IntervalRouting$State", "nodes", "I", false)
  | 1 => ("IntervalRouting$State", "tick", "I", false)
  | 2 => ("IntervalRouting$State", "sent", "I", false)
  | 3 => ("IntervalRouting$State", "links", "LIntervalRouting$Links;", true)
  | 4 => ("IntervalRouting$State", "tables", "LIntervalRouting$Tables;", true)
  | 5 => ("IntervalRouting$State", "vectors", "LIntervalRouting$Vectors;", true)
  | 6 => ("IntervalRouting$State", "journal", "LIntervalRouting$Journal;", true)
  | _ => ("IntervalRouting$State", "lastChosen", "[I", true)
def tyX2 : Nat → FieldType := fun k => match k with
  | 0 => .int
  | 1 => .int
  | 2 => .int
  | 3 => .object "IntervalRouting$Links"
  | 4 => .object "IntervalRouting$Tables"
  | 5 => .object "IntervalRouting$Vectors"
  | 6 => .object "IntervalRouting$Journal"
  | _ => .array .int
theorem nmX2 : ∀ a, a < 8 → ∀ b, b < 8 → a ≠ b → (TX2 a).2.1 ≠ (TX2 b).2.1 := by decide +kernel
theorem tyX2_ok : ∀ k, k < 8 → parseFieldDescriptor (TX2 k).2.2.1 = some (tyX2 k) := by decide +kernel
abbrev cX2_init : ByteArray := prog_4_method_1_code
def yX2_init : MethodName := ⟨RX2, "<init>", "()V"⟩
abbrev cX2_startAnew : ByteArray := prog_4_method_2_code
def yX2_startAnew : MethodName := ⟨RX2, "startAnew", "(I)V"⟩
abbrev cX2_copyFrom : ByteArray := prog_4_method_3_code
def yX2_copyFrom : MethodName := ⟨RX2, "copyFrom", "(LIntervalRouting$State;)V"⟩
abbrev cX2_isUsable : ByteArray := prog_4_method_4_code
def yX2_isUsable : MethodName := ⟨RX2, "isUsable", "(IIII)Z"⟩
abbrev cX2_isDominated : ByteArray := prog_4_method_5_code
def yX2_isDominated : MethodName := ⟨RX2, "isDominated", "(IIII)Z"⟩
def RX3 : String := "IntervalRouting$Survey"
def TX3 : u_T := fun k => match k with
  | 0 => ("IntervalRouting$Survey", "lower", "[I", true)
  | 1 => ("IntervalRouting$Survey", "upper", "[I", true)
  | 2 => ("IntervalRouting$Survey", "chosen", "[I", true)
  | 3 => ("IntervalRouting$Survey", "neighbours", "[I", true)
  | 4 => ("IntervalRouting$Survey", "near", "I", false)
  | 5 => ("IntervalRouting$Survey", "senders", "[I", true)
  | 6 => ("IntervalRouting$Survey", "lowers", "[I", true)
  | 7 => ("IntervalRouting$Survey", "uppers", "[I", true)
  | 8 => ("IntervalRouting$Survey", "ranks", "[I", true)
  | 9 => ("IntervalRouting$Survey", "secondRanks", "[I", true)
  | _ => ("IntervalRouting$Survey", "usable", "I", false)
def tyX3 : Nat → FieldType := fun k => match k with
  | 0 => .array .int
  | 1 => .array .int
  | 2 => .array .int
  | 3 => .array .int
  | 4 => .int
  | 5 => .array .int
  | 6 => .array .int
  | 7 => .array .int
  | 8 => .array .int
  | 9 => .array .int
  | _ => .int
theorem nmX3 : ∀ a, a < 11 → ∀ b, b < 11 → a ≠ b → (TX3 a).2.1 ≠ (TX3 b).2.1 := by decide +kernel
theorem tyX3_ok : ∀ k, k < 11 → parseFieldDescriptor (TX3 k).2.2.1 = some (tyX3 k) := by decide +kernel
abbrev cX3_init : ByteArray := prog_5_method_1_code
def yX3_init : MethodName := ⟨RX3, "<init>", "()V"⟩
abbrev cX3_reaches : ByteArray := prog_5_method_2_code
def yX3_reaches : MethodName := ⟨RX3, "reaches", "(I)Z"⟩
abbrev cX3_take : ByteArray := prog_5_method_3_code
def yX3_take : MethodName := ⟨RX3, "take", "(LIntervalRouting$State;[I)V"⟩
abbrev cX3_takeOne : ByteArray := prog_5_method_4_code
def yX3_takeOne : MethodName := ⟨RX3, "takeOne", "(LIntervalRouting$State;[III)V"⟩
abbrev cX3_findNeighbours : ByteArray := prog_5_method_5_code
def yX3_findNeighbours : MethodName := ⟨RX3, "findNeighbours", "(LIntervalRouting$State;I)V"⟩
abbrev cX3_look : ByteArray := prog_5_method_6_code
def yX3_look : MethodName := ⟨RX3, "look", "(LIntervalRouting$State;[III)V"⟩
abbrev cX3_gather : ByteArray := prog_5_method_7_code
def yX3_gather : MethodName := ⟨RX3, "gather", "(LIntervalRouting$State;III)V"⟩
abbrev cX3_putDistance : ByteArray := prog_5_method_8_code
def yX3_putDistance : MethodName := ⟨RX3, "putDistance", "(IZ)V"⟩
abbrev cX3_rankAll : ByteArray := prog_5_method_9_code
def yX3_rankAll : MethodName := ⟨RX3, "rankAll", "(I)V"⟩
abbrev cX3_choose : ByteArray := prog_5_method_10_code
def yX3_choose : MethodName := ⟨RX3, "choose", "()I"⟩
abbrev cX3_isBetter : ByteArray := prog_5_method_11_code
def yX3_isBetter : MethodName := ⟨RX3, "isBetter", "(II)Z"⟩
abbrev cX3_regret : ByteArray := prog_5_method_12_code
def yX3_regret : MethodName := ⟨RX3, "regret", "(I)I"⟩
abbrev cX3_walk : ByteArray := prog_5_method_13_code
def yX3_walk : MethodName := ⟨RX3, "walk", "(II)I"⟩
abbrev cX3_countLoops : ByteArray := prog_5_method_14_code
def yX3_countLoops : MethodName := ⟨RX3, "countLoops", "(I)I"⟩
def RX4 : String := "IntervalRouting$Tables"
def TX4 : u_T := fun k => match k with
  | 0 => ("IntervalRouting$Tables", "lower", "[I", true)
  | 1 => ("IntervalRouting$Tables", "upper", "[I", true)
  | 2 => ("IntervalRouting$Tables", "expiry", "[I", true)
  | 3 => ("IntervalRouting$Tables", "growth", "[I", true)
  | _ => ("IntervalRouting$Tables", "heldUpTo", "[I", true)
def tyX4 : Nat → FieldType := fun k => match k with
  | 0 => .array .int
  | 1 => .array .int
  | 2 => .array .int
  | 3 => .array .int
  | _ => .array .int
theorem nmX4 : ∀ a, a < 5 → ∀ b, b < 5 → a ≠ b → (TX4 a).2.1 ≠ (TX4 b).2.1 := by decide +kernel
theorem tyX4_ok : ∀ k, k < 5 → parseFieldDescriptor (TX4 k).2.2.1 = some (tyX4 k) := by decide +kernel
abbrev cX4_init : ByteArray := prog_6_method_1_code
def yX4_init : MethodName := ⟨RX4, "<init>", "()V"⟩
abbrev cX4_has : ByteArray := prog_6_method_2_code
def yX4_has : MethodName := ⟨RX4, "has", "(I)Z"⟩
abbrev cX4_isOpen : ByteArray := prog_6_method_3_code
def yX4_isOpen : MethodName := ⟨RX4, "isOpen", "(III)Z"⟩
abbrev cX4_dominates : ByteArray := prog_6_method_4_code
def yX4_dominates : MethodName := ⟨RX4, "dominates", "(II)Z"⟩
abbrev cX4_receive : ByteArray := prog_6_method_5_code
def yX4_receive : MethodName := ⟨RX4, "receive", "(IIII[I)V"⟩
abbrev cX4_countGrowth : ByteArray := prog_6_method_6_code
def yX4_countGrowth : MethodName := ⟨RX4, "countGrowth", "(II)V"⟩
abbrev cX4_clear : ByteArray := prog_6_method_7_code
def yX4_clear : MethodName := ⟨RX4, "clear", "()V"⟩
abbrev cX4_copyFrom : ByteArray := prog_6_method_8_code
def yX4_copyFrom : MethodName := ⟨RX4, "copyFrom", "(LIntervalRouting$Tables;)V"⟩
def RX5 : String := "IntervalRouting$Vectors"
def TX5 : u_T := fun k => match k with
  | 0 => ("IntervalRouting$Vectors", "lower", "[I", true)
  | _ => ("IntervalRouting$Vectors", "upper", "[I", true)
def tyX5 : Nat → FieldType := fun k => match k with
  | 0 => .array .int
  | _ => .array .int
theorem nmX5 : ∀ a, a < 2 → ∀ b, b < 2 → a ≠ b → (TX5 a).2.1 ≠ (TX5 b).2.1 := by decide +kernel
theorem tyX5_ok : ∀ k, k < 2 → parseFieldDescriptor (TX5 k).2.2.1 = some (tyX5 k) := by decide +kernel
abbrev cX5_init : ByteArray := prog_7_method_1_code
def yX5_init : MethodName := ⟨RX5, "<init>", "()V"⟩
abbrev cX5_differs : ByteArray := prog_7_method_2_code
def yX5_differs : MethodName := ⟨RX5, "differs", "(IILIntervalRouting$Survey;)Z"⟩
abbrev cX5_keep : ByteArray := prog_7_method_3_code
def yX5_keep : MethodName := ⟨RX5, "keep", "(IILIntervalRouting$Survey;)V"⟩
abbrev cX5_clear : ByteArray := prog_7_method_4_code
def yX5_clear : MethodName := ⟨RX5, "clear", "()V"⟩
abbrev cX5_copyFrom : ByteArray := prog_7_method_5_code
def yX5_copyFrom : MethodName := ⟨RX5, "copyFrom", "(LIntervalRouting$Vectors;)V"⟩
def RX6 : String := "IntervalRouting$Ways"
def TX6 : u_T := fun k => match k with
  | _ => ("IntervalRouting$Ways", "length", "[I", true)
def tyX6 : Nat → FieldType := fun k => match k with
  | _ => .array .int
theorem nmX6 : ∀ a, a < 1 → ∀ b, b < 1 → a ≠ b → (TX6 a).2.1 ≠ (TX6 b).2.1 := by decide +kernel
theorem tyX6_ok : ∀ k, k < 1 → parseFieldDescriptor (TX6 k).2.2.1 = some (tyX6 k) := by decide +kernel
abbrev cX6_init : ByteArray := prog_8_method_1_code
def yX6_init : MethodName := ⟨RX6, "<init>", "()V"⟩
abbrev cX6_exists : ByteArray := prog_8_method_2_code
def yX6_exists : MethodName := ⟨RX6, "exists", "(I)Z"⟩
abbrev cX6_measure : ByteArray := prog_8_method_3_code
def yX6_measure : MethodName := ⟨RX6, "measure", "(LIntervalRouting$Links;I)V"⟩
abbrev cX6_shorten : ByteArray := prog_8_method_4_code
def yX6_shorten : MethodName := ⟨RX6, "shorten", "(II)V"⟩
abbrev cX6_countPairs : ByteArray := prog_8_method_5_code
def yX6_countPairs : MethodName := ⟨RX6, "countPairs", "(I)I"⟩
def RX7 : String := "IntervalRouting"
def TX7 : u_T := fun k => match k with
  | 0 => ("IntervalRouting", "settings", "[I", true)
  | 1 => ("IntervalRouting", "live", "LIntervalRouting$State;", true)
  | 2 => ("IntervalRouting", "stored", "LIntervalRouting$State;", true)
  | 3 => ("IntervalRouting", "trial", "LIntervalRouting$State;", true)
  | 4 => ("IntervalRouting", "survey", "LIntervalRouting$Survey;", true)
  | 5 => ("IntervalRouting", "ways", "LIntervalRouting$Ways;", true)
  | 6 => ("IntervalRouting", "speaking", "[Z", true)
  | _ => ("IntervalRouting", "isStored", "Z", false)
def tyX7 : Nat → FieldType := fun k => match k with
  | 0 => .array .int
  | 1 => .object "IntervalRouting$State"
  | 2 => .object "IntervalRouting$State"
  | 3 => .object "IntervalRouting$State"
  | 4 => .object "IntervalRouting$Survey"
  | 5 => .object "IntervalRouting$Ways"
  | 6 => .array .boolean
  | _ => .boolean
theorem nmX7 : ∀ a, a < 8 → ∀ b, b < 8 → a ≠ b → (TX7 a).2.1 ≠ (TX7 b).2.1 := by decide +kernel
theorem tyX7_ok : ∀ k, k < 8 → parseFieldDescriptor (TX7 k).2.2.1 = some (tyX7 k) := by decide +kernel
abbrev cX7_init : ByteArray := prog_1_method_1_code
def yX7_init : MethodName := ⟨RX7, "<init>", "()V"⟩
abbrev cX7_reset : ByteArray := prog_1_method_2_code
def yX7_reset : MethodName := ⟨RX7, "reset", "(I)I"⟩
abbrev cX7_addLink : ByteArray := prog_1_method_3_code
def yX7_addLink : MethodName := ⟨RX7, "addLink", "(IIII)I"⟩
abbrev cX7_removeLink : ByteArray := prog_1_method_4_code
def yX7_removeLink : MethodName := ⟨RX7, "removeLink", "(II)I"⟩
abbrev cX7_setCost : ByteArray := prog_1_method_5_code
def yX7_setCost : MethodName := ⟨RX7, "setCost", "(III)I"⟩
abbrev cX7_setUp : ByteArray := prog_1_method_6_code
def yX7_setUp : MethodName := ⟨RX7, "setUp", "(III)I"⟩
abbrev cX7_link : ByteArray := prog_1_method_7_code
def yX7_link : MethodName := ⟨RX7, "link", "(III)I"⟩
abbrev cX7_set : ByteArray := prog_1_method_8_code
def yX7_set : MethodName := ⟨RX7, "set", "(II)I"⟩
abbrev cX7_run : ByteArray := prog_1_method_9_code
def yX7_run : MethodName := ⟨RX7, "run", "(I)I"⟩
abbrev cX7_time : ByteArray := prog_1_method_10_code
def yX7_time : MethodName := ⟨RX7, "time", "()I"⟩
abbrev cX7_sent : ByteArray := prog_1_method_11_code
def yX7_sent : MethodName := ⟨RX7, "sent", "()I"⟩
abbrev cX7_entry : ByteArray := prog_1_method_12_code
def yX7_entry : MethodName := ⟨RX7, "entry", "(IIII)I"⟩
abbrev cX7_distance : ByteArray := prog_1_method_13_code
def yX7_distance : MethodName := ⟨RX7, "distance", "(III)I"⟩
abbrev cX7_choice : ByteArray := prog_1_method_14_code
def yX7_choice : MethodName := ⟨RX7, "choice", "(II)I"⟩
abbrev cX7_entries : ByteArray := prog_1_method_15_code
def yX7_entries : MethodName := ⟨RX7, "entries", "(III)I"⟩
abbrev cX7_meanWidthBits : ByteArray := prog_1_method_16_code
def yX7_meanWidthBits : MethodName := ⟨RX7, "meanWidthBits", "()I"⟩
abbrev cX7_journalSize : ByteArray := prog_1_method_17_code
def yX7_journalSize : MethodName := ⟨RX7, "journalSize", "()I"⟩
abbrev cX7_journal : ByteArray := prog_1_method_18_code
def yX7_journal : MethodName := ⟨RX7, "journal", "(II)I"⟩
abbrev cX7_trueDistance : ByteArray := prog_1_method_19_code
def yX7_trueDistance : MethodName := ⟨RX7, "trueDistance", "(II)I"⟩
abbrev cX7_wrongPairs : ByteArray := prog_1_method_20_code
def yX7_wrongPairs : MethodName := ⟨RX7, "wrongPairs", "()I"⟩
abbrev cX7_follow : ByteArray := prog_1_method_21_code
def yX7_follow : MethodName := ⟨RX7, "follow", "(II)I"⟩
abbrev cX7_loops : ByteArray := prog_1_method_22_code
def yX7_loops : MethodName := ⟨RX7, "loops", "()I"⟩
abbrev cX7_settling : ByteArray := prog_1_method_23_code
def yX7_settling : MethodName := ⟨RX7, "settling", "()I"⟩
abbrev cX7_loss : ByteArray := prog_1_method_24_code
def yX7_loss : MethodName := ⟨RX7, "loss", "(II)I"⟩
abbrev cX7_recovery : ByteArray := prog_1_method_25_code
def yX7_recovery : MethodName := ⟨RX7, "recovery", "(II)I"⟩
abbrev cX7_store : ByteArray := prog_1_method_26_code
def yX7_store : MethodName := ⟨RX7, "store", "()I"⟩
abbrev cX7_recall : ByteArray := prog_1_method_27_code
def yX7_recall : MethodName := ⟨RX7, "recall", "()I"⟩
abbrev cX7_isNode : ByteArray := prog_1_method_28_code
def yX7_isNode : MethodName := ⟨RX7, "isNode", "(I)Z"⟩
abbrev cX7_isPair : ByteArray := prog_1_method_29_code
def yX7_isPair : MethodName := ⟨RX7, "isPair", "(II)Z"⟩
abbrev cX7_isBetween : ByteArray := prog_1_method_30_code
def yX7_isBetween : MethodName := ⟨RX7, "isBetween", "(III)Z"⟩
abbrev cX7_isSetting : ByteArray := prog_1_method_31_code
def yX7_isSetting : MethodName := ⟨RX7, "isSetting", "(I)Z"⟩
abbrev cX7_asNumber : ByteArray := prog_1_method_32_code
def yX7_asNumber : MethodName := ⟨RX7, "asNumber", "(Z)I"⟩
abbrev cX7_pair : ByteArray := prog_1_method_33_code
def yX7_pair : MethodName := ⟨RX7, "pair", "(II)I"⟩
abbrev cX7_slot : ByteArray := prog_1_method_34_code
def yX7_slot : MethodName := ⟨RX7, "slot", "(III)I"⟩
abbrev cX7_counts : ByteArray := prog_1_method_35_code
def yX7_counts : MethodName := ⟨RX7, "counts", "(IIII)Z"⟩
abbrev cX7_isWrong : ByteArray := prog_1_method_36_code
def yX7_isWrong : MethodName := ⟨RX7, "isWrong", "(I)Z"⟩
abbrev cX7_bitsOf : ByteArray := prog_1_method_37_code
def yX7_bitsOf : MethodName := ⟨RX7, "bitsOf", "(F)I"⟩
abbrev cX7_makeTick : ByteArray := prog_1_method_38_code
def yX7_makeTick : MethodName := ⟨RX7, "makeTick", "(LIntervalRouting$State;)I"⟩
abbrev cX7_chooseSpeakers : ByteArray := prog_1_method_39_code
def yX7_chooseSpeakers : MethodName := ⟨RX7, "chooseSpeakers", "(LIntervalRouting$State;)V"⟩
abbrev cX7_isDue : ByteArray := prog_1_method_40_code
def yX7_isDue : MethodName := ⟨RX7, "isDue", "(LIntervalRouting$State;I)Z"⟩
abbrev cX7_speak : ByteArray := prog_1_method_41_code
def yX7_speak : MethodName := ⟨RX7, "speak", "(LIntervalRouting$State;I)V"⟩
abbrev cX7_announce : ByteArray := prog_1_method_42_code
def yX7_announce : MethodName := ⟨RX7, "announce", "(LIntervalRouting$State;III)V"⟩
abbrev cX7_noteChanges : ByteArray := prog_1_method_43_code
def yX7_noteChanges : MethodName := ⟨RX7, "noteChanges", "(LIntervalRouting$State;)I"⟩
def RX8 : String := "IntervalRoutingModel"
def TX8 : u_T := fun k => match k with
  | 0 => ("IntervalRoutingModel", "n", "I", false)
  | 1 => ("IntervalRoutingModel", "now", "[I", true)
  | 2 => ("IntervalRoutingModel", "aside", "[I", true)
  | 3 => ("IntervalRoutingModel", "stored", "[I", true)
  | 4 => ("IntervalRoutingModel", "isStored", "Z", false)
  | 5 => ("IntervalRoutingModel", "settings", "[I", true)
  | 6 => ("IntervalRoutingModel", "low", "[I", true)
  | 7 => ("IntervalRoutingModel", "high", "[I", true)
  | 8 => ("IntervalRoutingModel", "lowers", "[I", true)
  | 9 => ("IntervalRoutingModel", "uppers", "[I", true)
  | 10 => ("IntervalRoutingModel", "picks", "[I", true)
  | 11 => ("IntervalRoutingModel", "sends", "[Z", true)
  | 12 => ("IntervalRoutingModel", "ways", "[I", true)
  | 13 => ("IntervalRoutingModel", "changed", "[Z", true)
  | _ => ("IntervalRoutingModel", "changes", "I", false)
def tyX8 : Nat → FieldType := fun k => match k with
  | 0 => .int
  | 1 => .array .int
  | 2 => .array .int
  | 3 => .array .int
  | 4 => .boolean
  | 5 => .array .int
  | 6 => .array .int
  | 7 => .array .int
  | 8 => .array .int
  | 9 => .array .int
  | 10 => .array .int
  | 11 => .array .boolean
  | 12 => .array .int
  | 13 => .array .boolean
  | _ => .int
theorem nmX8 : ∀ a, a < 15 → ∀ b, b < 15 → a ≠ b → (TX8 a).2.1 ≠ (TX8 b).2.1 := by decide +kernel
theorem tyX8_ok : ∀ k, k < 15 → parseFieldDescriptor (TX8 k).2.2.1 = some (tyX8 k) := by decide +kernel
abbrev cX8_init : ByteArray := prog_10_method_1_code
def yX8_init : MethodName := ⟨RX8, "<init>", "()V"⟩
abbrev cX8_begins : ByteArray := prog_10_method_2_code
def yX8_begins : MethodName := ⟨RX8, "begins", "()V"⟩
abbrev cX8_in : ByteArray := prog_10_method_3_code
def yX8_in : MethodName := ⟨RX8, "in", "(III)Z"⟩
abbrev cX8_isNode : ByteArray := prog_10_method_4_code
def yX8_isNode : MethodName := ⟨RX8, "isNode", "(I)Z"⟩
abbrev cX8_arePair : ByteArray := prog_10_method_5_code
def yX8_arePair : MethodName := ⟨RX8, "arePair", "(II)Z"⟩
abbrev cX8_linkAt : ByteArray := prog_10_method_6_code
def yX8_linkAt : MethodName := ⟨RX8, "linkAt", "(III)I"⟩
abbrev cX8_entryAt : ByteArray := prog_10_method_7_code
def yX8_entryAt : MethodName := ⟨RX8, "entryAt", "(IIII)I"⟩
abbrev cX8_isLink : ByteArray := prog_10_method_8_code
def yX8_isLink : MethodName := ⟨RX8, "isLink", "(II)Z"⟩
abbrev cX8_areNear : ByteArray := prog_10_method_9_code
def yX8_areNear : MethodName := ⟨RX8, "areNear", "(II)Z"⟩
abbrev cX8_sets : ByteArray := prog_10_method_10_code
def yX8_sets : MethodName := ⟨RX8, "sets", "(IIII)V"⟩
abbrev cX8_reset : ByteArray := prog_10_method_11_code
def yX8_reset : MethodName := ⟨RX8, "reset", "(I)I"⟩
abbrev cX8_addLink : ByteArray := prog_10_method_12_code
def yX8_addLink : MethodName := ⟨RX8, "addLink", "(IIII)I"⟩
abbrev cX8_removeLink : ByteArray := prog_10_method_13_code
def yX8_removeLink : MethodName := ⟨RX8, "removeLink", "(II)I"⟩
abbrev cX8_setCost : ByteArray := prog_10_method_14_code
def yX8_setCost : MethodName := ⟨RX8, "setCost", "(III)I"⟩
abbrev cX8_setUp : ByteArray := prog_10_method_15_code
def yX8_setUp : MethodName := ⟨RX8, "setUp", "(III)I"⟩
abbrev cX8_link : ByteArray := prog_10_method_16_code
def yX8_link : MethodName := ⟨RX8, "link", "(III)I"⟩
abbrev cX8_set : ByteArray := prog_10_method_17_code
def yX8_set : MethodName := ⟨RX8, "set", "(II)I"⟩
abbrev cX8_of : ByteArray := prog_10_method_18_code
def yX8_of : MethodName := ⟨RX8, "of", "(IIII)I"⟩
abbrev cX8_isEntry : ByteArray := prog_10_method_19_code
def yX8_isEntry : MethodName := ⟨RX8, "isEntry", "(III)Z"⟩
abbrev cX8_isUsable : ByteArray := prog_10_method_20_code
def yX8_isUsable : MethodName := ⟨RX8, "isUsable", "(III)Z"⟩
abbrev cX8_least : ByteArray := prog_10_method_21_code
def yX8_least : MethodName := ⟨RX8, "least", "(IIII)I"⟩
abbrev cX8_boundOf : ByteArray := prog_10_method_22_code
def yX8_boundOf : MethodName := ⟨RX8, "boundOf", "(III)I"⟩
abbrev cX8_weight : ByteArray := prog_10_method_23_code
def yX8_weight : MethodName := ⟨RX8, "weight", "(IIIZ)I"⟩
abbrev cX8_choiceOf : ByteArray := prog_10_method_24_code
def yX8_choiceOf : MethodName := ⟨RX8, "choiceOf", "(II)I"⟩
abbrev cX8_isDominated : ByteArray := prog_10_method_25_code
def yX8_isDominated : MethodName := ⟨RX8, "isDominated", "(III)Z"⟩
abbrev cX8_looks : ByteArray := prog_10_method_26_code
def yX8_looks : MethodName := ⟨RX8, "looks", "()V"⟩
abbrev cX8_sentAt : ByteArray := prog_10_method_27_code
def yX8_sentAt : MethodName := ⟨RX8, "sentAt", "(II)I"⟩
abbrev cX8_isNew : ByteArray := prog_10_method_28_code
def yX8_isNew : MethodName := ⟨RX8, "isNew", "(I)Z"⟩
abbrev cX8_keepsSent : ByteArray := prog_10_method_29_code
def yX8_keepsSent : MethodName := ⟨RX8, "keepsSent", "(I)V"⟩
abbrev cX8_limited : ByteArray := prog_10_method_30_code
def yX8_limited : MethodName := ⟨RX8, "limited", "(II)I"⟩
abbrev cX8_receives : ByteArray := prog_10_method_31_code
def yX8_receives : MethodName := ⟨RX8, "receives", "(IIIZ)V"⟩
abbrev cX8_sendsAll : ByteArray := prog_10_method_32_code
def yX8_sendsAll : MethodName := ⟨RX8, "sendsAll", "(I)V"⟩
abbrev cX8_notes : ByteArray := prog_10_method_33_code
def yX8_notes : MethodName := ⟨RX8, "notes", "(III)V"⟩
abbrev cX8_tick : ByteArray := prog_10_method_34_code
def yX8_tick : MethodName := ⟨RX8, "tick", "()V"⟩
abbrev cX8_run : ByteArray := prog_10_method_35_code
def yX8_run : MethodName := ⟨RX8, "run", "(I)I"⟩
abbrev cX8_time : ByteArray := prog_10_method_36_code
def yX8_time : MethodName := ⟨RX8, "time", "()I"⟩
abbrev cX8_sent : ByteArray := prog_10_method_37_code
def yX8_sent : MethodName := ⟨RX8, "sent", "()I"⟩
abbrev cX8_entry : ByteArray := prog_10_method_38_code
def yX8_entry : MethodName := ⟨RX8, "entry", "(IIII)I"⟩
abbrev cX8_distance : ByteArray := prog_10_method_39_code
def yX8_distance : MethodName := ⟨RX8, "distance", "(III)I"⟩
abbrev cX8_choice : ByteArray := prog_10_method_40_code
def yX8_choice : MethodName := ⟨RX8, "choice", "(II)I"⟩
abbrev cX8_entries : ByteArray := prog_10_method_41_code
def yX8_entries : MethodName := ⟨RX8, "entries", "(III)I"⟩
abbrev cX8_meanWidthBits : ByteArray := prog_10_method_42_code
def yX8_meanWidthBits : MethodName := ⟨RX8, "meanWidthBits", "()I"⟩
abbrev cX8_journalSize : ByteArray := prog_10_method_43_code
def yX8_journalSize : MethodName := ⟨RX8, "journalSize", "()I"⟩
abbrev cX8_journal : ByteArray := prog_10_method_44_code
def yX8_journal : MethodName := ⟨RX8, "journal", "(II)I"⟩
abbrev cX8_measures : ByteArray := prog_10_method_45_code
def yX8_measures : MethodName := ⟨RX8, "measures", "()V"⟩
abbrev cX8_trueDistance : ByteArray := prog_10_method_46_code
def yX8_trueDistance : MethodName := ⟨RX8, "trueDistance", "(II)I"⟩
abbrev cX8_wrongPairs : ByteArray := prog_10_method_47_code
def yX8_wrongPairs : MethodName := ⟨RX8, "wrongPairs", "()I"⟩
abbrev cX8_follows : ByteArray := prog_10_method_48_code
def yX8_follows : MethodName := ⟨RX8, "follows", "(II)I"⟩
abbrev cX8_follow : ByteArray := prog_10_method_49_code
def yX8_follow : MethodName := ⟨RX8, "follow", "(II)I"⟩
abbrev cX8_loops : ByteArray := prog_10_method_50_code
def yX8_loops : MethodName := ⟨RX8, "loops", "()I"⟩
abbrev cX8_putsAside : ByteArray := prog_10_method_51_code
def yX8_putsAside : MethodName := ⟨RX8, "putsAside", "()V"⟩
abbrev cX8_putsBack : ByteArray := prog_10_method_52_code
def yX8_putsBack : MethodName := ⟨RX8, "putsBack", "()V"⟩
abbrev cX8_settling : ByteArray := prog_10_method_53_code
def yX8_settling : MethodName := ⟨RX8, "settling", "()I"⟩
abbrev cX8_pairs : ByteArray := prog_10_method_54_code
def yX8_pairs : MethodName := ⟨RX8, "pairs", "()I"⟩
abbrev cX8_loss : ByteArray := prog_10_method_55_code
def yX8_loss : MethodName := ⟨RX8, "loss", "(II)I"⟩
abbrev cX8_recovery : ByteArray := prog_10_method_56_code
def yX8_recovery : MethodName := ⟨RX8, "recovery", "(II)I"⟩
abbrev cX8_store : ByteArray := prog_10_method_57_code
def yX8_store : MethodName := ⟨RX8, "store", "()I"⟩
abbrev cX8_recall : ByteArray := prog_10_method_58_code
def yX8_recall : MethodName := ⟨RX8, "recall", "()I"⟩
def RJxf58ca : String := "java/lang/Float"
abbrev cJxf58ca_isNaN_12338 : ByteArray := prog_12_method_6_code
def yJxf58ca_isNaN_12338 : MethodName := ⟨RJxf58ca, "isNaN", "(F)Z"⟩
abbrev cJxf58ca_floatToIntBits_5c35a : ByteArray := prog_12_method_24_code
def yJxf58ca_floatToIntBits_5c35a : MethodName := ⟨RJxf58ca, "floatToIntBits", "(F)I"⟩
def RJ9 : String := "java/lang/Math"
abbrev cJ9_max_7cf53 : ByteArray := prog_13_method_65_code
def yJ9_max_7cf53 : MethodName := ⟨RJ9, "max", "(II)I"⟩
abbrev cJ9_min_7cf53 : ByteArray := prog_13_method_69_code
def yJ9_min_7cf53 : MethodName := ⟨RJ9, "min", "(II)I"⟩
def RJ10 : String := "java/lang/System"
def RJ7 : String := "java/util/Arrays"
abbrev cJ7_fill_53178 : ByteArray := prog_16_method_103_code
def yJ7_fill_53178 : MethodName := ⟨RJ7, "fill", "([II)V"⟩
abbrev vwCl : List vw_C := [(RX0, TX0, 2), (RX1, TX1, 5), (RX2, TX2, 8), (RX3, TX3, 11), (RX4, TX4, 5), (RX5, TX5, 2), (RX6, TX6, 1), (RX7, TX7, 8), (RX8, TX8, 15)]
theorem tw_0 : gd_T (Cond.selects "IntervalRouting" ⟨"IntervalRouting", "isPair", "(II)Z"⟩ ⟨"IntervalRouting", "isPair", "(II)Z"⟩) := ⟨List.mem_of_getElem? (i := 0) (by decide +kernel), by decide +kernel⟩
theorem tw_1 : gd_T (Cond.selects "IntervalRouting" ⟨"IntervalRouting", "isNode", "(I)Z"⟩ ⟨"IntervalRouting", "isNode", "(I)Z"⟩) := ⟨List.mem_of_getElem? (i := 1) (by decide +kernel), by decide +kernel⟩
theorem tw_2 : gd_T (Cond.selects "IntervalRouting" ⟨"IntervalRouting", "makeTick", "(LIntervalRouting$State;)I"⟩ ⟨"IntervalRouting", "makeTick", "(LIntervalRouting$State;)I"⟩) := ⟨List.mem_of_getElem? (i := 2) (by decide +kernel), by decide +kernel⟩
theorem tw_3 : gd_T (Cond.selects "IntervalRouting" ⟨"IntervalRouting", "chooseSpeakers", "(LIntervalRouting$State;)V"⟩ ⟨"IntervalRouting", "chooseSpeakers", "(LIntervalRouting$State;)V"⟩) := ⟨List.mem_of_getElem? (i := 3) (by decide +kernel), by decide +kernel⟩
theorem tw_4 : gd_T (Cond.selects "IntervalRouting" ⟨"IntervalRouting", "isDue", "(LIntervalRouting$State;I)Z"⟩ ⟨"IntervalRouting", "isDue", "(LIntervalRouting$State;I)Z"⟩) := ⟨List.mem_of_getElem? (i := 4) (by decide +kernel), by decide +kernel⟩
theorem tw_5 : gd_T (Cond.selects "IntervalRouting" ⟨"IntervalRouting", "speak", "(LIntervalRouting$State;I)V"⟩ ⟨"IntervalRouting", "speak", "(LIntervalRouting$State;I)V"⟩) := ⟨List.mem_of_getElem? (i := 5) (by decide +kernel), by decide +kernel⟩
theorem tw_6 : gd_T (Cond.selects "IntervalRouting" ⟨"IntervalRouting", "announce", "(LIntervalRouting$State;III)V"⟩ ⟨"IntervalRouting", "announce", "(LIntervalRouting$State;III)V"⟩) := ⟨List.mem_of_getElem? (i := 6) (by decide +kernel), by decide +kernel⟩
theorem tw_7 : gd_T (Cond.selects "IntervalRouting" ⟨"IntervalRouting", "noteChanges", "(LIntervalRouting$State;)I"⟩ ⟨"IntervalRouting", "noteChanges", "(LIntervalRouting$State;)I"⟩) := ⟨List.mem_of_getElem? (i := 7) (by decide +kernel), by decide +kernel⟩
theorem tw_8 : gd_T (Cond.selects "IntervalRouting" ⟨"IntervalRouting", "counts", "(IIII)Z"⟩ ⟨"IntervalRouting", "counts", "(IIII)Z"⟩) := ⟨List.mem_of_getElem? (i := 8) (by decide +kernel), by decide +kernel⟩
theorem tw_9 : gd_T (Cond.selects "IntervalRouting" ⟨"IntervalRouting", "isWrong", "(I)Z"⟩ ⟨"IntervalRouting", "isWrong", "(I)Z"⟩) := ⟨List.mem_of_getElem? (i := 9) (by decide +kernel), by decide +kernel⟩
theorem tw_10 : gd_T (Cond.selects "IntervalRoutingModel" ⟨"IntervalRoutingModel", "begins", "()V"⟩ ⟨"IntervalRoutingModel", "begins", "()V"⟩) := ⟨List.mem_of_getElem? (i := 10) (by decide +kernel), by decide +kernel⟩
theorem tw_11 : gd_T (Cond.selects "IntervalRoutingModel" ⟨"IntervalRoutingModel", "arePair", "(II)Z"⟩ ⟨"IntervalRoutingModel", "arePair", "(II)Z"⟩) := ⟨List.mem_of_getElem? (i := 11) (by decide +kernel), by decide +kernel⟩
theorem tw_12 : gd_T (Cond.selects "IntervalRoutingModel" ⟨"IntervalRoutingModel", "isNode", "(I)Z"⟩ ⟨"IntervalRoutingModel", "isNode", "(I)Z"⟩) := ⟨List.mem_of_getElem? (i := 12) (by decide +kernel), by decide +kernel⟩
theorem tw_13 : gd_T (Cond.selects "IntervalRoutingModel" ⟨"IntervalRoutingModel", "isLink", "(II)Z"⟩ ⟨"IntervalRoutingModel", "isLink", "(II)Z"⟩) := ⟨List.mem_of_getElem? (i := 13) (by decide +kernel), by decide +kernel⟩
theorem tw_14 : gd_T (Cond.selects "IntervalRoutingModel" ⟨"IntervalRoutingModel", "sets", "(IIII)V"⟩ ⟨"IntervalRoutingModel", "sets", "(IIII)V"⟩) := ⟨List.mem_of_getElem? (i := 14) (by decide +kernel), by decide +kernel⟩
theorem tw_15 : gd_T (Cond.selects "IntervalRoutingModel" ⟨"IntervalRoutingModel", "tick", "()V"⟩ ⟨"IntervalRoutingModel", "tick", "()V"⟩) := ⟨List.mem_of_getElem? (i := 15) (by decide +kernel), by decide +kernel⟩
theorem tw_16 : gd_T (Cond.selects "IntervalRoutingModel" ⟨"IntervalRoutingModel", "looks", "()V"⟩ ⟨"IntervalRoutingModel", "looks", "()V"⟩) := ⟨List.mem_of_getElem? (i := 16) (by decide +kernel), by decide +kernel⟩
theorem tw_17 : gd_T (Cond.selects "IntervalRoutingModel" ⟨"IntervalRoutingModel", "boundOf", "(III)I"⟩ ⟨"IntervalRoutingModel", "boundOf", "(III)I"⟩) := ⟨List.mem_of_getElem? (i := 17) (by decide +kernel), by decide +kernel⟩
theorem tw_18 : gd_T (Cond.selects "IntervalRoutingModel" ⟨"IntervalRoutingModel", "least", "(IIII)I"⟩ ⟨"IntervalRoutingModel", "least", "(IIII)I"⟩) := ⟨List.mem_of_getElem? (i := 18) (by decide +kernel), by decide +kernel⟩
theorem tw_19 : gd_T (Cond.selects "IntervalRoutingModel" ⟨"IntervalRoutingModel", "isUsable", "(III)Z"⟩ ⟨"IntervalRoutingModel", "isUsable", "(III)Z"⟩) := ⟨List.mem_of_getElem? (i := 19) (by decide +kernel), by decide +kernel⟩
theorem tw_20 : gd_T (Cond.selects "IntervalRoutingModel" ⟨"IntervalRoutingModel", "isEntry", "(III)Z"⟩ ⟨"IntervalRoutingModel", "isEntry", "(III)Z"⟩) := ⟨List.mem_of_getElem? (i := 20) (by decide +kernel), by decide +kernel⟩
theorem tw_21 : gd_T (Cond.selects "IntervalRoutingModel" ⟨"IntervalRoutingModel", "of", "(IIII)I"⟩ ⟨"IntervalRoutingModel", "of", "(IIII)I"⟩) := ⟨List.mem_of_getElem? (i := 21) (by decide +kernel), by decide +kernel⟩
theorem tw_22 : gd_T (Cond.selects "IntervalRoutingModel" ⟨"IntervalRoutingModel", "areNear", "(II)Z"⟩ ⟨"IntervalRoutingModel", "areNear", "(II)Z"⟩) := ⟨List.mem_of_getElem? (i := 22) (by decide +kernel), by decide +kernel⟩
theorem tw_23 : gd_T (Cond.selects "IntervalRoutingModel" ⟨"IntervalRoutingModel", "choiceOf", "(II)I"⟩ ⟨"IntervalRoutingModel", "choiceOf", "(II)I"⟩) := ⟨List.mem_of_getElem? (i := 23) (by decide +kernel), by decide +kernel⟩
theorem tw_24 : gd_T (Cond.selects "IntervalRoutingModel" ⟨"IntervalRoutingModel", "weight", "(IIIZ)I"⟩ ⟨"IntervalRoutingModel", "weight", "(IIIZ)I"⟩) := ⟨List.mem_of_getElem? (i := 24) (by decide +kernel), by decide +kernel⟩
theorem tw_25 : gd_T (Cond.selects "IntervalRoutingModel" ⟨"IntervalRoutingModel", "isNew", "(I)Z"⟩ ⟨"IntervalRoutingModel", "isNew", "(I)Z"⟩) := ⟨List.mem_of_getElem? (i := 25) (by decide +kernel), by decide +kernel⟩
theorem tw_26 : gd_T (Cond.selects "IntervalRoutingModel" ⟨"IntervalRoutingModel", "sendsAll", "(I)V"⟩ ⟨"IntervalRoutingModel", "sendsAll", "(I)V"⟩) := ⟨List.mem_of_getElem? (i := 26) (by decide +kernel), by decide +kernel⟩
theorem tw_27 : gd_T (Cond.selects "IntervalRoutingModel" ⟨"IntervalRoutingModel", "receives", "(IIIZ)V"⟩ ⟨"IntervalRoutingModel", "receives", "(IIIZ)V"⟩) := ⟨List.mem_of_getElem? (i := 27) (by decide +kernel), by decide +kernel⟩
theorem tw_28 : gd_T (Cond.selects "IntervalRoutingModel" ⟨"IntervalRoutingModel", "keepsSent", "(I)V"⟩ ⟨"IntervalRoutingModel", "keepsSent", "(I)V"⟩) := ⟨List.mem_of_getElem? (i := 28) (by decide +kernel), by decide +kernel⟩
theorem tw_29 : gd_T (Cond.selects "IntervalRoutingModel" ⟨"IntervalRoutingModel", "notes", "(III)V"⟩ ⟨"IntervalRoutingModel", "notes", "(III)V"⟩) := ⟨List.mem_of_getElem? (i := 29) (by decide +kernel), by decide +kernel⟩
theorem tw_30 : gd_T (Cond.selects "IntervalRoutingModel" ⟨"IntervalRoutingModel", "isDominated", "(III)Z"⟩ ⟨"IntervalRoutingModel", "isDominated", "(III)Z"⟩) := ⟨List.mem_of_getElem? (i := 30) (by decide +kernel), by decide +kernel⟩
theorem tw_31 : gd_T (Cond.selects "IntervalRoutingModel" ⟨"IntervalRoutingModel", "measures", "()V"⟩ ⟨"IntervalRoutingModel", "measures", "()V"⟩) := ⟨List.mem_of_getElem? (i := 31) (by decide +kernel), by decide +kernel⟩
theorem tw_32 : gd_T (Cond.selects "IntervalRoutingModel" ⟨"IntervalRoutingModel", "follows", "(II)I"⟩ ⟨"IntervalRoutingModel", "follows", "(II)I"⟩) := ⟨List.mem_of_getElem? (i := 32) (by decide +kernel), by decide +kernel⟩
theorem tw_33 : gd_T (Cond.selects "IntervalRoutingModel" ⟨"IntervalRoutingModel", "putsAside", "()V"⟩ ⟨"IntervalRoutingModel", "putsAside", "()V"⟩) := ⟨List.mem_of_getElem? (i := 33) (by decide +kernel), by decide +kernel⟩
theorem tw_34 : gd_T (Cond.selects "IntervalRoutingModel" ⟨"IntervalRoutingModel", "putsBack", "()V"⟩ ⟨"IntervalRoutingModel", "putsBack", "()V"⟩) := ⟨List.mem_of_getElem? (i := 34) (by decide +kernel), by decide +kernel⟩
theorem tw_35 : gd_T (Cond.selects "IntervalRoutingModel" ⟨"IntervalRoutingModel", "pairs", "()I"⟩ ⟨"IntervalRoutingModel", "pairs", "()I"⟩) := ⟨List.mem_of_getElem? (i := 35) (by decide +kernel), by decide +kernel⟩
theorem tw_36 : gd_T (Cond.initialized "IntervalRoutingLaw") := ⟨List.mem_of_getElem? (i := 36) (by decide +kernel), by decide +kernel⟩
theorem tw_37 : gd_T (Cond.initialized "IntervalRouting") := ⟨List.mem_of_getElem? (i := 37) (by decide +kernel), by decide +kernel⟩
theorem tw_38 : gd_T (Cond.initialized "IntervalRouting$State") := ⟨List.mem_of_getElem? (i := 38) (by decide +kernel), by decide +kernel⟩
theorem tw_39 : gd_T (Cond.initialized "IntervalRouting$Links") := ⟨List.mem_of_getElem? (i := 39) (by decide +kernel), by decide +kernel⟩
theorem tw_40 : gd_T (Cond.initialized "IntervalRouting$Tables") := ⟨List.mem_of_getElem? (i := 40) (by decide +kernel), by decide +kernel⟩
theorem tw_41 : gd_T (Cond.initialized "IntervalRouting$Vectors") := ⟨List.mem_of_getElem? (i := 41) (by decide +kernel), by decide +kernel⟩
theorem tw_42 : gd_T (Cond.initialized "IntervalRouting$Journal") := ⟨List.mem_of_getElem? (i := 42) (by decide +kernel), by decide +kernel⟩
theorem tw_43 : gd_T (Cond.initialized "IntervalRouting$Survey") := ⟨List.mem_of_getElem? (i := 43) (by decide +kernel), by decide +kernel⟩
theorem tw_44 : gd_T (Cond.initialized "IntervalRouting$Ways") := ⟨List.mem_of_getElem? (i := 44) (by decide +kernel), by decide +kernel⟩
theorem tw_45 : gd_T (Cond.initialized "java/util/Arrays") := ⟨List.mem_of_getElem? (i := 45) (by decide +kernel), by decide +kernel⟩
theorem tw_46 : gd_T (Cond.initialized "IntervalRoutingModel") := ⟨List.mem_of_getElem? (i := 46) (by decide +kernel), by decide +kernel⟩
theorem tw_47 : gd_T (Cond.initialized "java/lang/Math") := ⟨List.mem_of_getElem? (i := 47) (by decide +kernel), by decide +kernel⟩
theorem tw_48 : gd_T (Cond.initialized "java/lang/Number") := ⟨List.mem_of_getElem? (i := 48) (by decide +kernel), by decide +kernel⟩
theorem tw_49 : gd_T (Cond.initialized "java/lang/Float") := ⟨List.mem_of_getElem? (i := 49) (by decide +kernel), by decide +kernel⟩
theorem tw_50 : gd_T (Cond.initialized "java/lang/System") := ⟨List.mem_of_getElem? (i := 50) (by decide +kernel), by decide +kernel⟩
theorem tw_51 : gd_T (Cond.classLink "IntervalRoutingLaw" 7 "IntervalRouting") := ⟨List.mem_of_getElem? (i := 51) (by decide +kernel), by decide +kernel⟩
theorem tw_52 : gd_T (Cond.instantiable "IntervalRouting" 8) := ⟨List.mem_of_getElem? (i := 52) (by decide +kernel), by decide +kernel⟩
theorem tw_53 : gd_T (Cond.methodLink "IntervalRoutingLaw" 9 ⟨"IntervalRouting", "<init>", "()V"⟩) := ⟨List.mem_of_getElem? (i := 53) (by decide +kernel), by decide +kernel⟩
theorem tw_54 : gd_T (Cond.instanceMethod ⟨"IntervalRouting", "<init>", "()V"⟩) := ⟨List.mem_of_getElem? (i := 54) (by decide +kernel), by decide +kernel⟩
theorem tw_55 : gd_T (Cond.code ⟨"IntervalRouting", "<init>", "()V"⟩ prog_1_method_1_code 1 (Option.none : Option Jvm.ClassFile.FieldType)) := ⟨List.mem_of_getElem? (i := 55) (by decide +kernel), by decide +kernel⟩
theorem tw_56 : gd_T (Cond.methodLink "IntervalRouting" 3 ⟨"java/lang/Object", "<init>", "()V"⟩) := ⟨List.mem_of_getElem? (i := 56) (by decide +kernel), by decide +kernel⟩
theorem tw_57 : gd_T (Cond.instanceMethod ⟨"java/lang/Object", "<init>", "()V"⟩) := ⟨List.mem_of_getElem? (i := 57) (by decide +kernel), by decide +kernel⟩
theorem tw_58 : gd_T (Cond.code ⟨"java/lang/Object", "<init>", "()V"⟩ object_method_1_code 1 (Option.none : Option Jvm.ClassFile.FieldType)) := ⟨List.mem_of_getElem? (i := 58) (by decide +kernel), by decide +kernel⟩
theorem tw_59 : gd_T (Cond.fieldLink "IntervalRouting" 9 "IntervalRouting" "FIRST_SETTING" "[I") := ⟨List.mem_of_getElem? (i := 59) (by decide +kernel), by decide +kernel⟩
theorem tm_60 : Cond.laysStatic "IntervalRouting" "FIRST_SETTING" "[I" ∈ lw_tbl := List.mem_of_getElem? (i := 60) (by decide +kernel)
theorem tw_61 : gd_T (Cond.methodLink "IntervalRouting" 13 ⟨"[I", "clone", "()Ljava/lang/Object;"⟩) := ⟨List.mem_of_getElem? (i := 61) (by decide +kernel), by decide +kernel⟩
theorem tw_62 : gd_T (Cond.sameMethod "[I" "java/lang/Object" "clone" "()Ljava/lang/Object;") := ⟨List.mem_of_getElem? (i := 62) (by decide +kernel), by decide +kernel⟩
theorem tw_63 : gd_T (Cond.native ⟨"java/lang/Object", "clone", "()Ljava/lang/Object;"⟩) := ⟨List.mem_of_getElem? (i := 63) (by decide +kernel), by decide +kernel⟩
theorem tw_64 : gd_T (Cond.instanceMethod ⟨"java/lang/Object", "clone", "()Ljava/lang/Object;"⟩) := ⟨List.mem_of_getElem? (i := 64) (by decide +kernel), by decide +kernel⟩
theorem tw_65 : gd_T (Cond.selects "[I" ⟨"[I", "clone", "()Ljava/lang/Object;"⟩ ⟨"java/lang/Object", "clone", "()Ljava/lang/Object;"⟩) := ⟨List.mem_of_getElem? (i := 65) (by decide +kernel), by decide +kernel⟩
theorem tm_66 : Cond.castable "[I" "java/lang/Cloneable" ∈ lw_tbl := List.mem_of_getElem? (i := 66) (by decide +kernel)
theorem tw_67 : gd_T (Cond.classLink "IntervalRouting" 14 "[I") := ⟨List.mem_of_getElem? (i := 67) (by decide +kernel), by decide +kernel⟩
theorem tw_68 : gd_T (Cond.classLink "IntervalRouting" 21 "IntervalRouting$State") := ⟨List.mem_of_getElem? (i := 68) (by decide +kernel), by decide +kernel⟩
theorem tw_69 : gd_T (Cond.instantiable "IntervalRouting$State" 8) := ⟨List.mem_of_getElem? (i := 69) (by decide +kernel), by decide +kernel⟩
theorem tw_71 : gd_T (Cond.instanceMethod ⟨"IntervalRouting$State", "<init>", "()V"⟩) := ⟨List.mem_of_getElem? (i := 71) (by decide +kernel), by decide +kernel⟩
theorem tw_72 : gd_T (Cond.code ⟨"IntervalRouting$State", "<init>", "()V"⟩ prog_4_method_1_code 1 (Option.none : Option Jvm.ClassFile.FieldType)) := ⟨List.mem_of_getElem? (i := 72) (by decide +kernel), by decide +kernel⟩
theorem tw_73 : gd_T (Cond.methodLink "IntervalRouting$State" 3 ⟨"java/lang/Object", "<init>", "()V"⟩) := ⟨List.mem_of_getElem? (i := 73) (by decide +kernel), by decide +kernel⟩
theorem tw_74 : gd_T (Cond.classLink "IntervalRouting$State" 9 "IntervalRouting$Links") := ⟨List.mem_of_getElem? (i := 74) (by decide +kernel), by decide +kernel⟩
theorem tw_75 : gd_T (Cond.instantiable "IntervalRouting$Links" 5) := ⟨List.mem_of_getElem? (i := 75) (by decide +kernel), by decide +kernel⟩
theorem tw_77 : gd_T (Cond.instanceMethod ⟨"IntervalRouting$Links", "<init>", "()V"⟩) := ⟨List.mem_of_getElem? (i := 77) (by decide +kernel), by decide +kernel⟩
theorem tw_78 : gd_T (Cond.code ⟨"IntervalRouting$Links", "<init>", "()V"⟩ prog_3_method_1_code 1 (Option.none : Option Jvm.ClassFile.FieldType)) := ⟨List.mem_of_getElem? (i := 78) (by decide +kernel), by decide +kernel⟩
theorem tw_79 : gd_T (Cond.methodLink "IntervalRouting$Links" 3 ⟨"java/lang/Object", "<init>", "()V"⟩) := ⟨List.mem_of_getElem? (i := 79) (by decide +kernel), by decide +kernel⟩
theorem tw_80 : gd_T (Cond.fieldLink "IntervalRouting" 77 "IntervalRouting$Links" "count" "I") := ⟨List.mem_of_getElem? (i := 80) (by decide +kernel), by decide +kernel⟩
theorem tw_81 : gd_T (Cond.fieldLink "IntervalRouting$Links" 39 "IntervalRouting$Links" "count" "I") := ⟨List.mem_of_getElem? (i := 81) (by decide +kernel), by decide +kernel⟩
theorem tw_82 : gd_T (Cond.fieldLink "IntervalRouting$Links" 9 "IntervalRouting$Links" "lower" "[I") := ⟨List.mem_of_getElem? (i := 82) (by decide +kernel), by decide +kernel⟩
theorem tw_83 : gd_T (Cond.fieldLink "IntervalRouting" 92 "IntervalRouting$Links" "lower" "[I") := ⟨List.mem_of_getElem? (i := 83) (by decide +kernel), by decide +kernel⟩
theorem tw_84 : gd_T (Cond.fieldLink "IntervalRouting$Links" 15 "IntervalRouting$Links" "upper" "[I") := ⟨List.mem_of_getElem? (i := 84) (by decide +kernel), by decide +kernel⟩
theorem tw_85 : gd_T (Cond.fieldLink "IntervalRouting" 95 "IntervalRouting$Links" "upper" "[I") := ⟨List.mem_of_getElem? (i := 85) (by decide +kernel), by decide +kernel⟩
theorem tw_86 : gd_T (Cond.fieldLink "IntervalRouting$Links" 18 "IntervalRouting$Links" "cost" "[I") := ⟨List.mem_of_getElem? (i := 86) (by decide +kernel), by decide +kernel⟩
theorem tw_87 : gd_T (Cond.fieldLink "IntervalRouting$Ways" 26 "IntervalRouting$Links" "cost" "[I") := ⟨List.mem_of_getElem? (i := 87) (by decide +kernel), by decide +kernel⟩
theorem tw_88 : gd_T (Cond.fieldLink "IntervalRouting" 98 "IntervalRouting$Links" "cost" "[I") := ⟨List.mem_of_getElem? (i := 88) (by decide +kernel), by decide +kernel⟩
theorem tw_89 : gd_T (Cond.fieldLink "IntervalRouting$Links" 21 "IntervalRouting$Links" "up" "[I") := ⟨List.mem_of_getElem? (i := 89) (by decide +kernel), by decide +kernel⟩
theorem tw_90 : gd_T (Cond.fieldLink "IntervalRouting" 109 "IntervalRouting$Links" "up" "[I") := ⟨List.mem_of_getElem? (i := 90) (by decide +kernel), by decide +kernel⟩
theorem tw_91 : gd_T (Cond.lays "IntervalRouting$Links" "IntervalRouting$Links" "count" "I") := ⟨List.mem_of_getElem? (i := 91) (by decide +kernel), by decide +kernel⟩
theorem tw_93 : gd_T (Cond.laysFinal "IntervalRouting$Links" "IntervalRouting$Links" "lower" "[I") := ⟨List.mem_of_getElem? (i := 93) (by decide +kernel), by decide +kernel⟩
theorem tw_95 : gd_T (Cond.laysFinal "IntervalRouting$Links" "IntervalRouting$Links" "upper" "[I") := ⟨List.mem_of_getElem? (i := 95) (by decide +kernel), by decide +kernel⟩
theorem tw_97 : gd_T (Cond.laysFinal "IntervalRouting$Links" "IntervalRouting$Links" "cost" "[I") := ⟨List.mem_of_getElem? (i := 97) (by decide +kernel), by decide +kernel⟩
theorem tw_99 : gd_T (Cond.laysFinal "IntervalRouting$Links" "IntervalRouting$Links" "up" "[I") := ⟨List.mem_of_getElem? (i := 99) (by decide +kernel), by decide +kernel⟩
theorem tw_102 : gd_T (Cond.arrayClass FieldType.int) := ⟨List.mem_of_getElem? (i := 102) (by decide +kernel), by decide +kernel⟩
theorem tw_103 : gd_T (Cond.classLink "IntervalRouting$State" 18 "IntervalRouting$Tables") := ⟨List.mem_of_getElem? (i := 103) (by decide +kernel), by decide +kernel⟩
theorem tw_104 : gd_T (Cond.instantiable "IntervalRouting$Tables" 5) := ⟨List.mem_of_getElem? (i := 104) (by decide +kernel), by decide +kernel⟩
theorem tw_106 : gd_T (Cond.instanceMethod ⟨"IntervalRouting$Tables", "<init>", "()V"⟩) := ⟨List.mem_of_getElem? (i := 106) (by decide +kernel), by decide +kernel⟩
theorem tw_107 : gd_T (Cond.code ⟨"IntervalRouting$Tables", "<init>", "()V"⟩ prog_6_method_1_code 1 (Option.none : Option Jvm.ClassFile.FieldType)) := ⟨List.mem_of_getElem? (i := 107) (by decide +kernel), by decide +kernel⟩
theorem tw_108 : gd_T (Cond.methodLink "IntervalRouting$Tables" 3 ⟨"java/lang/Object", "<init>", "()V"⟩) := ⟨List.mem_of_getElem? (i := 108) (by decide +kernel), by decide +kernel⟩
theorem tw_109 : gd_T (Cond.fieldLink "IntervalRouting$Tables" 9 "IntervalRouting$Tables" "lower" "[I") := ⟨List.mem_of_getElem? (i := 109) (by decide +kernel), by decide +kernel⟩
theorem tw_110 : gd_T (Cond.fieldLink "IntervalRouting$Survey" 106 "IntervalRouting$Tables" "lower" "[I") := ⟨List.mem_of_getElem? (i := 110) (by decide +kernel), by decide +kernel⟩
theorem tw_111 : gd_T (Cond.fieldLink "IntervalRouting" 149 "IntervalRouting$Tables" "lower" "[I") := ⟨List.mem_of_getElem? (i := 111) (by decide +kernel), by decide +kernel⟩
theorem tw_112 : gd_T (Cond.fieldLink "IntervalRouting$Tables" 15 "IntervalRouting$Tables" "upper" "[I") := ⟨List.mem_of_getElem? (i := 112) (by decide +kernel), by decide +kernel⟩
theorem tw_113 : gd_T (Cond.fieldLink "IntervalRouting$Survey" 107 "IntervalRouting$Tables" "upper" "[I") := ⟨List.mem_of_getElem? (i := 113) (by decide +kernel), by decide +kernel⟩
theorem tw_114 : gd_T (Cond.fieldLink "IntervalRouting" 150 "IntervalRouting$Tables" "upper" "[I") := ⟨List.mem_of_getElem? (i := 114) (by decide +kernel), by decide +kernel⟩
theorem tw_115 : gd_T (Cond.fieldLink "IntervalRouting$Tables" 18 "IntervalRouting$Tables" "expiry" "[I") := ⟨List.mem_of_getElem? (i := 115) (by decide +kernel), by decide +kernel⟩
theorem tw_116 : gd_T (Cond.fieldLink "IntervalRouting" 151 "IntervalRouting$Tables" "expiry" "[I") := ⟨List.mem_of_getElem? (i := 116) (by decide +kernel), by decide +kernel⟩
theorem tw_117 : gd_T (Cond.fieldLink "IntervalRouting$Tables" 21 "IntervalRouting$Tables" "growth" "[I") := ⟨List.mem_of_getElem? (i := 117) (by decide +kernel), by decide +kernel⟩
theorem tw_118 : gd_T (Cond.fieldLink "IntervalRouting" 154 "IntervalRouting$Tables" "growth" "[I") := ⟨List.mem_of_getElem? (i := 118) (by decide +kernel), by decide +kernel⟩
theorem tw_119 : gd_T (Cond.fieldLink "IntervalRouting$Tables" 24 "IntervalRouting$Tables" "heldUpTo" "[I") := ⟨List.mem_of_getElem? (i := 119) (by decide +kernel), by decide +kernel⟩
theorem tw_120 : gd_T (Cond.fieldLink "IntervalRouting" 157 "IntervalRouting$Tables" "heldUpTo" "[I") := ⟨List.mem_of_getElem? (i := 120) (by decide +kernel), by decide +kernel⟩
theorem tw_121 : gd_T (Cond.laysFinal "IntervalRouting$Tables" "IntervalRouting$Tables" "lower" "[I") := ⟨List.mem_of_getElem? (i := 121) (by decide +kernel), by decide +kernel⟩
theorem tw_123 : gd_T (Cond.laysFinal "IntervalRouting$Tables" "IntervalRouting$Tables" "upper" "[I") := ⟨List.mem_of_getElem? (i := 123) (by decide +kernel), by decide +kernel⟩
theorem tw_125 : gd_T (Cond.laysFinal "IntervalRouting$Tables" "IntervalRouting$Tables" "expiry" "[I") := ⟨List.mem_of_getElem? (i := 125) (by decide +kernel), by decide +kernel⟩
theorem tw_127 : gd_T (Cond.laysFinal "IntervalRouting$Tables" "IntervalRouting$Tables" "growth" "[I") := ⟨List.mem_of_getElem? (i := 127) (by decide +kernel), by decide +kernel⟩
theorem tw_129 : gd_T (Cond.laysFinal "IntervalRouting$Tables" "IntervalRouting$Tables" "heldUpTo" "[I") := ⟨List.mem_of_getElem? (i := 129) (by decide +kernel), by decide +kernel⟩
theorem tw_132 : gd_T (Cond.classLink "IntervalRouting$State" 25 "IntervalRouting$Vectors") := ⟨List.mem_of_getElem? (i := 132) (by decide +kernel), by decide +kernel⟩
theorem tw_133 : gd_T (Cond.instantiable "IntervalRouting$Vectors" 2) := ⟨List.mem_of_getElem? (i := 133) (by decide +kernel), by decide +kernel⟩
theorem tw_135 : gd_T (Cond.instanceMethod ⟨"IntervalRouting$Vectors", "<init>", "()V"⟩) := ⟨List.mem_of_getElem? (i := 135) (by decide +kernel), by decide +kernel⟩
theorem tw_136 : gd_T (Cond.code ⟨"IntervalRouting$Vectors", "<init>", "()V"⟩ prog_7_method_1_code 1 (Option.none : Option Jvm.ClassFile.FieldType)) := ⟨List.mem_of_getElem? (i := 136) (by decide +kernel), by decide +kernel⟩
theorem tw_137 : gd_T (Cond.methodLink "IntervalRouting$Vectors" 3 ⟨"java/lang/Object", "<init>", "()V"⟩) := ⟨List.mem_of_getElem? (i := 137) (by decide +kernel), by decide +kernel⟩
theorem tw_138 : gd_T (Cond.fieldLink "IntervalRouting$Vectors" 9 "IntervalRouting$Vectors" "lower" "[I") := ⟨List.mem_of_getElem? (i := 138) (by decide +kernel), by decide +kernel⟩
theorem tw_139 : gd_T (Cond.fieldLink "IntervalRouting$Vectors" 15 "IntervalRouting$Vectors" "upper" "[I") := ⟨List.mem_of_getElem? (i := 139) (by decide +kernel), by decide +kernel⟩
theorem tw_140 : gd_T (Cond.laysFinal "IntervalRouting$Vectors" "IntervalRouting$Vectors" "lower" "[I") := ⟨List.mem_of_getElem? (i := 140) (by decide +kernel), by decide +kernel⟩
theorem tw_142 : gd_T (Cond.laysFinal "IntervalRouting$Vectors" "IntervalRouting$Vectors" "upper" "[I") := ⟨List.mem_of_getElem? (i := 142) (by decide +kernel), by decide +kernel⟩
theorem tw_145 : gd_T (Cond.classLink "IntervalRouting$State" 32 "IntervalRouting$Journal") := ⟨List.mem_of_getElem? (i := 145) (by decide +kernel), by decide +kernel⟩
theorem tw_146 : gd_T (Cond.instantiable "IntervalRouting$Journal" 2) := ⟨List.mem_of_getElem? (i := 146) (by decide +kernel), by decide +kernel⟩
theorem tw_148 : gd_T (Cond.instanceMethod ⟨"IntervalRouting$Journal", "<init>", "()V"⟩) := ⟨List.mem_of_getElem? (i := 148) (by decide +kernel), by decide +kernel⟩
theorem tw_149 : gd_T (Cond.code ⟨"IntervalRouting$Journal", "<init>", "()V"⟩ prog_2_method_1_code 1 (Option.none : Option Jvm.ClassFile.FieldType)) := ⟨List.mem_of_getElem? (i := 149) (by decide +kernel), by decide +kernel⟩
theorem tw_150 : gd_T (Cond.methodLink "IntervalRouting$Journal" 3 ⟨"java/lang/Object", "<init>", "()V"⟩) := ⟨List.mem_of_getElem? (i := 150) (by decide +kernel), by decide +kernel⟩
theorem tw_151 : gd_T (Cond.fieldLink "IntervalRouting$Journal" 9 "IntervalRouting$Journal" "rows" "[I") := ⟨List.mem_of_getElem? (i := 151) (by decide +kernel), by decide +kernel⟩
theorem tw_152 : gd_T (Cond.fieldLink "IntervalRouting$Journal" 15 "IntervalRouting$Journal" "added" "I") := ⟨List.mem_of_getElem? (i := 152) (by decide +kernel), by decide +kernel⟩
theorem tw_153 : gd_T (Cond.laysFinal "IntervalRouting$Journal" "IntervalRouting$Journal" "rows" "[I") := ⟨List.mem_of_getElem? (i := 153) (by decide +kernel), by decide +kernel⟩
theorem tw_155 : gd_T (Cond.lays "IntervalRouting$Journal" "IntervalRouting$Journal" "added" "I") := ⟨List.mem_of_getElem? (i := 155) (by decide +kernel), by decide +kernel⟩
theorem tw_158 : gd_T (Cond.fieldLink "IntervalRouting$State" 43 "IntervalRouting$State" "nodes" "I") := ⟨List.mem_of_getElem? (i := 158) (by decide +kernel), by decide +kernel⟩
theorem tw_159 : gd_T (Cond.fieldLink "IntervalRouting" 60 "IntervalRouting$State" "nodes" "I") := ⟨List.mem_of_getElem? (i := 159) (by decide +kernel), by decide +kernel⟩
theorem tw_160 : gd_T (Cond.fieldLink "IntervalRouting$Survey" 39 "IntervalRouting$State" "nodes" "I") := ⟨List.mem_of_getElem? (i := 160) (by decide +kernel), by decide +kernel⟩
theorem tw_161 : gd_T (Cond.fieldLink "IntervalRouting$State" 47 "IntervalRouting$State" "tick" "I") := ⟨List.mem_of_getElem? (i := 161) (by decide +kernel), by decide +kernel⟩
theorem tw_162 : gd_T (Cond.fieldLink "IntervalRouting$Survey" 97 "IntervalRouting$State" "tick" "I") := ⟨List.mem_of_getElem? (i := 162) (by decide +kernel), by decide +kernel⟩
theorem tw_163 : gd_T (Cond.fieldLink "IntervalRouting" 125 "IntervalRouting$State" "tick" "I") := ⟨List.mem_of_getElem? (i := 163) (by decide +kernel), by decide +kernel⟩
theorem tw_164 : gd_T (Cond.fieldLink "IntervalRouting$State" 50 "IntervalRouting$State" "sent" "I") := ⟨List.mem_of_getElem? (i := 164) (by decide +kernel), by decide +kernel⟩
theorem tw_165 : gd_T (Cond.fieldLink "IntervalRouting" 133 "IntervalRouting$State" "sent" "I") := ⟨List.mem_of_getElem? (i := 165) (by decide +kernel), by decide +kernel⟩
theorem tw_166 : gd_T (Cond.fieldLink "IntervalRouting$State" 12 "IntervalRouting$State" "links" "LIntervalRouting$Links;") := ⟨List.mem_of_getElem? (i := 166) (by decide +kernel), by decide +kernel⟩
theorem tw_167 : gd_T (Cond.fieldLink "IntervalRouting" 68 "IntervalRouting$State" "links" "LIntervalRouting$Links;") := ⟨List.mem_of_getElem? (i := 167) (by decide +kernel), by decide +kernel⟩
theorem tw_168 : gd_T (Cond.fieldLink "IntervalRouting$Survey" 56 "IntervalRouting$State" "links" "LIntervalRouting$Links;") := ⟨List.mem_of_getElem? (i := 168) (by decide +kernel), by decide +kernel⟩
theorem tw_169 : gd_T (Cond.fieldLink "IntervalRouting$State" 21 "IntervalRouting$State" "tables" "LIntervalRouting$Tables;") := ⟨List.mem_of_getElem? (i := 169) (by decide +kernel), by decide +kernel⟩
theorem tw_170 : gd_T (Cond.fieldLink "IntervalRouting$Survey" 93 "IntervalRouting$State" "tables" "LIntervalRouting$Tables;") := ⟨List.mem_of_getElem? (i := 170) (by decide +kernel), by decide +kernel⟩
theorem tw_171 : gd_T (Cond.fieldLink "IntervalRouting" 140 "IntervalRouting$State" "tables" "LIntervalRouting$Tables;") := ⟨List.mem_of_getElem? (i := 171) (by decide +kernel), by decide +kernel⟩
theorem tw_172 : gd_T (Cond.fieldLink "IntervalRouting$State" 28 "IntervalRouting$State" "vectors" "LIntervalRouting$Vectors;") := ⟨List.mem_of_getElem? (i := 172) (by decide +kernel), by decide +kernel⟩
theorem tw_173 : gd_T (Cond.fieldLink "IntervalRouting" 256 "IntervalRouting$State" "vectors" "LIntervalRouting$Vectors;") := ⟨List.mem_of_getElem? (i := 173) (by decide +kernel), by decide +kernel⟩
theorem tw_174 : gd_T (Cond.fieldLink "IntervalRouting$State" 35 "IntervalRouting$State" "journal" "LIntervalRouting$Journal;") := ⟨List.mem_of_getElem? (i := 174) (by decide +kernel), by decide +kernel⟩
theorem tw_175 : gd_T (Cond.fieldLink "IntervalRouting" 197 "IntervalRouting$State" "journal" "LIntervalRouting$Journal;") := ⟨List.mem_of_getElem? (i := 175) (by decide +kernel), by decide +kernel⟩
theorem tw_176 : gd_T (Cond.fieldLink "IntervalRouting$State" 39 "IntervalRouting$State" "lastChosen" "[I") := ⟨List.mem_of_getElem? (i := 176) (by decide +kernel), by decide +kernel⟩
theorem tw_177 : gd_T (Cond.fieldLink "IntervalRouting" 283 "IntervalRouting$State" "lastChosen" "[I") := ⟨List.mem_of_getElem? (i := 177) (by decide +kernel), by decide +kernel⟩
theorem tw_178 : gd_T (Cond.lays "IntervalRouting$State" "IntervalRouting$State" "nodes" "I") := ⟨List.mem_of_getElem? (i := 178) (by decide +kernel), by decide +kernel⟩
theorem tw_180 : gd_T (Cond.lays "IntervalRouting$State" "IntervalRouting$State" "tick" "I") := ⟨List.mem_of_getElem? (i := 180) (by decide +kernel), by decide +kernel⟩
theorem tw_182 : gd_T (Cond.lays "IntervalRouting$State" "IntervalRouting$State" "sent" "I") := ⟨List.mem_of_getElem? (i := 182) (by decide +kernel), by decide +kernel⟩
theorem tw_184 : gd_T (Cond.laysFinal "IntervalRouting$State" "IntervalRouting$State" "links" "LIntervalRouting$Links;") := ⟨List.mem_of_getElem? (i := 184) (by decide +kernel), by decide +kernel⟩
theorem tw_186 : gd_T (Cond.laysFinal "IntervalRouting$State" "IntervalRouting$State" "tables" "LIntervalRouting$Tables;") := ⟨List.mem_of_getElem? (i := 186) (by decide +kernel), by decide +kernel⟩
theorem tw_188 : gd_T (Cond.laysFinal "IntervalRouting$State" "IntervalRouting$State" "vectors" "LIntervalRouting$Vectors;") := ⟨List.mem_of_getElem? (i := 188) (by decide +kernel), by decide +kernel⟩
theorem tw_190 : gd_T (Cond.laysFinal "IntervalRouting$State" "IntervalRouting$State" "journal" "LIntervalRouting$Journal;") := ⟨List.mem_of_getElem? (i := 190) (by decide +kernel), by decide +kernel⟩
theorem tw_192 : gd_T (Cond.laysFinal "IntervalRouting$State" "IntervalRouting$State" "lastChosen" "[I") := ⟨List.mem_of_getElem? (i := 192) (by decide +kernel), by decide +kernel⟩
theorem tw_195 : gd_T (Cond.classLink "IntervalRouting" 34 "IntervalRouting$Survey") := ⟨List.mem_of_getElem? (i := 195) (by decide +kernel), by decide +kernel⟩
theorem tw_196 : gd_T (Cond.instantiable "IntervalRouting$Survey" 11) := ⟨List.mem_of_getElem? (i := 196) (by decide +kernel), by decide +kernel⟩
theorem tw_198 : gd_T (Cond.instanceMethod ⟨"IntervalRouting$Survey", "<init>", "()V"⟩) := ⟨List.mem_of_getElem? (i := 198) (by decide +kernel), by decide +kernel⟩
theorem tw_199 : gd_T (Cond.code ⟨"IntervalRouting$Survey", "<init>", "()V"⟩ prog_5_method_1_code 1 (Option.none : Option Jvm.ClassFile.FieldType)) := ⟨List.mem_of_getElem? (i := 199) (by decide +kernel), by decide +kernel⟩
theorem tw_200 : gd_T (Cond.methodLink "IntervalRouting$Survey" 3 ⟨"java/lang/Object", "<init>", "()V"⟩) := ⟨List.mem_of_getElem? (i := 200) (by decide +kernel), by decide +kernel⟩
theorem tw_201 : gd_T (Cond.fieldLink "IntervalRouting$Survey" 9 "IntervalRouting$Survey" "lower" "[I") := ⟨List.mem_of_getElem? (i := 201) (by decide +kernel), by decide +kernel⟩
theorem tw_202 : gd_T (Cond.fieldLink "IntervalRouting$Vectors" 22 "IntervalRouting$Survey" "lower" "[I") := ⟨List.mem_of_getElem? (i := 202) (by decide +kernel), by decide +kernel⟩
theorem tw_203 : gd_T (Cond.fieldLink "IntervalRouting" 181 "IntervalRouting$Survey" "lower" "[I") := ⟨List.mem_of_getElem? (i := 203) (by decide +kernel), by decide +kernel⟩
theorem tw_204 : gd_T (Cond.fieldLink "IntervalRouting$Survey" 15 "IntervalRouting$Survey" "upper" "[I") := ⟨List.mem_of_getElem? (i := 204) (by decide +kernel), by decide +kernel⟩
theorem tw_205 : gd_T (Cond.fieldLink "IntervalRouting$Vectors" 25 "IntervalRouting$Survey" "upper" "[I") := ⟨List.mem_of_getElem? (i := 205) (by decide +kernel), by decide +kernel⟩
theorem tw_206 : gd_T (Cond.fieldLink "IntervalRouting" 182 "IntervalRouting$Survey" "upper" "[I") := ⟨List.mem_of_getElem? (i := 206) (by decide +kernel), by decide +kernel⟩
theorem tw_207 : gd_T (Cond.fieldLink "IntervalRouting$Survey" 18 "IntervalRouting$Survey" "chosen" "[I") := ⟨List.mem_of_getElem? (i := 207) (by decide +kernel), by decide +kernel⟩
theorem tw_208 : gd_T (Cond.fieldLink "IntervalRouting" 183 "IntervalRouting$Survey" "chosen" "[I") := ⟨List.mem_of_getElem? (i := 208) (by decide +kernel), by decide +kernel⟩
theorem tw_209 : gd_T (Cond.fieldLink "IntervalRouting$Survey" 21 "IntervalRouting$Survey" "neighbours" "[I") := ⟨List.mem_of_getElem? (i := 209) (by decide +kernel), by decide +kernel⟩
theorem tw_210 : gd_T (Cond.fieldLink "IntervalRouting$Survey" 53 "IntervalRouting$Survey" "near" "I") := ⟨List.mem_of_getElem? (i := 210) (by decide +kernel), by decide +kernel⟩
theorem tw_211 : gd_T (Cond.fieldLink "IntervalRouting$Survey" 24 "IntervalRouting$Survey" "senders" "[I") := ⟨List.mem_of_getElem? (i := 211) (by decide +kernel), by decide +kernel⟩
theorem tw_212 : gd_T (Cond.fieldLink "IntervalRouting$Survey" 27 "IntervalRouting$Survey" "lowers" "[I") := ⟨List.mem_of_getElem? (i := 212) (by decide +kernel), by decide +kernel⟩
theorem tw_213 : gd_T (Cond.fieldLink "IntervalRouting$Survey" 30 "IntervalRouting$Survey" "uppers" "[I") := ⟨List.mem_of_getElem? (i := 213) (by decide +kernel), by decide +kernel⟩
theorem tw_214 : gd_T (Cond.fieldLink "IntervalRouting$Survey" 33 "IntervalRouting$Survey" "ranks" "[I") := ⟨List.mem_of_getElem? (i := 214) (by decide +kernel), by decide +kernel⟩
theorem tw_215 : gd_T (Cond.fieldLink "IntervalRouting$Survey" 36 "IntervalRouting$Survey" "secondRanks" "[I") := ⟨List.mem_of_getElem? (i := 215) (by decide +kernel), by decide +kernel⟩
theorem tw_216 : gd_T (Cond.fieldLink "IntervalRouting$Survey" 86 "IntervalRouting$Survey" "usable" "I") := ⟨List.mem_of_getElem? (i := 216) (by decide +kernel), by decide +kernel⟩
theorem tw_217 : gd_T (Cond.laysFinal "IntervalRouting$Survey" "IntervalRouting$Survey" "lower" "[I") := ⟨List.mem_of_getElem? (i := 217) (by decide +kernel), by decide +kernel⟩
theorem tw_219 : gd_T (Cond.laysFinal "IntervalRouting$Survey" "IntervalRouting$Survey" "upper" "[I") := ⟨List.mem_of_getElem? (i := 219) (by decide +kernel), by decide +kernel⟩
theorem tw_221 : gd_T (Cond.laysFinal "IntervalRouting$Survey" "IntervalRouting$Survey" "chosen" "[I") := ⟨List.mem_of_getElem? (i := 221) (by decide +kernel), by decide +kernel⟩
theorem tw_223 : gd_T (Cond.laysFinal "IntervalRouting$Survey" "IntervalRouting$Survey" "neighbours" "[I") := ⟨List.mem_of_getElem? (i := 223) (by decide +kernel), by decide +kernel⟩
theorem tw_225 : gd_T (Cond.lays "IntervalRouting$Survey" "IntervalRouting$Survey" "near" "I") := ⟨List.mem_of_getElem? (i := 225) (by decide +kernel), by decide +kernel⟩
theorem tw_227 : gd_T (Cond.laysFinal "IntervalRouting$Survey" "IntervalRouting$Survey" "senders" "[I") := ⟨List.mem_of_getElem? (i := 227) (by decide +kernel), by decide +kernel⟩
theorem tw_229 : gd_T (Cond.laysFinal "IntervalRouting$Survey" "IntervalRouting$Survey" "lowers" "[I") := ⟨List.mem_of_getElem? (i := 229) (by decide +kernel), by decide +kernel⟩
theorem tw_231 : gd_T (Cond.laysFinal "IntervalRouting$Survey" "IntervalRouting$Survey" "uppers" "[I") := ⟨List.mem_of_getElem? (i := 231) (by decide +kernel), by decide +kernel⟩
theorem tw_233 : gd_T (Cond.laysFinal "IntervalRouting$Survey" "IntervalRouting$Survey" "ranks" "[I") := ⟨List.mem_of_getElem? (i := 233) (by decide +kernel), by decide +kernel⟩
theorem tw_235 : gd_T (Cond.laysFinal "IntervalRouting$Survey" "IntervalRouting$Survey" "secondRanks" "[I") := ⟨List.mem_of_getElem? (i := 235) (by decide +kernel), by decide +kernel⟩
theorem tw_237 : gd_T (Cond.lays "IntervalRouting$Survey" "IntervalRouting$Survey" "usable" "I") := ⟨List.mem_of_getElem? (i := 237) (by decide +kernel), by decide +kernel⟩
theorem tw_240 : gd_T (Cond.classLink "IntervalRouting" 41 "IntervalRouting$Ways") := ⟨List.mem_of_getElem? (i := 240) (by decide +kernel), by decide +kernel⟩
theorem tw_241 : gd_T (Cond.instantiable "IntervalRouting$Ways" 1) := ⟨List.mem_of_getElem? (i := 241) (by decide +kernel), by decide +kernel⟩
theorem tw_243 : gd_T (Cond.instanceMethod ⟨"IntervalRouting$Ways", "<init>", "()V"⟩) := ⟨List.mem_of_getElem? (i := 243) (by decide +kernel), by decide +kernel⟩
theorem tw_244 : gd_T (Cond.code ⟨"IntervalRouting$Ways", "<init>", "()V"⟩ prog_8_method_1_code 1 (Option.none : Option Jvm.ClassFile.FieldType)) := ⟨List.mem_of_getElem? (i := 244) (by decide +kernel), by decide +kernel⟩
theorem tw_245 : gd_T (Cond.methodLink "IntervalRouting$Ways" 3 ⟨"java/lang/Object", "<init>", "()V"⟩) := ⟨List.mem_of_getElem? (i := 245) (by decide +kernel), by decide +kernel⟩
theorem tw_246 : gd_T (Cond.fieldLink "IntervalRouting$Ways" 9 "IntervalRouting$Ways" "length" "[I") := ⟨List.mem_of_getElem? (i := 246) (by decide +kernel), by decide +kernel⟩
theorem tw_247 : gd_T (Cond.fieldLink "IntervalRouting" 217 "IntervalRouting$Ways" "length" "[I") := ⟨List.mem_of_getElem? (i := 247) (by decide +kernel), by decide +kernel⟩
theorem tw_248 : gd_T (Cond.laysFinal "IntervalRouting$Ways" "IntervalRouting$Ways" "length" "[I") := ⟨List.mem_of_getElem? (i := 248) (by decide +kernel), by decide +kernel⟩
theorem tw_251 : gd_T (Cond.methodLink "IntervalRouting" 56 ⟨"IntervalRouting$State", "startAnew", "(I)V"⟩) := ⟨List.mem_of_getElem? (i := 251) (by decide +kernel), by decide +kernel⟩
theorem tw_252 : gd_T (Cond.instanceMethod ⟨"IntervalRouting$State", "startAnew", "(I)V"⟩) := ⟨List.mem_of_getElem? (i := 252) (by decide +kernel), by decide +kernel⟩
theorem tw_253 : gd_T (Cond.selects "IntervalRouting$State" ⟨"IntervalRouting$State", "startAnew", "(I)V"⟩ ⟨"IntervalRouting$State", "startAnew", "(I)V"⟩) := ⟨List.mem_of_getElem? (i := 253) (by decide +kernel), by decide +kernel⟩
theorem tw_254 : gd_T (Cond.code ⟨"IntervalRouting$State", "startAnew", "(I)V"⟩ prog_4_method_2_code 2 (Option.none : Option Jvm.ClassFile.FieldType)) := ⟨List.mem_of_getElem? (i := 254) (by decide +kernel), by decide +kernel⟩
theorem tw_255 : gd_T (Cond.methodLink "IntervalRouting$State" 53 ⟨"IntervalRouting$Links", "clear", "()V"⟩) := ⟨List.mem_of_getElem? (i := 255) (by decide +kernel), by decide +kernel⟩
theorem tw_256 : gd_T (Cond.instanceMethod ⟨"IntervalRouting$Links", "clear", "()V"⟩) := ⟨List.mem_of_getElem? (i := 256) (by decide +kernel), by decide +kernel⟩
theorem tw_257 : gd_T (Cond.selects "IntervalRouting$Links" ⟨"IntervalRouting$Links", "clear", "()V"⟩ ⟨"IntervalRouting$Links", "clear", "()V"⟩) := ⟨List.mem_of_getElem? (i := 257) (by decide +kernel), by decide +kernel⟩
theorem tw_258 : gd_T (Cond.code ⟨"IntervalRouting$Links", "clear", "()V"⟩ prog_3_method_9_code 1 (Option.none : Option Jvm.ClassFile.FieldType)) := ⟨List.mem_of_getElem? (i := 258) (by decide +kernel), by decide +kernel⟩
theorem tw_259 : gd_T (Cond.methodLink "IntervalRouting$Links" 43 ⟨"java/util/Arrays", "fill", "([II)V"⟩) := ⟨List.mem_of_getElem? (i := 259) (by decide +kernel), by decide +kernel⟩
theorem tw_260 : gd_T (Cond.static ⟨"java/util/Arrays", "fill", "([II)V"⟩) := ⟨List.mem_of_getElem? (i := 260) (by decide +kernel), by decide +kernel⟩
theorem tw_261 : gd_T (Cond.code ⟨"java/util/Arrays", "fill", "([II)V"⟩ prog_16_method_103_code 4 (Option.none : Option Jvm.ClassFile.FieldType)) := ⟨List.mem_of_getElem? (i := 261) (by decide +kernel), by decide +kernel⟩
theorem tw_262 : gd_T (Cond.methodLink "IntervalRouting$State" 56 ⟨"IntervalRouting$Tables", "clear", "()V"⟩) := ⟨List.mem_of_getElem? (i := 262) (by decide +kernel), by decide +kernel⟩
theorem tw_263 : gd_T (Cond.instanceMethod ⟨"IntervalRouting$Tables", "clear", "()V"⟩) := ⟨List.mem_of_getElem? (i := 263) (by decide +kernel), by decide +kernel⟩
theorem tw_264 : gd_T (Cond.selects "IntervalRouting$Tables" ⟨"IntervalRouting$Tables", "clear", "()V"⟩ ⟨"IntervalRouting$Tables", "clear", "()V"⟩) := ⟨List.mem_of_getElem? (i := 264) (by decide +kernel), by decide +kernel⟩
theorem tw_265 : gd_T (Cond.code ⟨"IntervalRouting$Tables", "clear", "()V"⟩ prog_6_method_7_code 1 (Option.none : Option Jvm.ClassFile.FieldType)) := ⟨List.mem_of_getElem? (i := 265) (by decide +kernel), by decide +kernel⟩
theorem tw_266 : gd_T (Cond.methodLink "IntervalRouting$Tables" 35 ⟨"java/util/Arrays", "fill", "([II)V"⟩) := ⟨List.mem_of_getElem? (i := 266) (by decide +kernel), by decide +kernel⟩
theorem tw_267 : gd_T (Cond.methodLink "IntervalRouting$State" 57 ⟨"IntervalRouting$Vectors", "clear", "()V"⟩) := ⟨List.mem_of_getElem? (i := 267) (by decide +kernel), by decide +kernel⟩
theorem tw_268 : gd_T (Cond.instanceMethod ⟨"IntervalRouting$Vectors", "clear", "()V"⟩) := ⟨List.mem_of_getElem? (i := 268) (by decide +kernel), by decide +kernel⟩
theorem tw_269 : gd_T (Cond.selects "IntervalRouting$Vectors" ⟨"IntervalRouting$Vectors", "clear", "()V"⟩ ⟨"IntervalRouting$Vectors", "clear", "()V"⟩) := ⟨List.mem_of_getElem? (i := 269) (by decide +kernel), by decide +kernel⟩
theorem tw_270 : gd_T (Cond.code ⟨"IntervalRouting$Vectors", "clear", "()V"⟩ prog_7_method_4_code 1 (Option.none : Option Jvm.ClassFile.FieldType)) := ⟨List.mem_of_getElem? (i := 270) (by decide +kernel), by decide +kernel⟩
theorem tw_271 : gd_T (Cond.methodLink "IntervalRouting$Vectors" 26 ⟨"java/util/Arrays", "fill", "([II)V"⟩) := ⟨List.mem_of_getElem? (i := 271) (by decide +kernel), by decide +kernel⟩
theorem tw_272 : gd_T (Cond.methodLink "IntervalRouting$State" 58 ⟨"IntervalRouting$Journal", "clear", "()V"⟩) := ⟨List.mem_of_getElem? (i := 272) (by decide +kernel), by decide +kernel⟩
theorem tw_273 : gd_T (Cond.instanceMethod ⟨"IntervalRouting$Journal", "clear", "()V"⟩) := ⟨List.mem_of_getElem? (i := 273) (by decide +kernel), by decide +kernel⟩
theorem tw_274 : gd_T (Cond.selects "IntervalRouting$Journal" ⟨"IntervalRouting$Journal", "clear", "()V"⟩ ⟨"IntervalRouting$Journal", "clear", "()V"⟩) := ⟨List.mem_of_getElem? (i := 274) (by decide +kernel), by decide +kernel⟩
theorem tw_275 : gd_T (Cond.code ⟨"IntervalRouting$Journal", "clear", "()V"⟩ prog_2_method_5_code 1 (Option.none : Option Jvm.ClassFile.FieldType)) := ⟨List.mem_of_getElem? (i := 275) (by decide +kernel), by decide +kernel⟩
theorem tw_276 : gd_T (Cond.methodLink "IntervalRouting$Journal" 25 ⟨"java/util/Arrays", "fill", "([II)V"⟩) := ⟨List.mem_of_getElem? (i := 276) (by decide +kernel), by decide +kernel⟩
theorem tw_277 : gd_T (Cond.methodLink "IntervalRouting$State" 59 ⟨"java/util/Arrays", "fill", "([II)V"⟩) := ⟨List.mem_of_getElem? (i := 277) (by decide +kernel), by decide +kernel⟩
theorem tw_278 : gd_T (Cond.fieldLink "IntervalRouting" 18 "IntervalRouting" "settings" "[I") := ⟨List.mem_of_getElem? (i := 278) (by decide +kernel), by decide +kernel⟩
theorem tw_279 : gd_T (Cond.fieldLink "IntervalRouting" 24 "IntervalRouting" "live" "LIntervalRouting$State;") := ⟨List.mem_of_getElem? (i := 279) (by decide +kernel), by decide +kernel⟩
theorem tw_280 : gd_T (Cond.fieldLink "IntervalRouting" 28 "IntervalRouting" "stored" "LIntervalRouting$State;") := ⟨List.mem_of_getElem? (i := 280) (by decide +kernel), by decide +kernel⟩
theorem tw_281 : gd_T (Cond.fieldLink "IntervalRouting" 31 "IntervalRouting" "trial" "LIntervalRouting$State;") := ⟨List.mem_of_getElem? (i := 281) (by decide +kernel), by decide +kernel⟩
theorem tw_282 : gd_T (Cond.fieldLink "IntervalRouting" 37 "IntervalRouting" "survey" "LIntervalRouting$Survey;") := ⟨List.mem_of_getElem? (i := 282) (by decide +kernel), by decide +kernel⟩
theorem tw_283 : gd_T (Cond.fieldLink "IntervalRouting" 44 "IntervalRouting" "ways" "LIntervalRouting$Ways;") := ⟨List.mem_of_getElem? (i := 283) (by decide +kernel), by decide +kernel⟩
theorem tw_284 : gd_T (Cond.fieldLink "IntervalRouting" 48 "IntervalRouting" "speaking" "[Z") := ⟨List.mem_of_getElem? (i := 284) (by decide +kernel), by decide +kernel⟩
theorem tw_285 : gd_T (Cond.fieldLink "IntervalRouting" 52 "IntervalRouting" "isStored" "Z") := ⟨List.mem_of_getElem? (i := 285) (by decide +kernel), by decide +kernel⟩
theorem tw_286 : gd_T (Cond.laysFinal "IntervalRouting" "IntervalRouting" "settings" "[I") := ⟨List.mem_of_getElem? (i := 286) (by decide +kernel), by decide +kernel⟩
theorem tw_288 : gd_T (Cond.laysFinal "IntervalRouting" "IntervalRouting" "live" "LIntervalRouting$State;") := ⟨List.mem_of_getElem? (i := 288) (by decide +kernel), by decide +kernel⟩
theorem tw_290 : gd_T (Cond.laysFinal "IntervalRouting" "IntervalRouting" "stored" "LIntervalRouting$State;") := ⟨List.mem_of_getElem? (i := 290) (by decide +kernel), by decide +kernel⟩
theorem tw_292 : gd_T (Cond.laysFinal "IntervalRouting" "IntervalRouting" "trial" "LIntervalRouting$State;") := ⟨List.mem_of_getElem? (i := 292) (by decide +kernel), by decide +kernel⟩
theorem tw_294 : gd_T (Cond.laysFinal "IntervalRouting" "IntervalRouting" "survey" "LIntervalRouting$Survey;") := ⟨List.mem_of_getElem? (i := 294) (by decide +kernel), by decide +kernel⟩
theorem tw_296 : gd_T (Cond.laysFinal "IntervalRouting" "IntervalRouting" "ways" "LIntervalRouting$Ways;") := ⟨List.mem_of_getElem? (i := 296) (by decide +kernel), by decide +kernel⟩
theorem tw_298 : gd_T (Cond.laysFinal "IntervalRouting" "IntervalRouting" "speaking" "[Z") := ⟨List.mem_of_getElem? (i := 298) (by decide +kernel), by decide +kernel⟩
theorem tw_300 : gd_T (Cond.lays "IntervalRouting" "IntervalRouting" "isStored" "Z") := ⟨List.mem_of_getElem? (i := 300) (by decide +kernel), by decide +kernel⟩
theorem tw_303 : gd_T (Cond.arrayClass FieldType.boolean) := ⟨List.mem_of_getElem? (i := 303) (by decide +kernel), by decide +kernel⟩
theorem tw_304 : gd_T (Cond.methodLink "IntervalRoutingLaw" 13 ⟨"IntervalRouting", "reset", "(I)I"⟩) := ⟨List.mem_of_getElem? (i := 304) (by decide +kernel), by decide +kernel⟩
theorem tw_305 : gd_T (Cond.instanceMethod ⟨"IntervalRouting", "reset", "(I)I"⟩) := ⟨List.mem_of_getElem? (i := 305) (by decide +kernel), by decide +kernel⟩
theorem tw_306 : gd_T (Cond.selects "IntervalRouting" ⟨"IntervalRouting", "reset", "(I)I"⟩ ⟨"IntervalRouting", "reset", "(I)I"⟩) := ⟨List.mem_of_getElem? (i := 306) (by decide +kernel), by decide +kernel⟩
theorem tw_307 : gd_T (Cond.code ⟨"IntervalRouting", "reset", "(I)I"⟩ prog_1_method_2_code 3 (some FieldType.int)) := ⟨List.mem_of_getElem? (i := 307) (by decide +kernel), by decide +kernel⟩
theorem tw_308 : gd_T (Cond.methodLink "IntervalRoutingLaw" 18 ⟨"IntervalRouting", "addLink", "(IIII)I"⟩) := ⟨List.mem_of_getElem? (i := 308) (by decide +kernel), by decide +kernel⟩
theorem tw_309 : gd_T (Cond.instanceMethod ⟨"IntervalRouting", "addLink", "(IIII)I"⟩) := ⟨List.mem_of_getElem? (i := 309) (by decide +kernel), by decide +kernel⟩
theorem tw_310 : gd_T (Cond.selects "IntervalRouting" ⟨"IntervalRouting", "addLink", "(IIII)I"⟩ ⟨"IntervalRouting", "addLink", "(IIII)I"⟩) := ⟨List.mem_of_getElem? (i := 310) (by decide +kernel), by decide +kernel⟩
theorem tw_311 : gd_T (Cond.code ⟨"IntervalRouting", "addLink", "(IIII)I"⟩ prog_1_method_3_code 5 (some FieldType.int)) := ⟨List.mem_of_getElem? (i := 311) (by decide +kernel), by decide +kernel⟩
theorem tw_312 : gd_T (Cond.methodLink "IntervalRouting" 64 ⟨"IntervalRouting", "isPair", "(II)Z"⟩) := ⟨List.mem_of_getElem? (i := 312) (by decide +kernel), by decide +kernel⟩
theorem tw_314 : gd_T (Cond.instanceMethod ⟨"IntervalRouting", "isPair", "(II)Z"⟩) := ⟨List.mem_of_getElem? (i := 314) (by decide +kernel), by decide +kernel⟩
theorem tw_315 : gd_T (Cond.code ⟨"IntervalRouting", "isPair", "(II)Z"⟩ prog_1_method_29_code 3 (some FieldType.boolean)) := ⟨List.mem_of_getElem? (i := 315) (by decide +kernel), by decide +kernel⟩
theorem tw_316 : gd_T (Cond.methodLink "IntervalRouting" 171 ⟨"IntervalRouting", "isNode", "(I)Z"⟩) := ⟨List.mem_of_getElem? (i := 316) (by decide +kernel), by decide +kernel⟩
theorem tw_318 : gd_T (Cond.instanceMethod ⟨"IntervalRouting", "isNode", "(I)Z"⟩) := ⟨List.mem_of_getElem? (i := 318) (by decide +kernel), by decide +kernel⟩
theorem tw_319 : gd_T (Cond.code ⟨"IntervalRouting", "isNode", "(I)Z"⟩ prog_1_method_28_code 2 (some FieldType.boolean)) := ⟨List.mem_of_getElem? (i := 319) (by decide +kernel), by decide +kernel⟩
theorem tw_320 : gd_T (Cond.methodLink "IntervalRouting" 72 ⟨"IntervalRouting$Links", "joins", "(II)Z"⟩) := ⟨List.mem_of_getElem? (i := 320) (by decide +kernel), by decide +kernel⟩
theorem tw_321 : gd_T (Cond.instanceMethod ⟨"IntervalRouting$Links", "joins", "(II)Z"⟩) := ⟨List.mem_of_getElem? (i := 321) (by decide +kernel), by decide +kernel⟩
theorem tw_322 : gd_T (Cond.selects "IntervalRouting$Links" ⟨"IntervalRouting$Links", "joins", "(II)Z"⟩ ⟨"IntervalRouting$Links", "joins", "(II)Z"⟩) := ⟨List.mem_of_getElem? (i := 322) (by decide +kernel), by decide +kernel⟩
theorem tw_323 : gd_T (Cond.code ⟨"IntervalRouting$Links", "joins", "(II)Z"⟩ prog_3_method_2_code 3 (some FieldType.boolean)) := ⟨List.mem_of_getElem? (i := 323) (by decide +kernel), by decide +kernel⟩
theorem tw_325 : gd_T (Cond.static ⟨"IntervalRouting", "pair", "(II)I"⟩) := ⟨List.mem_of_getElem? (i := 325) (by decide +kernel), by decide +kernel⟩
theorem tw_326 : gd_T (Cond.code ⟨"IntervalRouting", "pair", "(II)I"⟩ prog_1_method_33_code 2 (some FieldType.int)) := ⟨List.mem_of_getElem? (i := 326) (by decide +kernel), by decide +kernel⟩
theorem tw_327 : gd_T (Cond.methodLink "IntervalRouting" 80 ⟨"IntervalRouting$Links", "insert", "(IIII)V"⟩) := ⟨List.mem_of_getElem? (i := 327) (by decide +kernel), by decide +kernel⟩
theorem tw_328 : gd_T (Cond.instanceMethod ⟨"IntervalRouting$Links", "insert", "(IIII)V"⟩) := ⟨List.mem_of_getElem? (i := 328) (by decide +kernel), by decide +kernel⟩
theorem tw_329 : gd_T (Cond.selects "IntervalRouting$Links" ⟨"IntervalRouting$Links", "insert", "(IIII)V"⟩ ⟨"IntervalRouting$Links", "insert", "(IIII)V"⟩) := ⟨List.mem_of_getElem? (i := 329) (by decide +kernel), by decide +kernel⟩
theorem tw_330 : gd_T (Cond.code ⟨"IntervalRouting$Links", "insert", "(IIII)V"⟩ prog_3_method_4_code 5 (Option.none : Option Jvm.ClassFile.FieldType)) := ⟨List.mem_of_getElem? (i := 330) (by decide +kernel), by decide +kernel⟩
theorem tw_331 : gd_T (Cond.methodLink "IntervalRouting$Links" 28 ⟨"IntervalRouting$Links", "putBounds", "(IIII)V"⟩) := ⟨List.mem_of_getElem? (i := 331) (by decide +kernel), by decide +kernel⟩
theorem tw_332 : gd_T (Cond.instanceMethod ⟨"IntervalRouting$Links", "putBounds", "(IIII)V"⟩) := ⟨List.mem_of_getElem? (i := 332) (by decide +kernel), by decide +kernel⟩
theorem tw_333 : gd_T (Cond.selects "IntervalRouting$Links" ⟨"IntervalRouting$Links", "putBounds", "(IIII)V"⟩ ⟨"IntervalRouting$Links", "putBounds", "(IIII)V"⟩) := ⟨List.mem_of_getElem? (i := 333) (by decide +kernel), by decide +kernel⟩
theorem tw_334 : gd_T (Cond.code ⟨"IntervalRouting$Links", "putBounds", "(IIII)V"⟩ prog_3_method_6_code 5 (Option.none : Option Jvm.ClassFile.FieldType)) := ⟨List.mem_of_getElem? (i := 334) (by decide +kernel), by decide +kernel⟩
theorem tw_335 : gd_T (Cond.methodLink "IntervalRouting$Links" 32 ⟨"IntervalRouting$Links", "putCost", "(III)V"⟩) := ⟨List.mem_of_getElem? (i := 335) (by decide +kernel), by decide +kernel⟩
theorem tw_336 : gd_T (Cond.instanceMethod ⟨"IntervalRouting$Links", "putCost", "(III)V"⟩) := ⟨List.mem_of_getElem? (i := 336) (by decide +kernel), by decide +kernel⟩
theorem tw_337 : gd_T (Cond.selects "IntervalRouting$Links" ⟨"IntervalRouting$Links", "putCost", "(III)V"⟩ ⟨"IntervalRouting$Links", "putCost", "(III)V"⟩) := ⟨List.mem_of_getElem? (i := 337) (by decide +kernel), by decide +kernel⟩
theorem tw_338 : gd_T (Cond.code ⟨"IntervalRouting$Links", "putCost", "(III)V"⟩ prog_3_method_7_code 4 (Option.none : Option Jvm.ClassFile.FieldType)) := ⟨List.mem_of_getElem? (i := 338) (by decide +kernel), by decide +kernel⟩
theorem tw_339 : gd_T (Cond.methodLink "IntervalRouting$Links" 36 ⟨"IntervalRouting$Links", "putUp", "(III)V"⟩) := ⟨List.mem_of_getElem? (i := 339) (by decide +kernel), by decide +kernel⟩
theorem tw_340 : gd_T (Cond.instanceMethod ⟨"IntervalRouting$Links", "putUp", "(III)V"⟩) := ⟨List.mem_of_getElem? (i := 340) (by decide +kernel), by decide +kernel⟩
theorem tw_341 : gd_T (Cond.selects "IntervalRouting$Links" ⟨"IntervalRouting$Links", "putUp", "(III)V"⟩ ⟨"IntervalRouting$Links", "putUp", "(III)V"⟩) := ⟨List.mem_of_getElem? (i := 341) (by decide +kernel), by decide +kernel⟩
theorem tw_342 : gd_T (Cond.code ⟨"IntervalRouting$Links", "putUp", "(III)V"⟩ prog_3_method_8_code 4 (Option.none : Option Jvm.ClassFile.FieldType)) := ⟨List.mem_of_getElem? (i := 342) (by decide +kernel), by decide +kernel⟩
theorem tw_343 : gd_T (Cond.methodLink "IntervalRoutingLaw" 23 ⟨"IntervalRouting", "removeLink", "(II)I"⟩) := ⟨List.mem_of_getElem? (i := 343) (by decide +kernel), by decide +kernel⟩
theorem tw_344 : gd_T (Cond.instanceMethod ⟨"IntervalRouting", "removeLink", "(II)I"⟩) := ⟨List.mem_of_getElem? (i := 344) (by decide +kernel), by decide +kernel⟩
theorem tw_345 : gd_T (Cond.selects "IntervalRouting" ⟨"IntervalRouting", "removeLink", "(II)I"⟩ ⟨"IntervalRouting", "removeLink", "(II)I"⟩) := ⟨List.mem_of_getElem? (i := 345) (by decide +kernel), by decide +kernel⟩
theorem tw_346 : gd_T (Cond.code ⟨"IntervalRouting", "removeLink", "(II)I"⟩ prog_1_method_4_code 3 (some FieldType.int)) := ⟨List.mem_of_getElem? (i := 346) (by decide +kernel), by decide +kernel⟩
theorem tw_347 : gd_T (Cond.methodLink "IntervalRouting" 84 ⟨"IntervalRouting$Links", "delete", "(II)V"⟩) := ⟨List.mem_of_getElem? (i := 347) (by decide +kernel), by decide +kernel⟩
theorem tw_348 : gd_T (Cond.instanceMethod ⟨"IntervalRouting$Links", "delete", "(II)V"⟩) := ⟨List.mem_of_getElem? (i := 348) (by decide +kernel), by decide +kernel⟩
theorem tw_349 : gd_T (Cond.selects "IntervalRouting$Links" ⟨"IntervalRouting$Links", "delete", "(II)V"⟩ ⟨"IntervalRouting$Links", "delete", "(II)V"⟩) := ⟨List.mem_of_getElem? (i := 349) (by decide +kernel), by decide +kernel⟩
theorem tw_350 : gd_T (Cond.code ⟨"IntervalRouting$Links", "delete", "(II)V"⟩ prog_3_method_5_code 3 (Option.none : Option Jvm.ClassFile.FieldType)) := ⟨List.mem_of_getElem? (i := 350) (by decide +kernel), by decide +kernel⟩
theorem tw_351 : gd_T (Cond.methodLink "IntervalRoutingLaw" 28 ⟨"IntervalRouting", "setCost", "(III)I"⟩) := ⟨List.mem_of_getElem? (i := 351) (by decide +kernel), by decide +kernel⟩
theorem tw_352 : gd_T (Cond.instanceMethod ⟨"IntervalRouting", "setCost", "(III)I"⟩) := ⟨List.mem_of_getElem? (i := 352) (by decide +kernel), by decide +kernel⟩
theorem tw_353 : gd_T (Cond.selects "IntervalRouting" ⟨"IntervalRouting", "setCost", "(III)I"⟩ ⟨"IntervalRouting", "setCost", "(III)I"⟩) := ⟨List.mem_of_getElem? (i := 353) (by decide +kernel), by decide +kernel⟩
theorem tw_354 : gd_T (Cond.code ⟨"IntervalRouting", "setCost", "(III)I"⟩ prog_1_method_5_code 6 (some FieldType.int)) := ⟨List.mem_of_getElem? (i := 354) (by decide +kernel), by decide +kernel⟩
theorem tw_355 : gd_T (Cond.methodLink "IntervalRouting" 88 ⟨"IntervalRouting", "pair", "(II)I"⟩) := ⟨List.mem_of_getElem? (i := 355) (by decide +kernel), by decide +kernel⟩
theorem tw_356 : gd_T (Cond.methodLink "IntervalRouting" 101 ⟨"IntervalRouting$Links", "putCost", "(III)V"⟩) := ⟨List.mem_of_getElem? (i := 356) (by decide +kernel), by decide +kernel⟩
theorem tw_357 : gd_T (Cond.methodLink "IntervalRoutingLaw" 33 ⟨"IntervalRouting", "setUp", "(III)I"⟩) := ⟨List.mem_of_getElem? (i := 357) (by decide +kernel), by decide +kernel⟩
theorem tw_358 : gd_T (Cond.instanceMethod ⟨"IntervalRouting", "setUp", "(III)I"⟩) := ⟨List.mem_of_getElem? (i := 358) (by decide +kernel), by decide +kernel⟩
theorem tw_359 : gd_T (Cond.selects "IntervalRouting" ⟨"IntervalRouting", "setUp", "(III)I"⟩ ⟨"IntervalRouting", "setUp", "(III)I"⟩) := ⟨List.mem_of_getElem? (i := 359) (by decide +kernel), by decide +kernel⟩
theorem tw_360 : gd_T (Cond.code ⟨"IntervalRouting", "setUp", "(III)I"⟩ prog_1_method_6_code 5 (some FieldType.int)) := ⟨List.mem_of_getElem? (i := 360) (by decide +kernel), by decide +kernel⟩
theorem tw_361 : gd_T (Cond.methodLink "IntervalRouting" 105 ⟨"IntervalRouting", "isBetween", "(III)Z"⟩) := ⟨List.mem_of_getElem? (i := 361) (by decide +kernel), by decide +kernel⟩
theorem tw_362 : gd_T (Cond.static ⟨"IntervalRouting", "isBetween", "(III)Z"⟩) := ⟨List.mem_of_getElem? (i := 362) (by decide +kernel), by decide +kernel⟩
theorem tw_363 : gd_T (Cond.code ⟨"IntervalRouting", "isBetween", "(III)Z"⟩ prog_1_method_30_code 3 (some FieldType.boolean)) := ⟨List.mem_of_getElem? (i := 363) (by decide +kernel), by decide +kernel⟩
theorem tw_364 : gd_T (Cond.methodLink "IntervalRouting" 112 ⟨"IntervalRouting$Links", "putUp", "(III)V"⟩) := ⟨List.mem_of_getElem? (i := 364) (by decide +kernel), by decide +kernel⟩
theorem tw_365 : gd_T (Cond.methodLink "IntervalRoutingLaw" 37 ⟨"IntervalRouting", "link", "(III)I"⟩) := ⟨List.mem_of_getElem? (i := 365) (by decide +kernel), by decide +kernel⟩
theorem tw_366 : gd_T (Cond.instanceMethod ⟨"IntervalRouting", "link", "(III)I"⟩) := ⟨List.mem_of_getElem? (i := 366) (by decide +kernel), by decide +kernel⟩
theorem tw_367 : gd_T (Cond.selects "IntervalRouting" ⟨"IntervalRouting", "link", "(III)I"⟩ ⟨"IntervalRouting", "link", "(III)I"⟩) := ⟨List.mem_of_getElem? (i := 367) (by decide +kernel), by decide +kernel⟩
theorem tw_368 : gd_T (Cond.code ⟨"IntervalRouting", "link", "(III)I"⟩ prog_1_method_7_code 5 (some FieldType.int)) := ⟨List.mem_of_getElem? (i := 368) (by decide +kernel), by decide +kernel⟩
theorem tw_369 : gd_T (Cond.methodLink "IntervalRoutingLaw" 41 ⟨"IntervalRouting", "set", "(II)I"⟩) := ⟨List.mem_of_getElem? (i := 369) (by decide +kernel), by decide +kernel⟩
theorem tw_370 : gd_T (Cond.instanceMethod ⟨"IntervalRouting", "set", "(II)I"⟩) := ⟨List.mem_of_getElem? (i := 370) (by decide +kernel), by decide +kernel⟩
theorem tw_371 : gd_T (Cond.selects "IntervalRouting" ⟨"IntervalRouting", "set", "(II)I"⟩ ⟨"IntervalRouting", "set", "(II)I"⟩) := ⟨List.mem_of_getElem? (i := 371) (by decide +kernel), by decide +kernel⟩
theorem tw_372 : gd_T (Cond.code ⟨"IntervalRouting", "set", "(II)I"⟩ prog_1_method_8_code 4 (some FieldType.int)) := ⟨List.mem_of_getElem? (i := 372) (by decide +kernel), by decide +kernel⟩
theorem tw_373 : gd_T (Cond.methodLink "IntervalRouting" 115 ⟨"IntervalRouting", "isSetting", "(I)Z"⟩) := ⟨List.mem_of_getElem? (i := 373) (by decide +kernel), by decide +kernel⟩
theorem tw_374 : gd_T (Cond.static ⟨"IntervalRouting", "isSetting", "(I)Z"⟩) := ⟨List.mem_of_getElem? (i := 374) (by decide +kernel), by decide +kernel⟩
theorem tw_375 : gd_T (Cond.code ⟨"IntervalRouting", "isSetting", "(I)Z"⟩ prog_1_method_31_code 1 (some FieldType.boolean)) := ⟨List.mem_of_getElem? (i := 375) (by decide +kernel), by decide +kernel⟩
theorem tw_376 : gd_T (Cond.fieldLink "IntervalRouting" 119 "IntervalRouting" "LEAST_SETTING" "[I") := ⟨List.mem_of_getElem? (i := 376) (by decide +kernel), by decide +kernel⟩
theorem tm_377 : Cond.laysStatic "IntervalRouting" "LEAST_SETTING" "[I" ∈ lw_tbl := List.mem_of_getElem? (i := 377) (by decide +kernel)
theorem tw_378 : gd_T (Cond.fieldLink "IntervalRouting" 122 "IntervalRouting" "MOST_SETTING" "[I") := ⟨List.mem_of_getElem? (i := 378) (by decide +kernel), by decide +kernel⟩
theorem tm_379 : Cond.laysStatic "IntervalRouting" "MOST_SETTING" "[I" ∈ lw_tbl := List.mem_of_getElem? (i := 379) (by decide +kernel)
theorem tw_380 : gd_T (Cond.methodLink "IntervalRoutingLaw" 45 ⟨"IntervalRouting", "run", "(I)I"⟩) := ⟨List.mem_of_getElem? (i := 380) (by decide +kernel), by decide +kernel⟩
theorem tw_381 : gd_T (Cond.instanceMethod ⟨"IntervalRouting", "run", "(I)I"⟩) := ⟨List.mem_of_getElem? (i := 381) (by decide +kernel), by decide +kernel⟩
theorem tw_382 : gd_T (Cond.selects "IntervalRouting" ⟨"IntervalRouting", "run", "(I)I"⟩ ⟨"IntervalRouting", "run", "(I)I"⟩) := ⟨List.mem_of_getElem? (i := 382) (by decide +kernel), by decide +kernel⟩
theorem tw_383 : gd_T (Cond.code ⟨"IntervalRouting", "run", "(I)I"⟩ prog_1_method_9_code 3 (some FieldType.int)) := ⟨List.mem_of_getElem? (i := 383) (by decide +kernel), by decide +kernel⟩
theorem tw_384 : gd_T (Cond.constant "IntervalRouting" 128 (100000 : Int32)) := ⟨List.mem_of_getElem? (i := 384) (by decide +kernel), by decide +kernel⟩
theorem tw_385 : gd_T (Cond.methodLink "IntervalRouting" 129 ⟨"IntervalRouting", "makeTick", "(LIntervalRouting$State;)I"⟩) := ⟨List.mem_of_getElem? (i := 385) (by decide +kernel), by decide +kernel⟩
theorem tw_387 : gd_T (Cond.instanceMethod ⟨"IntervalRouting", "makeTick", "(LIntervalRouting$State;)I"⟩) := ⟨List.mem_of_getElem? (i := 387) (by decide +kernel), by decide +kernel⟩
theorem tw_388 : gd_T (Cond.code ⟨"IntervalRouting", "makeTick", "(LIntervalRouting$State;)I"⟩ prog_1_method_38_code 3 (some FieldType.int)) := ⟨List.mem_of_getElem? (i := 388) (by decide +kernel), by decide +kernel⟩
theorem tw_389 : gd_T (Cond.methodLink "IntervalRouting" 189 ⟨"IntervalRouting$Survey", "take", "(LIntervalRouting$State;[I)V"⟩) := ⟨List.mem_of_getElem? (i := 389) (by decide +kernel), by decide +kernel⟩
theorem tw_390 : gd_T (Cond.instanceMethod ⟨"IntervalRouting$Survey", "take", "(LIntervalRouting$State;[I)V"⟩) := ⟨List.mem_of_getElem? (i := 390) (by decide +kernel), by decide +kernel⟩
theorem tw_391 : gd_T (Cond.selects "IntervalRouting$Survey" ⟨"IntervalRouting$Survey", "take", "(LIntervalRouting$State;[I)V"⟩ ⟨"IntervalRouting$Survey", "take", "(LIntervalRouting$State;[I)V"⟩) := ⟨List.mem_of_getElem? (i := 391) (by decide +kernel), by decide +kernel⟩
theorem tw_392 : gd_T (Cond.code ⟨"IntervalRouting$Survey", "take", "(LIntervalRouting$State;[I)V"⟩ prog_5_method_3_code 5 (Option.none : Option Jvm.ClassFile.FieldType)) := ⟨List.mem_of_getElem? (i := 392) (by decide +kernel), by decide +kernel⟩
theorem tw_393 : gd_T (Cond.methodLink "IntervalRouting$Survey" 45 ⟨"IntervalRouting$Survey", "findNeighbours", "(LIntervalRouting$State;I)V"⟩) := ⟨List.mem_of_getElem? (i := 393) (by decide +kernel), by decide +kernel⟩
theorem tw_394 : gd_T (Cond.instanceMethod ⟨"IntervalRouting$Survey", "findNeighbours", "(LIntervalRouting$State;I)V"⟩) := ⟨List.mem_of_getElem? (i := 394) (by decide +kernel), by decide +kernel⟩
theorem tw_395 : gd_T (Cond.selects "IntervalRouting$Survey" ⟨"IntervalRouting$Survey", "findNeighbours", "(LIntervalRouting$State;I)V"⟩ ⟨"IntervalRouting$Survey", "findNeighbours", "(LIntervalRouting$State;I)V"⟩) := ⟨List.mem_of_getElem? (i := 395) (by decide +kernel), by decide +kernel⟩
theorem tw_396 : gd_T (Cond.code ⟨"IntervalRouting$Survey", "findNeighbours", "(LIntervalRouting$State;I)V"⟩ prog_5_method_5_code 4 (Option.none : Option Jvm.ClassFile.FieldType)) := ⟨List.mem_of_getElem? (i := 396) (by decide +kernel), by decide +kernel⟩
theorem tw_397 : gd_T (Cond.methodLink "IntervalRouting$Survey" 60 ⟨"IntervalRouting$Links", "isUp", "(II)Z"⟩) := ⟨List.mem_of_getElem? (i := 397) (by decide +kernel), by decide +kernel⟩
theorem tw_398 : gd_T (Cond.instanceMethod ⟨"IntervalRouting$Links", "isUp", "(II)Z"⟩) := ⟨List.mem_of_getElem? (i := 398) (by decide +kernel), by decide +kernel⟩
theorem tw_399 : gd_T (Cond.selects "IntervalRouting$Links" ⟨"IntervalRouting$Links", "isUp", "(II)Z"⟩ ⟨"IntervalRouting$Links", "isUp", "(II)Z"⟩) := ⟨List.mem_of_getElem? (i := 399) (by decide +kernel), by decide +kernel⟩
theorem tw_400 : gd_T (Cond.code ⟨"IntervalRouting$Links", "isUp", "(II)Z"⟩ prog_3_method_3_code 3 (some FieldType.boolean)) := ⟨List.mem_of_getElem? (i := 400) (by decide +kernel), by decide +kernel⟩
theorem tw_401 : gd_T (Cond.methodLink "IntervalRouting$Survey" 49 ⟨"IntervalRouting$Survey", "look", "(LIntervalRouting$State;[III)V"⟩) := ⟨List.mem_of_getElem? (i := 401) (by decide +kernel), by decide +kernel⟩
theorem tw_402 : gd_T (Cond.instanceMethod ⟨"IntervalRouting$Survey", "look", "(LIntervalRouting$State;[III)V"⟩) := ⟨List.mem_of_getElem? (i := 402) (by decide +kernel), by decide +kernel⟩
theorem tw_403 : gd_T (Cond.selects "IntervalRouting$Survey" ⟨"IntervalRouting$Survey", "look", "(LIntervalRouting$State;[III)V"⟩ ⟨"IntervalRouting$Survey", "look", "(LIntervalRouting$State;[III)V"⟩) := ⟨List.mem_of_getElem? (i := 403) (by decide +kernel), by decide +kernel⟩
theorem tw_404 : gd_T (Cond.code ⟨"IntervalRouting$Survey", "look", "(LIntervalRouting$State;[III)V"⟩ prog_5_method_6_code 6 (Option.none : Option Jvm.ClassFile.FieldType)) := ⟨List.mem_of_getElem? (i := 404) (by decide +kernel), by decide +kernel⟩
theorem tw_406 : gd_T (Cond.methodLink "IntervalRouting$Survey" 70 ⟨"IntervalRouting$Survey", "gather", "(LIntervalRouting$State;III)V"⟩) := ⟨List.mem_of_getElem? (i := 406) (by decide +kernel), by decide +kernel⟩
theorem tw_407 : gd_T (Cond.instanceMethod ⟨"IntervalRouting$Survey", "gather", "(LIntervalRouting$State;III)V"⟩) := ⟨List.mem_of_getElem? (i := 407) (by decide +kernel), by decide +kernel⟩
theorem tw_408 : gd_T (Cond.selects "IntervalRouting$Survey" ⟨"IntervalRouting$Survey", "gather", "(LIntervalRouting$State;III)V"⟩ ⟨"IntervalRouting$Survey", "gather", "(LIntervalRouting$State;III)V"⟩) := ⟨List.mem_of_getElem? (i := 408) (by decide +kernel), by decide +kernel⟩
theorem tw_409 : gd_T (Cond.code ⟨"IntervalRouting$Survey", "gather", "(LIntervalRouting$State;III)V"⟩ prog_5_method_7_code 7 (Option.none : Option Jvm.ClassFile.FieldType)) := ⟨List.mem_of_getElem? (i := 409) (by decide +kernel), by decide +kernel⟩
theorem tw_411 : gd_T (Cond.static ⟨"IntervalRouting", "slot", "(III)I"⟩) := ⟨List.mem_of_getElem? (i := 411) (by decide +kernel), by decide +kernel⟩
theorem tw_412 : gd_T (Cond.code ⟨"IntervalRouting", "slot", "(III)I"⟩ prog_1_method_34_code 3 (some FieldType.int)) := ⟨List.mem_of_getElem? (i := 412) (by decide +kernel), by decide +kernel⟩
theorem tw_413 : gd_T (Cond.methodLink "IntervalRouting$Survey" 100 ⟨"IntervalRouting$Tables", "isOpen", "(III)Z"⟩) := ⟨List.mem_of_getElem? (i := 413) (by decide +kernel), by decide +kernel⟩
theorem tw_414 : gd_T (Cond.instanceMethod ⟨"IntervalRouting$Tables", "isOpen", "(III)Z"⟩) := ⟨List.mem_of_getElem? (i := 414) (by decide +kernel), by decide +kernel⟩
theorem tw_415 : gd_T (Cond.selects "IntervalRouting$Tables" ⟨"IntervalRouting$Tables", "isOpen", "(III)Z"⟩ ⟨"IntervalRouting$Tables", "isOpen", "(III)Z"⟩) := ⟨List.mem_of_getElem? (i := 415) (by decide +kernel), by decide +kernel⟩
theorem tw_416 : gd_T (Cond.code ⟨"IntervalRouting$Tables", "isOpen", "(III)Z"⟩ prog_6_method_3_code 4 (some FieldType.boolean)) := ⟨List.mem_of_getElem? (i := 416) (by decide +kernel), by decide +kernel⟩
theorem tw_417 : gd_T (Cond.methodLink "IntervalRouting$Tables" 27 ⟨"IntervalRouting$Tables", "has", "(I)Z"⟩) := ⟨List.mem_of_getElem? (i := 417) (by decide +kernel), by decide +kernel⟩
theorem tw_418 : gd_T (Cond.instanceMethod ⟨"IntervalRouting$Tables", "has", "(I)Z"⟩) := ⟨List.mem_of_getElem? (i := 418) (by decide +kernel), by decide +kernel⟩
theorem tw_419 : gd_T (Cond.selects "IntervalRouting$Tables" ⟨"IntervalRouting$Tables", "has", "(I)Z"⟩ ⟨"IntervalRouting$Tables", "has", "(I)Z"⟩) := ⟨List.mem_of_getElem? (i := 419) (by decide +kernel), by decide +kernel⟩
theorem tw_420 : gd_T (Cond.code ⟨"IntervalRouting$Tables", "has", "(I)Z"⟩ prog_6_method_2_code 2 (some FieldType.boolean)) := ⟨List.mem_of_getElem? (i := 420) (by decide +kernel), by decide +kernel⟩
theorem tw_421 : gd_T (Cond.methodLink "IntervalRouting$Survey" 74 ⟨"IntervalRouting$Survey", "putDistance", "(IZ)V"⟩) := ⟨List.mem_of_getElem? (i := 421) (by decide +kernel), by decide +kernel⟩
theorem tw_422 : gd_T (Cond.instanceMethod ⟨"IntervalRouting$Survey", "putDistance", "(IZ)V"⟩) := ⟨List.mem_of_getElem? (i := 422) (by decide +kernel), by decide +kernel⟩
theorem tw_423 : gd_T (Cond.selects "IntervalRouting$Survey" ⟨"IntervalRouting$Survey", "putDistance", "(IZ)V"⟩ ⟨"IntervalRouting$Survey", "putDistance", "(IZ)V"⟩) := ⟨List.mem_of_getElem? (i := 423) (by decide +kernel), by decide +kernel⟩
theorem tw_424 : gd_T (Cond.code ⟨"IntervalRouting$Survey", "putDistance", "(IZ)V"⟩ prog_5_method_8_code 6 (Option.none : Option Jvm.ClassFile.FieldType)) := ⟨List.mem_of_getElem? (i := 424) (by decide +kernel), by decide +kernel⟩
theorem tw_425 : gd_T (Cond.methodLink "IntervalRouting$Survey" 108 ⟨"java/lang/Math", "min", "(II)I"⟩) := ⟨List.mem_of_getElem? (i := 425) (by decide +kernel), by decide +kernel⟩
theorem tw_426 : gd_T (Cond.static ⟨"java/lang/Math", "min", "(II)I"⟩) := ⟨List.mem_of_getElem? (i := 426) (by decide +kernel), by decide +kernel⟩
theorem tw_427 : gd_T (Cond.code ⟨"java/lang/Math", "min", "(II)I"⟩ prog_13_method_69_code 2 (some FieldType.int)) := ⟨List.mem_of_getElem? (i := 427) (by decide +kernel), by decide +kernel⟩
theorem tw_428 : gd_T (Cond.methodLink "IntervalRouting$Survey" 78 ⟨"IntervalRouting$Survey", "rankAll", "(I)V"⟩) := ⟨List.mem_of_getElem? (i := 428) (by decide +kernel), by decide +kernel⟩
theorem tw_429 : gd_T (Cond.instanceMethod ⟨"IntervalRouting$Survey", "rankAll", "(I)V"⟩) := ⟨List.mem_of_getElem? (i := 429) (by decide +kernel), by decide +kernel⟩
theorem tw_430 : gd_T (Cond.selects "IntervalRouting$Survey" ⟨"IntervalRouting$Survey", "rankAll", "(I)V"⟩ ⟨"IntervalRouting$Survey", "rankAll", "(I)V"⟩) := ⟨List.mem_of_getElem? (i := 430) (by decide +kernel), by decide +kernel⟩
theorem tw_431 : gd_T (Cond.code ⟨"IntervalRouting$Survey", "rankAll", "(I)V"⟩ prog_5_method_9_code 3 (Option.none : Option Jvm.ClassFile.FieldType)) := ⟨List.mem_of_getElem? (i := 431) (by decide +kernel), by decide +kernel⟩
theorem tw_432 : gd_T (Cond.methodLink "IntervalRouting$Survey" 113 ⟨"IntervalRouting$Survey", "regret", "(I)I"⟩) := ⟨List.mem_of_getElem? (i := 432) (by decide +kernel), by decide +kernel⟩
theorem tw_433 : gd_T (Cond.instanceMethod ⟨"IntervalRouting$Survey", "regret", "(I)I"⟩) := ⟨List.mem_of_getElem? (i := 433) (by decide +kernel), by decide +kernel⟩
theorem tw_434 : gd_T (Cond.selects "IntervalRouting$Survey" ⟨"IntervalRouting$Survey", "regret", "(I)I"⟩ ⟨"IntervalRouting$Survey", "regret", "(I)I"⟩) := ⟨List.mem_of_getElem? (i := 434) (by decide +kernel), by decide +kernel⟩
theorem tw_435 : gd_T (Cond.code ⟨"IntervalRouting$Survey", "regret", "(I)I"⟩ prog_5_method_12_code 4 (some FieldType.int)) := ⟨List.mem_of_getElem? (i := 435) (by decide +kernel), by decide +kernel⟩
theorem tw_436 : gd_T (Cond.methodLink "IntervalRouting$Survey" 120 ⟨"java/lang/Math", "max", "(II)I"⟩) := ⟨List.mem_of_getElem? (i := 436) (by decide +kernel), by decide +kernel⟩
theorem tw_437 : gd_T (Cond.static ⟨"java/lang/Math", "max", "(II)I"⟩) := ⟨List.mem_of_getElem? (i := 437) (by decide +kernel), by decide +kernel⟩
theorem tw_438 : gd_T (Cond.code ⟨"java/lang/Math", "max", "(II)I"⟩ prog_13_method_65_code 2 (some FieldType.int)) := ⟨List.mem_of_getElem? (i := 438) (by decide +kernel), by decide +kernel⟩
theorem tw_439 : gd_T (Cond.methodLink "IntervalRouting$Survey" 82 ⟨"IntervalRouting$Survey", "choose", "()I"⟩) := ⟨List.mem_of_getElem? (i := 439) (by decide +kernel), by decide +kernel⟩
theorem tw_440 : gd_T (Cond.instanceMethod ⟨"IntervalRouting$Survey", "choose", "()I"⟩) := ⟨List.mem_of_getElem? (i := 440) (by decide +kernel), by decide +kernel⟩
theorem tw_441 : gd_T (Cond.selects "IntervalRouting$Survey" ⟨"IntervalRouting$Survey", "choose", "()I"⟩ ⟨"IntervalRouting$Survey", "choose", "()I"⟩) := ⟨List.mem_of_getElem? (i := 441) (by decide +kernel), by decide +kernel⟩
theorem tw_442 : gd_T (Cond.code ⟨"IntervalRouting$Survey", "choose", "()I"⟩ prog_5_method_10_code 3 (some FieldType.int)) := ⟨List.mem_of_getElem? (i := 442) (by decide +kernel), by decide +kernel⟩
theorem tw_443 : gd_T (Cond.methodLink "IntervalRouting$Survey" 117 ⟨"IntervalRouting$Survey", "isBetter", "(II)Z"⟩) := ⟨List.mem_of_getElem? (i := 443) (by decide +kernel), by decide +kernel⟩
theorem tw_444 : gd_T (Cond.instanceMethod ⟨"IntervalRouting$Survey", "isBetter", "(II)Z"⟩) := ⟨List.mem_of_getElem? (i := 444) (by decide +kernel), by decide +kernel⟩
theorem tw_445 : gd_T (Cond.selects "IntervalRouting$Survey" ⟨"IntervalRouting$Survey", "isBetter", "(II)Z"⟩ ⟨"IntervalRouting$Survey", "isBetter", "(II)Z"⟩) := ⟨List.mem_of_getElem? (i := 445) (by decide +kernel), by decide +kernel⟩
theorem tw_446 : gd_T (Cond.code ⟨"IntervalRouting$Survey", "isBetter", "(II)Z"⟩ prog_5_method_11_code 3 (some FieldType.boolean)) := ⟨List.mem_of_getElem? (i := 446) (by decide +kernel), by decide +kernel⟩
theorem tw_447 : gd_T (Cond.methodLink "IntervalRouting" 242 ⟨"IntervalRouting", "chooseSpeakers", "(LIntervalRouting$State;)V"⟩) := ⟨List.mem_of_getElem? (i := 447) (by decide +kernel), by decide +kernel⟩
theorem tw_449 : gd_T (Cond.instanceMethod ⟨"IntervalRouting", "chooseSpeakers", "(LIntervalRouting$State;)V"⟩) := ⟨List.mem_of_getElem? (i := 449) (by decide +kernel), by decide +kernel⟩
theorem tw_450 : gd_T (Cond.code ⟨"IntervalRouting", "chooseSpeakers", "(LIntervalRouting$State;)V"⟩ prog_1_method_39_code 3 (Option.none : Option Jvm.ClassFile.FieldType)) := ⟨List.mem_of_getElem? (i := 450) (by decide +kernel), by decide +kernel⟩
theorem tw_451 : gd_T (Cond.methodLink "IntervalRouting" 252 ⟨"IntervalRouting", "isDue", "(LIntervalRouting$State;I)Z"⟩) := ⟨List.mem_of_getElem? (i := 451) (by decide +kernel), by decide +kernel⟩
theorem tw_453 : gd_T (Cond.instanceMethod ⟨"IntervalRouting", "isDue", "(LIntervalRouting$State;I)Z"⟩) := ⟨List.mem_of_getElem? (i := 453) (by decide +kernel), by decide +kernel⟩
theorem tw_454 : gd_T (Cond.code ⟨"IntervalRouting", "isDue", "(LIntervalRouting$State;I)Z"⟩ prog_1_method_40_code 4 (some FieldType.boolean)) := ⟨List.mem_of_getElem? (i := 454) (by decide +kernel), by decide +kernel⟩
theorem tw_455 : gd_T (Cond.methodLink "IntervalRouting" 260 ⟨"IntervalRouting$Vectors", "differs", "(IILIntervalRouting$Survey;)Z"⟩) := ⟨List.mem_of_getElem? (i := 455) (by decide +kernel), by decide +kernel⟩
theorem tw_456 : gd_T (Cond.instanceMethod ⟨"IntervalRouting$Vectors", "differs", "(IILIntervalRouting$Survey;)Z"⟩) := ⟨List.mem_of_getElem? (i := 456) (by decide +kernel), by decide +kernel⟩
theorem tw_457 : gd_T (Cond.selects "IntervalRouting$Vectors" ⟨"IntervalRouting$Vectors", "differs", "(IILIntervalRouting$Survey;)Z"⟩ ⟨"IntervalRouting$Vectors", "differs", "(IILIntervalRouting$Survey;)Z"⟩) := ⟨List.mem_of_getElem? (i := 457) (by decide +kernel), by decide +kernel⟩
theorem tw_458 : gd_T (Cond.code ⟨"IntervalRouting$Vectors", "differs", "(IILIntervalRouting$Survey;)Z"⟩ prog_7_method_2_code 6 (some FieldType.boolean)) := ⟨List.mem_of_getElem? (i := 458) (by decide +kernel), by decide +kernel⟩
theorem tw_460 : gd_T (Cond.methodLink "IntervalRouting" 266 ⟨"IntervalRouting$Vectors", "keep", "(IILIntervalRouting$Survey;)V"⟩) := ⟨List.mem_of_getElem? (i := 460) (by decide +kernel), by decide +kernel⟩
theorem tw_461 : gd_T (Cond.instanceMethod ⟨"IntervalRouting$Vectors", "keep", "(IILIntervalRouting$Survey;)V"⟩) := ⟨List.mem_of_getElem? (i := 461) (by decide +kernel), by decide +kernel⟩
theorem tw_462 : gd_T (Cond.selects "IntervalRouting$Vectors" ⟨"IntervalRouting$Vectors", "keep", "(IILIntervalRouting$Survey;)V"⟩ ⟨"IntervalRouting$Vectors", "keep", "(IILIntervalRouting$Survey;)V"⟩) := ⟨List.mem_of_getElem? (i := 462) (by decide +kernel), by decide +kernel⟩
theorem tw_463 : gd_T (Cond.code ⟨"IntervalRouting$Vectors", "keep", "(IILIntervalRouting$Survey;)V"⟩ prog_7_method_3_code 6 (Option.none : Option Jvm.ClassFile.FieldType)) := ⟨List.mem_of_getElem? (i := 463) (by decide +kernel), by decide +kernel⟩
theorem tw_464 : gd_T (Cond.methodLink "IntervalRouting" 245 ⟨"IntervalRouting", "speak", "(LIntervalRouting$State;I)V"⟩) := ⟨List.mem_of_getElem? (i := 464) (by decide +kernel), by decide +kernel⟩
theorem tw_466 : gd_T (Cond.instanceMethod ⟨"IntervalRouting", "speak", "(LIntervalRouting$State;I)V"⟩) := ⟨List.mem_of_getElem? (i := 466) (by decide +kernel), by decide +kernel⟩
theorem tw_467 : gd_T (Cond.code ⟨"IntervalRouting", "speak", "(LIntervalRouting$State;I)V"⟩ prog_1_method_41_code 5 (Option.none : Option Jvm.ClassFile.FieldType)) := ⟨List.mem_of_getElem? (i := 467) (by decide +kernel), by decide +kernel⟩
theorem tw_468 : gd_T (Cond.methodLink "IntervalRouting" 237 ⟨"IntervalRouting$Links", "isUp", "(II)Z"⟩) := ⟨List.mem_of_getElem? (i := 468) (by decide +kernel), by decide +kernel⟩
theorem tw_469 : gd_T (Cond.methodLink "IntervalRouting" 270 ⟨"IntervalRouting", "announce", "(LIntervalRouting$State;III)V"⟩) := ⟨List.mem_of_getElem? (i := 469) (by decide +kernel), by decide +kernel⟩
theorem tw_471 : gd_T (Cond.instanceMethod ⟨"IntervalRouting", "announce", "(LIntervalRouting$State;III)V"⟩) := ⟨List.mem_of_getElem? (i := 471) (by decide +kernel), by decide +kernel⟩
theorem tw_472 : gd_T (Cond.code ⟨"IntervalRouting", "announce", "(LIntervalRouting$State;III)V"⟩ prog_1_method_42_code 10 (Option.none : Option Jvm.ClassFile.FieldType)) := ⟨List.mem_of_getElem? (i := 472) (by decide +kernel), by decide +kernel⟩
theorem tw_473 : gd_T (Cond.methodLink "IntervalRouting" 178 ⟨"IntervalRouting$Survey", "reaches", "(I)Z"⟩) := ⟨List.mem_of_getElem? (i := 473) (by decide +kernel), by decide +kernel⟩
theorem tw_474 : gd_T (Cond.instanceMethod ⟨"IntervalRouting$Survey", "reaches", "(I)Z"⟩) := ⟨List.mem_of_getElem? (i := 474) (by decide +kernel), by decide +kernel⟩
theorem tw_475 : gd_T (Cond.selects "IntervalRouting$Survey" ⟨"IntervalRouting$Survey", "reaches", "(I)Z"⟩ ⟨"IntervalRouting$Survey", "reaches", "(I)Z"⟩) := ⟨List.mem_of_getElem? (i := 475) (by decide +kernel), by decide +kernel⟩
theorem tw_476 : gd_T (Cond.code ⟨"IntervalRouting$Survey", "reaches", "(I)Z"⟩ prog_5_method_2_code 2 (some FieldType.boolean)) := ⟨List.mem_of_getElem? (i := 476) (by decide +kernel), by decide +kernel⟩
theorem tw_477 : gd_T (Cond.methodLink "IntervalRouting" 274 ⟨"java/lang/Math", "min", "(II)I"⟩) := ⟨List.mem_of_getElem? (i := 477) (by decide +kernel), by decide +kernel⟩
theorem tw_478 : gd_T (Cond.methodLink "IntervalRouting" 136 ⟨"IntervalRouting", "slot", "(III)I"⟩) := ⟨List.mem_of_getElem? (i := 478) (by decide +kernel), by decide +kernel⟩
theorem tw_479 : gd_T (Cond.methodLink "IntervalRouting" 279 ⟨"IntervalRouting$Tables", "receive", "(IIII[I)V"⟩) := ⟨List.mem_of_getElem? (i := 479) (by decide +kernel), by decide +kernel⟩
theorem tw_480 : gd_T (Cond.instanceMethod ⟨"IntervalRouting$Tables", "receive", "(IIII[I)V"⟩) := ⟨List.mem_of_getElem? (i := 480) (by decide +kernel), by decide +kernel⟩
theorem tw_481 : gd_T (Cond.selects "IntervalRouting$Tables" ⟨"IntervalRouting$Tables", "receive", "(IIII[I)V"⟩ ⟨"IntervalRouting$Tables", "receive", "(IIII[I)V"⟩) := ⟨List.mem_of_getElem? (i := 481) (by decide +kernel), by decide +kernel⟩
theorem tw_482 : gd_T (Cond.code ⟨"IntervalRouting$Tables", "receive", "(IIII[I)V"⟩ prog_6_method_5_code 6 (Option.none : Option Jvm.ClassFile.FieldType)) := ⟨List.mem_of_getElem? (i := 482) (by decide +kernel), by decide +kernel⟩
theorem tw_483 : gd_T (Cond.methodLink "IntervalRouting$Tables" 31 ⟨"IntervalRouting$Tables", "countGrowth", "(II)V"⟩) := ⟨List.mem_of_getElem? (i := 483) (by decide +kernel), by decide +kernel⟩
theorem tw_484 : gd_T (Cond.instanceMethod ⟨"IntervalRouting$Tables", "countGrowth", "(II)V"⟩) := ⟨List.mem_of_getElem? (i := 484) (by decide +kernel), by decide +kernel⟩
theorem tw_485 : gd_T (Cond.selects "IntervalRouting$Tables" ⟨"IntervalRouting$Tables", "countGrowth", "(II)V"⟩ ⟨"IntervalRouting$Tables", "countGrowth", "(II)V"⟩) := ⟨List.mem_of_getElem? (i := 485) (by decide +kernel), by decide +kernel⟩
theorem tw_486 : gd_T (Cond.code ⟨"IntervalRouting$Tables", "countGrowth", "(II)V"⟩ prog_6_method_6_code 3 (Option.none : Option Jvm.ClassFile.FieldType)) := ⟨List.mem_of_getElem? (i := 486) (by decide +kernel), by decide +kernel⟩
theorem tw_487 : gd_T (Cond.methodLink "IntervalRouting" 249 ⟨"IntervalRouting", "noteChanges", "(LIntervalRouting$State;)I"⟩) := ⟨List.mem_of_getElem? (i := 487) (by decide +kernel), by decide +kernel⟩
theorem tw_489 : gd_T (Cond.instanceMethod ⟨"IntervalRouting", "noteChanges", "(LIntervalRouting$State;)I"⟩) := ⟨List.mem_of_getElem? (i := 489) (by decide +kernel), by decide +kernel⟩
theorem tw_490 : gd_T (Cond.code ⟨"IntervalRouting", "noteChanges", "(LIntervalRouting$State;)I"⟩ prog_1_method_43_code 7 (some FieldType.int)) := ⟨List.mem_of_getElem? (i := 490) (by decide +kernel), by decide +kernel⟩
theorem tw_491 : gd_T (Cond.methodLink "IntervalRouting" 286 ⟨"IntervalRouting$Journal", "add", "(IIII)V"⟩) := ⟨List.mem_of_getElem? (i := 491) (by decide +kernel), by decide +kernel⟩
theorem tw_492 : gd_T (Cond.instanceMethod ⟨"IntervalRouting$Journal", "add", "(IIII)V"⟩) := ⟨List.mem_of_getElem? (i := 492) (by decide +kernel), by decide +kernel⟩
theorem tw_493 : gd_T (Cond.selects "IntervalRouting$Journal" ⟨"IntervalRouting$Journal", "add", "(IIII)V"⟩ ⟨"IntervalRouting$Journal", "add", "(IIII)V"⟩) := ⟨List.mem_of_getElem? (i := 493) (by decide +kernel), by decide +kernel⟩
theorem tw_494 : gd_T (Cond.code ⟨"IntervalRouting$Journal", "add", "(IIII)V"⟩ prog_2_method_3_code 6 (Option.none : Option Jvm.ClassFile.FieldType)) := ⟨List.mem_of_getElem? (i := 494) (by decide +kernel), by decide +kernel⟩
theorem tw_495 : gd_T (Cond.methodLink "IntervalRoutingLaw" 49 ⟨"IntervalRouting", "time", "()I"⟩) := ⟨List.mem_of_getElem? (i := 495) (by decide +kernel), by decide +kernel⟩
theorem tw_496 : gd_T (Cond.instanceMethod ⟨"IntervalRouting", "time", "()I"⟩) := ⟨List.mem_of_getElem? (i := 496) (by decide +kernel), by decide +kernel⟩
theorem tw_497 : gd_T (Cond.selects "IntervalRouting" ⟨"IntervalRouting", "time", "()I"⟩ ⟨"IntervalRouting", "time", "()I"⟩) := ⟨List.mem_of_getElem? (i := 497) (by decide +kernel), by decide +kernel⟩
theorem tw_498 : gd_T (Cond.code ⟨"IntervalRouting", "time", "()I"⟩ prog_1_method_10_code 1 (some FieldType.int)) := ⟨List.mem_of_getElem? (i := 498) (by decide +kernel), by decide +kernel⟩
theorem tw_499 : gd_T (Cond.methodLink "IntervalRoutingLaw" 54 ⟨"IntervalRouting", "sent", "()I"⟩) := ⟨List.mem_of_getElem? (i := 499) (by decide +kernel), by decide +kernel⟩
theorem tw_500 : gd_T (Cond.instanceMethod ⟨"IntervalRouting", "sent", "()I"⟩) := ⟨List.mem_of_getElem? (i := 500) (by decide +kernel), by decide +kernel⟩
theorem tw_501 : gd_T (Cond.selects "IntervalRouting" ⟨"IntervalRouting", "sent", "()I"⟩ ⟨"IntervalRouting", "sent", "()I"⟩) := ⟨List.mem_of_getElem? (i := 501) (by decide +kernel), by decide +kernel⟩
theorem tw_502 : gd_T (Cond.code ⟨"IntervalRouting", "sent", "()I"⟩ prog_1_method_11_code 1 (some FieldType.int)) := ⟨List.mem_of_getElem? (i := 502) (by decide +kernel), by decide +kernel⟩
theorem tw_503 : gd_T (Cond.methodLink "IntervalRoutingLaw" 58 ⟨"IntervalRouting", "entry", "(IIII)I"⟩) := ⟨List.mem_of_getElem? (i := 503) (by decide +kernel), by decide +kernel⟩
theorem tw_504 : gd_T (Cond.instanceMethod ⟨"IntervalRouting", "entry", "(IIII)I"⟩) := ⟨List.mem_of_getElem? (i := 504) (by decide +kernel), by decide +kernel⟩
theorem tw_505 : gd_T (Cond.selects "IntervalRouting" ⟨"IntervalRouting", "entry", "(IIII)I"⟩ ⟨"IntervalRouting", "entry", "(IIII)I"⟩) := ⟨List.mem_of_getElem? (i := 505) (by decide +kernel), by decide +kernel⟩
theorem tw_506 : gd_T (Cond.code ⟨"IntervalRouting", "entry", "(IIII)I"⟩ prog_1_method_12_code 6 (some FieldType.int)) := ⟨List.mem_of_getElem? (i := 506) (by decide +kernel), by decide +kernel⟩
theorem tw_507 : gd_T (Cond.methodLink "IntervalRouting" 144 ⟨"IntervalRouting$Tables", "has", "(I)Z"⟩) := ⟨List.mem_of_getElem? (i := 507) (by decide +kernel), by decide +kernel⟩
theorem tw_508 : gd_T (Cond.methodLink "IntervalRouting" 160 ⟨"IntervalRouting$State", "isUsable", "(IIII)Z"⟩) := ⟨List.mem_of_getElem? (i := 508) (by decide +kernel), by decide +kernel⟩
theorem tw_509 : gd_T (Cond.instanceMethod ⟨"IntervalRouting$State", "isUsable", "(IIII)Z"⟩) := ⟨List.mem_of_getElem? (i := 509) (by decide +kernel), by decide +kernel⟩
theorem tw_510 : gd_T (Cond.selects "IntervalRouting$State" ⟨"IntervalRouting$State", "isUsable", "(IIII)Z"⟩ ⟨"IntervalRouting$State", "isUsable", "(IIII)Z"⟩) := ⟨List.mem_of_getElem? (i := 510) (by decide +kernel), by decide +kernel⟩
theorem tw_511 : gd_T (Cond.code ⟨"IntervalRouting$State", "isUsable", "(IIII)Z"⟩ prog_4_method_4_code 5 (some FieldType.boolean)) := ⟨List.mem_of_getElem? (i := 511) (by decide +kernel), by decide +kernel⟩
theorem tw_512 : gd_T (Cond.methodLink "IntervalRouting$State" 84 ⟨"IntervalRouting$Links", "isUp", "(II)Z"⟩) := ⟨List.mem_of_getElem? (i := 512) (by decide +kernel), by decide +kernel⟩
theorem tw_514 : gd_T (Cond.methodLink "IntervalRouting$State" 92 ⟨"IntervalRouting$Tables", "isOpen", "(III)Z"⟩) := ⟨List.mem_of_getElem? (i := 514) (by decide +kernel), by decide +kernel⟩
theorem tw_515 : gd_T (Cond.methodLink "IntervalRouting" 164 ⟨"IntervalRouting", "asNumber", "(Z)I"⟩) := ⟨List.mem_of_getElem? (i := 515) (by decide +kernel), by decide +kernel⟩
theorem tw_516 : gd_T (Cond.static ⟨"IntervalRouting", "asNumber", "(Z)I"⟩) := ⟨List.mem_of_getElem? (i := 516) (by decide +kernel), by decide +kernel⟩
theorem tw_517 : gd_T (Cond.code ⟨"IntervalRouting", "asNumber", "(Z)I"⟩ prog_1_method_32_code 1 (some FieldType.int)) := ⟨List.mem_of_getElem? (i := 517) (by decide +kernel), by decide +kernel⟩
theorem tw_518 : gd_T (Cond.methodLink "IntervalRouting" 168 ⟨"IntervalRouting$State", "isDominated", "(IIII)Z"⟩) := ⟨List.mem_of_getElem? (i := 518) (by decide +kernel), by decide +kernel⟩
theorem tw_519 : gd_T (Cond.instanceMethod ⟨"IntervalRouting$State", "isDominated", "(IIII)Z"⟩) := ⟨List.mem_of_getElem? (i := 519) (by decide +kernel), by decide +kernel⟩
theorem tw_520 : gd_T (Cond.selects "IntervalRouting$State" ⟨"IntervalRouting$State", "isDominated", "(IIII)Z"⟩ ⟨"IntervalRouting$State", "isDominated", "(IIII)Z"⟩) := ⟨List.mem_of_getElem? (i := 520) (by decide +kernel), by decide +kernel⟩
theorem tw_521 : gd_T (Cond.code ⟨"IntervalRouting$State", "isDominated", "(IIII)Z"⟩ prog_4_method_5_code 6 (some FieldType.boolean)) := ⟨List.mem_of_getElem? (i := 521) (by decide +kernel), by decide +kernel⟩
theorem tw_522 : gd_T (Cond.methodLink "IntervalRouting$State" 96 ⟨"IntervalRouting$State", "isUsable", "(IIII)Z"⟩) := ⟨List.mem_of_getElem? (i := 522) (by decide +kernel), by decide +kernel⟩
theorem tw_523 : gd_T (Cond.methodLink "IntervalRouting$State" 100 ⟨"IntervalRouting$Tables", "dominates", "(II)Z"⟩) := ⟨List.mem_of_getElem? (i := 523) (by decide +kernel), by decide +kernel⟩
theorem tw_524 : gd_T (Cond.instanceMethod ⟨"IntervalRouting$Tables", "dominates", "(II)Z"⟩) := ⟨List.mem_of_getElem? (i := 524) (by decide +kernel), by decide +kernel⟩
theorem tw_525 : gd_T (Cond.selects "IntervalRouting$Tables" ⟨"IntervalRouting$Tables", "dominates", "(II)Z"⟩ ⟨"IntervalRouting$Tables", "dominates", "(II)Z"⟩) := ⟨List.mem_of_getElem? (i := 525) (by decide +kernel), by decide +kernel⟩
theorem tw_526 : gd_T (Cond.code ⟨"IntervalRouting$Tables", "dominates", "(II)Z"⟩ prog_6_method_4_code 4 (some FieldType.boolean)) := ⟨List.mem_of_getElem? (i := 526) (by decide +kernel), by decide +kernel⟩
theorem tw_527 : gd_T (Cond.methodLink "IntervalRoutingLaw" 62 ⟨"IntervalRouting", "distance", "(III)I"⟩) := ⟨List.mem_of_getElem? (i := 527) (by decide +kernel), by decide +kernel⟩
theorem tw_528 : gd_T (Cond.instanceMethod ⟨"IntervalRouting", "distance", "(III)I"⟩) := ⟨List.mem_of_getElem? (i := 528) (by decide +kernel), by decide +kernel⟩
theorem tw_529 : gd_T (Cond.selects "IntervalRouting" ⟨"IntervalRouting", "distance", "(III)I"⟩ ⟨"IntervalRouting", "distance", "(III)I"⟩) := ⟨List.mem_of_getElem? (i := 529) (by decide +kernel), by decide +kernel⟩
theorem tw_530 : gd_T (Cond.code ⟨"IntervalRouting", "distance", "(III)I"⟩ prog_1_method_13_code 5 (some FieldType.int)) := ⟨List.mem_of_getElem? (i := 530) (by decide +kernel), by decide +kernel⟩
theorem tw_531 : gd_T (Cond.methodLink "IntervalRouting" 174 ⟨"IntervalRouting$Survey", "takeOne", "(LIntervalRouting$State;[III)V"⟩) := ⟨List.mem_of_getElem? (i := 531) (by decide +kernel), by decide +kernel⟩
theorem tw_532 : gd_T (Cond.instanceMethod ⟨"IntervalRouting$Survey", "takeOne", "(LIntervalRouting$State;[III)V"⟩) := ⟨List.mem_of_getElem? (i := 532) (by decide +kernel), by decide +kernel⟩
theorem tw_533 : gd_T (Cond.selects "IntervalRouting$Survey" ⟨"IntervalRouting$Survey", "takeOne", "(LIntervalRouting$State;[III)V"⟩ ⟨"IntervalRouting$Survey", "takeOne", "(LIntervalRouting$State;[III)V"⟩) := ⟨List.mem_of_getElem? (i := 533) (by decide +kernel), by decide +kernel⟩
theorem tw_534 : gd_T (Cond.code ⟨"IntervalRouting$Survey", "takeOne", "(LIntervalRouting$State;[III)V"⟩ prog_5_method_4_code 5 (Option.none : Option Jvm.ClassFile.FieldType)) := ⟨List.mem_of_getElem? (i := 534) (by decide +kernel), by decide +kernel⟩
theorem tw_535 : gd_T (Cond.methodLink "IntervalRoutingLaw" 66 ⟨"IntervalRouting", "choice", "(II)I"⟩) := ⟨List.mem_of_getElem? (i := 535) (by decide +kernel), by decide +kernel⟩
theorem tw_536 : gd_T (Cond.instanceMethod ⟨"IntervalRouting", "choice", "(II)I"⟩) := ⟨List.mem_of_getElem? (i := 536) (by decide +kernel), by decide +kernel⟩
theorem tw_537 : gd_T (Cond.selects "IntervalRouting" ⟨"IntervalRouting", "choice", "(II)I"⟩ ⟨"IntervalRouting", "choice", "(II)I"⟩) := ⟨List.mem_of_getElem? (i := 537) (by decide +kernel), by decide +kernel⟩
theorem tw_538 : gd_T (Cond.code ⟨"IntervalRouting", "choice", "(II)I"⟩ prog_1_method_14_code 4 (some FieldType.int)) := ⟨List.mem_of_getElem? (i := 538) (by decide +kernel), by decide +kernel⟩
theorem tw_539 : gd_T (Cond.methodLink "IntervalRoutingLaw" 70 ⟨"IntervalRouting", "entries", "(III)I"⟩) := ⟨List.mem_of_getElem? (i := 539) (by decide +kernel), by decide +kernel⟩
theorem tw_540 : gd_T (Cond.instanceMethod ⟨"IntervalRouting", "entries", "(III)I"⟩) := ⟨List.mem_of_getElem? (i := 540) (by decide +kernel), by decide +kernel⟩
theorem tw_541 : gd_T (Cond.selects "IntervalRouting" ⟨"IntervalRouting", "entries", "(III)I"⟩ ⟨"IntervalRouting", "entries", "(III)I"⟩) := ⟨List.mem_of_getElem? (i := 541) (by decide +kernel), by decide +kernel⟩
theorem tw_542 : gd_T (Cond.code ⟨"IntervalRouting", "entries", "(III)I"⟩ prog_1_method_15_code 6 (some FieldType.int)) := ⟨List.mem_of_getElem? (i := 542) (by decide +kernel), by decide +kernel⟩
theorem tw_543 : gd_T (Cond.methodLink "IntervalRouting" 186 ⟨"IntervalRouting", "counts", "(IIII)Z"⟩) := ⟨List.mem_of_getElem? (i := 543) (by decide +kernel), by decide +kernel⟩
theorem tw_545 : gd_T (Cond.instanceMethod ⟨"IntervalRouting", "counts", "(IIII)Z"⟩) := ⟨List.mem_of_getElem? (i := 545) (by decide +kernel), by decide +kernel⟩
theorem tw_546 : gd_T (Cond.code ⟨"IntervalRouting", "counts", "(IIII)Z"⟩ prog_1_method_35_code 6 (some FieldType.boolean)) := ⟨List.mem_of_getElem? (i := 546) (by decide +kernel), by decide +kernel⟩
theorem tw_547 : gd_T (Cond.methodLink "IntervalRoutingLaw" 74 ⟨"IntervalRouting", "meanWidthBits", "()I"⟩) := ⟨List.mem_of_getElem? (i := 547) (by decide +kernel), by decide +kernel⟩
theorem tw_548 : gd_T (Cond.instanceMethod ⟨"IntervalRouting", "meanWidthBits", "()I"⟩) := ⟨List.mem_of_getElem? (i := 548) (by decide +kernel), by decide +kernel⟩
theorem tw_549 : gd_T (Cond.selects "IntervalRouting" ⟨"IntervalRouting", "meanWidthBits", "()I"⟩ ⟨"IntervalRouting", "meanWidthBits", "()I"⟩) := ⟨List.mem_of_getElem? (i := 549) (by decide +kernel), by decide +kernel⟩
theorem tw_550 : gd_T (Cond.code ⟨"IntervalRouting", "meanWidthBits", "()I"⟩ prog_1_method_16_code 6 (some FieldType.int)) := ⟨List.mem_of_getElem? (i := 550) (by decide +kernel), by decide +kernel⟩
theorem tw_551 : gd_T (Cond.methodLink "IntervalRouting" 193 ⟨"IntervalRouting", "bitsOf", "(F)I"⟩) := ⟨List.mem_of_getElem? (i := 551) (by decide +kernel), by decide +kernel⟩
theorem tw_552 : gd_T (Cond.static ⟨"IntervalRouting", "bitsOf", "(F)I"⟩) := ⟨List.mem_of_getElem? (i := 552) (by decide +kernel), by decide +kernel⟩
theorem tw_553 : gd_T (Cond.code ⟨"IntervalRouting", "bitsOf", "(F)I"⟩ prog_1_method_37_code 4 (some FieldType.int)) := ⟨List.mem_of_getElem? (i := 553) (by decide +kernel), by decide +kernel⟩
theorem tw_554 : gd_T (Cond.constantFloat "IntervalRouting" 240 (1258291200 : UInt32)) := ⟨List.mem_of_getElem? (i := 554) (by decide +kernel), by decide +kernel⟩
theorem tw_555 : gd_T (Cond.constant "IntervalRouting" 241 (8388608 : Int32)) := ⟨List.mem_of_getElem? (i := 555) (by decide +kernel), by decide +kernel⟩
theorem tw_556 : gd_T (Cond.methodLink "IntervalRoutingLaw" 78 ⟨"IntervalRouting", "journalSize", "()I"⟩) := ⟨List.mem_of_getElem? (i := 556) (by decide +kernel), by decide +kernel⟩
theorem tw_557 : gd_T (Cond.instanceMethod ⟨"IntervalRouting", "journalSize", "()I"⟩) := ⟨List.mem_of_getElem? (i := 557) (by decide +kernel), by decide +kernel⟩
theorem tw_558 : gd_T (Cond.selects "IntervalRouting" ⟨"IntervalRouting", "journalSize", "()I"⟩ ⟨"IntervalRouting", "journalSize", "()I"⟩) := ⟨List.mem_of_getElem? (i := 558) (by decide +kernel), by decide +kernel⟩
theorem tw_559 : gd_T (Cond.code ⟨"IntervalRouting", "journalSize", "()I"⟩ prog_1_method_17_code 1 (some FieldType.int)) := ⟨List.mem_of_getElem? (i := 559) (by decide +kernel), by decide +kernel⟩
theorem tw_560 : gd_T (Cond.methodLink "IntervalRouting" 201 ⟨"IntervalRouting$Journal", "size", "()I"⟩) := ⟨List.mem_of_getElem? (i := 560) (by decide +kernel), by decide +kernel⟩
theorem tw_561 : gd_T (Cond.instanceMethod ⟨"IntervalRouting$Journal", "size", "()I"⟩) := ⟨List.mem_of_getElem? (i := 561) (by decide +kernel), by decide +kernel⟩
theorem tw_562 : gd_T (Cond.selects "IntervalRouting$Journal" ⟨"IntervalRouting$Journal", "size", "()I"⟩ ⟨"IntervalRouting$Journal", "size", "()I"⟩) := ⟨List.mem_of_getElem? (i := 562) (by decide +kernel), by decide +kernel⟩
theorem tw_563 : gd_T (Cond.code ⟨"IntervalRouting$Journal", "size", "()I"⟩ prog_2_method_2_code 1 (some FieldType.int)) := ⟨List.mem_of_getElem? (i := 563) (by decide +kernel), by decide +kernel⟩
theorem tw_564 : gd_T (Cond.methodLink "IntervalRouting$Journal" 19 ⟨"java/lang/Math", "min", "(II)I"⟩) := ⟨List.mem_of_getElem? (i := 564) (by decide +kernel), by decide +kernel⟩
theorem tw_565 : gd_T (Cond.methodLink "IntervalRoutingLaw" 82 ⟨"IntervalRouting", "journal", "(II)I"⟩) := ⟨List.mem_of_getElem? (i := 565) (by decide +kernel), by decide +kernel⟩
theorem tw_566 : gd_T (Cond.instanceMethod ⟨"IntervalRouting", "journal", "(II)I"⟩) := ⟨List.mem_of_getElem? (i := 566) (by decide +kernel), by decide +kernel⟩
theorem tw_567 : gd_T (Cond.selects "IntervalRouting" ⟨"IntervalRouting", "journal", "(II)I"⟩ ⟨"IntervalRouting", "journal", "(II)I"⟩) := ⟨List.mem_of_getElem? (i := 567) (by decide +kernel), by decide +kernel⟩
theorem tw_568 : gd_T (Cond.code ⟨"IntervalRouting", "journal", "(II)I"⟩ prog_1_method_18_code 3 (some FieldType.int)) := ⟨List.mem_of_getElem? (i := 568) (by decide +kernel), by decide +kernel⟩
theorem tw_569 : gd_T (Cond.methodLink "IntervalRouting" 207 ⟨"IntervalRouting$Journal", "value", "(II)I"⟩) := ⟨List.mem_of_getElem? (i := 569) (by decide +kernel), by decide +kernel⟩
theorem tw_570 : gd_T (Cond.instanceMethod ⟨"IntervalRouting$Journal", "value", "(II)I"⟩) := ⟨List.mem_of_getElem? (i := 570) (by decide +kernel), by decide +kernel⟩
theorem tw_571 : gd_T (Cond.selects "IntervalRouting$Journal" ⟨"IntervalRouting$Journal", "value", "(II)I"⟩ ⟨"IntervalRouting$Journal", "value", "(II)I"⟩) := ⟨List.mem_of_getElem? (i := 571) (by decide +kernel), by decide +kernel⟩
theorem tw_572 : gd_T (Cond.code ⟨"IntervalRouting$Journal", "value", "(II)I"⟩ prog_2_method_4_code 3 (some FieldType.int)) := ⟨List.mem_of_getElem? (i := 572) (by decide +kernel), by decide +kernel⟩
theorem tw_573 : gd_T (Cond.methodLink "IntervalRoutingLaw" 86 ⟨"IntervalRouting", "trueDistance", "(II)I"⟩) := ⟨List.mem_of_getElem? (i := 573) (by decide +kernel), by decide +kernel⟩
theorem tw_574 : gd_T (Cond.instanceMethod ⟨"IntervalRouting", "trueDistance", "(II)I"⟩) := ⟨List.mem_of_getElem? (i := 574) (by decide +kernel), by decide +kernel⟩
theorem tw_575 : gd_T (Cond.selects "IntervalRouting" ⟨"IntervalRouting", "trueDistance", "(II)I"⟩ ⟨"IntervalRouting", "trueDistance", "(II)I"⟩) := ⟨List.mem_of_getElem? (i := 575) (by decide +kernel), by decide +kernel⟩
theorem tw_576 : gd_T (Cond.code ⟨"IntervalRouting", "trueDistance", "(II)I"⟩ prog_1_method_19_code 4 (some FieldType.int)) := ⟨List.mem_of_getElem? (i := 576) (by decide +kernel), by decide +kernel⟩
theorem tw_577 : gd_T (Cond.methodLink "IntervalRouting" 210 ⟨"IntervalRouting$Ways", "measure", "(LIntervalRouting$Links;I)V"⟩) := ⟨List.mem_of_getElem? (i := 577) (by decide +kernel), by decide +kernel⟩
theorem tw_578 : gd_T (Cond.instanceMethod ⟨"IntervalRouting$Ways", "measure", "(LIntervalRouting$Links;I)V"⟩) := ⟨List.mem_of_getElem? (i := 578) (by decide +kernel), by decide +kernel⟩
theorem tw_579 : gd_T (Cond.selects "IntervalRouting$Ways" ⟨"IntervalRouting$Ways", "measure", "(LIntervalRouting$Links;I)V"⟩ ⟨"IntervalRouting$Ways", "measure", "(LIntervalRouting$Links;I)V"⟩) := ⟨List.mem_of_getElem? (i := 579) (by decide +kernel), by decide +kernel⟩
theorem tw_580 : gd_T (Cond.code ⟨"IntervalRouting$Ways", "measure", "(LIntervalRouting$Links;I)V"⟩ prog_8_method_3_code 7 (Option.none : Option Jvm.ClassFile.FieldType)) := ⟨List.mem_of_getElem? (i := 580) (by decide +kernel), by decide +kernel⟩
theorem tw_582 : gd_T (Cond.methodLink "IntervalRouting$Ways" 20 ⟨"IntervalRouting$Links", "isUp", "(II)Z"⟩) := ⟨List.mem_of_getElem? (i := 582) (by decide +kernel), by decide +kernel⟩
theorem tw_583 : gd_T (Cond.constant "IntervalRouting$Ways" 15 (1000000 : Int32)) := ⟨List.mem_of_getElem? (i := 583) (by decide +kernel), by decide +kernel⟩
theorem tw_584 : gd_T (Cond.methodLink "IntervalRouting$Ways" 29 ⟨"IntervalRouting$Ways", "shorten", "(II)V"⟩) := ⟨List.mem_of_getElem? (i := 584) (by decide +kernel), by decide +kernel⟩
theorem tw_585 : gd_T (Cond.instanceMethod ⟨"IntervalRouting$Ways", "shorten", "(II)V"⟩) := ⟨List.mem_of_getElem? (i := 585) (by decide +kernel), by decide +kernel⟩
theorem tw_586 : gd_T (Cond.selects "IntervalRouting$Ways" ⟨"IntervalRouting$Ways", "shorten", "(II)V"⟩ ⟨"IntervalRouting$Ways", "shorten", "(II)V"⟩) := ⟨List.mem_of_getElem? (i := 586) (by decide +kernel), by decide +kernel⟩
theorem tw_587 : gd_T (Cond.code ⟨"IntervalRouting$Ways", "shorten", "(II)V"⟩ prog_8_method_4_code 6 (Option.none : Option Jvm.ClassFile.FieldType)) := ⟨List.mem_of_getElem? (i := 587) (by decide +kernel), by decide +kernel⟩
theorem tw_588 : gd_T (Cond.methodLink "IntervalRouting$Ways" 33 ⟨"java/lang/Math", "min", "(II)I"⟩) := ⟨List.mem_of_getElem? (i := 588) (by decide +kernel), by decide +kernel⟩
theorem tw_589 : gd_T (Cond.methodLink "IntervalRouting" 214 ⟨"IntervalRouting$Ways", "exists", "(I)Z"⟩) := ⟨List.mem_of_getElem? (i := 589) (by decide +kernel), by decide +kernel⟩
theorem tw_590 : gd_T (Cond.instanceMethod ⟨"IntervalRouting$Ways", "exists", "(I)Z"⟩) := ⟨List.mem_of_getElem? (i := 590) (by decide +kernel), by decide +kernel⟩
theorem tw_591 : gd_T (Cond.selects "IntervalRouting$Ways" ⟨"IntervalRouting$Ways", "exists", "(I)Z"⟩ ⟨"IntervalRouting$Ways", "exists", "(I)Z"⟩) := ⟨List.mem_of_getElem? (i := 591) (by decide +kernel), by decide +kernel⟩
theorem tw_592 : gd_T (Cond.code ⟨"IntervalRouting$Ways", "exists", "(I)Z"⟩ prog_8_method_2_code 2 (some FieldType.boolean)) := ⟨List.mem_of_getElem? (i := 592) (by decide +kernel), by decide +kernel⟩
theorem tw_593 : gd_T (Cond.methodLink "IntervalRoutingLaw" 90 ⟨"IntervalRouting", "wrongPairs", "()I"⟩) := ⟨List.mem_of_getElem? (i := 593) (by decide +kernel), by decide +kernel⟩
theorem tw_594 : gd_T (Cond.instanceMethod ⟨"IntervalRouting", "wrongPairs", "()I"⟩) := ⟨List.mem_of_getElem? (i := 594) (by decide +kernel), by decide +kernel⟩
theorem tw_595 : gd_T (Cond.selects "IntervalRouting" ⟨"IntervalRouting", "wrongPairs", "()I"⟩ ⟨"IntervalRouting", "wrongPairs", "()I"⟩) := ⟨List.mem_of_getElem? (i := 595) (by decide +kernel), by decide +kernel⟩
theorem tw_596 : gd_T (Cond.code ⟨"IntervalRouting", "wrongPairs", "()I"⟩ prog_1_method_20_code 4 (some FieldType.int)) := ⟨List.mem_of_getElem? (i := 596) (by decide +kernel), by decide +kernel⟩
theorem tw_597 : gd_T (Cond.methodLink "IntervalRouting" 220 ⟨"IntervalRouting", "isWrong", "(I)Z"⟩) := ⟨List.mem_of_getElem? (i := 597) (by decide +kernel), by decide +kernel⟩
theorem tw_599 : gd_T (Cond.instanceMethod ⟨"IntervalRouting", "isWrong", "(I)Z"⟩) := ⟨List.mem_of_getElem? (i := 599) (by decide +kernel), by decide +kernel⟩
theorem tw_600 : gd_T (Cond.code ⟨"IntervalRouting", "isWrong", "(I)Z"⟩ prog_1_method_36_code 2 (some FieldType.boolean)) := ⟨List.mem_of_getElem? (i := 600) (by decide +kernel), by decide +kernel⟩
theorem tw_601 : gd_T (Cond.methodLink "IntervalRoutingLaw" 94 ⟨"IntervalRouting", "follow", "(II)I"⟩) := ⟨List.mem_of_getElem? (i := 601) (by decide +kernel), by decide +kernel⟩
theorem tw_602 : gd_T (Cond.instanceMethod ⟨"IntervalRouting", "follow", "(II)I"⟩) := ⟨List.mem_of_getElem? (i := 602) (by decide +kernel), by decide +kernel⟩
theorem tw_603 : gd_T (Cond.selects "IntervalRouting" ⟨"IntervalRouting", "follow", "(II)I"⟩ ⟨"IntervalRouting", "follow", "(II)I"⟩) := ⟨List.mem_of_getElem? (i := 603) (by decide +kernel), by decide +kernel⟩
theorem tw_604 : gd_T (Cond.code ⟨"IntervalRouting", "follow", "(II)I"⟩ prog_1_method_21_code 3 (some FieldType.int)) := ⟨List.mem_of_getElem? (i := 604) (by decide +kernel), by decide +kernel⟩
theorem tw_605 : gd_T (Cond.methodLink "IntervalRouting" 223 ⟨"IntervalRouting$Survey", "walk", "(II)I"⟩) := ⟨List.mem_of_getElem? (i := 605) (by decide +kernel), by decide +kernel⟩
theorem tw_606 : gd_T (Cond.instanceMethod ⟨"IntervalRouting$Survey", "walk", "(II)I"⟩) := ⟨List.mem_of_getElem? (i := 606) (by decide +kernel), by decide +kernel⟩
theorem tw_607 : gd_T (Cond.selects "IntervalRouting$Survey" ⟨"IntervalRouting$Survey", "walk", "(II)I"⟩ ⟨"IntervalRouting$Survey", "walk", "(II)I"⟩) := ⟨List.mem_of_getElem? (i := 607) (by decide +kernel), by decide +kernel⟩
theorem tw_608 : gd_T (Cond.code ⟨"IntervalRouting$Survey", "walk", "(II)I"⟩ prog_5_method_13_code 7 (some FieldType.int)) := ⟨List.mem_of_getElem? (i := 608) (by decide +kernel), by decide +kernel⟩
theorem tw_609 : gd_T (Cond.methodLink "IntervalRoutingLaw" 98 ⟨"IntervalRouting", "loops", "()I"⟩) := ⟨List.mem_of_getElem? (i := 609) (by decide +kernel), by decide +kernel⟩
theorem tw_610 : gd_T (Cond.instanceMethod ⟨"IntervalRouting", "loops", "()I"⟩) := ⟨List.mem_of_getElem? (i := 610) (by decide +kernel), by decide +kernel⟩
theorem tw_611 : gd_T (Cond.selects "IntervalRouting" ⟨"IntervalRouting", "loops", "()I"⟩ ⟨"IntervalRouting", "loops", "()I"⟩) := ⟨List.mem_of_getElem? (i := 611) (by decide +kernel), by decide +kernel⟩
theorem tw_612 : gd_T (Cond.code ⟨"IntervalRouting", "loops", "()I"⟩ prog_1_method_22_code 1 (some FieldType.int)) := ⟨List.mem_of_getElem? (i := 612) (by decide +kernel), by decide +kernel⟩
theorem tw_613 : gd_T (Cond.methodLink "IntervalRouting" 226 ⟨"IntervalRouting$Survey", "countLoops", "(I)I"⟩) := ⟨List.mem_of_getElem? (i := 613) (by decide +kernel), by decide +kernel⟩
theorem tw_614 : gd_T (Cond.instanceMethod ⟨"IntervalRouting$Survey", "countLoops", "(I)I"⟩) := ⟨List.mem_of_getElem? (i := 614) (by decide +kernel), by decide +kernel⟩
theorem tw_615 : gd_T (Cond.selects "IntervalRouting$Survey" ⟨"IntervalRouting$Survey", "countLoops", "(I)I"⟩ ⟨"IntervalRouting$Survey", "countLoops", "(I)I"⟩) := ⟨List.mem_of_getElem? (i := 615) (by decide +kernel), by decide +kernel⟩
theorem tw_616 : gd_T (Cond.code ⟨"IntervalRouting$Survey", "countLoops", "(I)I"⟩ prog_5_method_14_code 6 (some FieldType.int)) := ⟨List.mem_of_getElem? (i := 616) (by decide +kernel), by decide +kernel⟩
theorem tw_617 : gd_T (Cond.methodLink "IntervalRouting$Survey" 123 ⟨"IntervalRouting$Survey", "walk", "(II)I"⟩) := ⟨List.mem_of_getElem? (i := 617) (by decide +kernel), by decide +kernel⟩
theorem tw_618 : gd_T (Cond.methodLink "IntervalRoutingLaw" 102 ⟨"IntervalRouting", "settling", "()I"⟩) := ⟨List.mem_of_getElem? (i := 618) (by decide +kernel), by decide +kernel⟩
theorem tw_619 : gd_T (Cond.instanceMethod ⟨"IntervalRouting", "settling", "()I"⟩) := ⟨List.mem_of_getElem? (i := 619) (by decide +kernel), by decide +kernel⟩
theorem tw_620 : gd_T (Cond.selects "IntervalRouting" ⟨"IntervalRouting", "settling", "()I"⟩ ⟨"IntervalRouting", "settling", "()I"⟩) := ⟨List.mem_of_getElem? (i := 620) (by decide +kernel), by decide +kernel⟩
theorem tw_621 : gd_T (Cond.code ⟨"IntervalRouting", "settling", "()I"⟩ prog_1_method_23_code 4 (some FieldType.int)) := ⟨List.mem_of_getElem? (i := 621) (by decide +kernel), by decide +kernel⟩
theorem tw_622 : gd_T (Cond.methodLink "IntervalRouting" 230 ⟨"IntervalRouting$State", "copyFrom", "(LIntervalRouting$State;)V"⟩) := ⟨List.mem_of_getElem? (i := 622) (by decide +kernel), by decide +kernel⟩
theorem tw_623 : gd_T (Cond.instanceMethod ⟨"IntervalRouting$State", "copyFrom", "(LIntervalRouting$State;)V"⟩) := ⟨List.mem_of_getElem? (i := 623) (by decide +kernel), by decide +kernel⟩
theorem tw_624 : gd_T (Cond.selects "IntervalRouting$State" ⟨"IntervalRouting$State", "copyFrom", "(LIntervalRouting$State;)V"⟩ ⟨"IntervalRouting$State", "copyFrom", "(LIntervalRouting$State;)V"⟩) := ⟨List.mem_of_getElem? (i := 624) (by decide +kernel), by decide +kernel⟩
theorem tw_625 : gd_T (Cond.code ⟨"IntervalRouting$State", "copyFrom", "(LIntervalRouting$State;)V"⟩ prog_4_method_3_code 2 (Option.none : Option Jvm.ClassFile.FieldType)) := ⟨List.mem_of_getElem? (i := 625) (by decide +kernel), by decide +kernel⟩
theorem tw_626 : gd_T (Cond.methodLink "IntervalRouting$State" 65 ⟨"IntervalRouting$Links", "copyFrom", "(LIntervalRouting$Links;)V"⟩) := ⟨List.mem_of_getElem? (i := 626) (by decide +kernel), by decide +kernel⟩
theorem tw_627 : gd_T (Cond.instanceMethod ⟨"IntervalRouting$Links", "copyFrom", "(LIntervalRouting$Links;)V"⟩) := ⟨List.mem_of_getElem? (i := 627) (by decide +kernel), by decide +kernel⟩
theorem tw_628 : gd_T (Cond.selects "IntervalRouting$Links" ⟨"IntervalRouting$Links", "copyFrom", "(LIntervalRouting$Links;)V"⟩ ⟨"IntervalRouting$Links", "copyFrom", "(LIntervalRouting$Links;)V"⟩) := ⟨List.mem_of_getElem? (i := 628) (by decide +kernel), by decide +kernel⟩
theorem tw_629 : gd_T (Cond.code ⟨"IntervalRouting$Links", "copyFrom", "(LIntervalRouting$Links;)V"⟩ prog_3_method_10_code 2 (Option.none : Option Jvm.ClassFile.FieldType)) := ⟨List.mem_of_getElem? (i := 629) (by decide +kernel), by decide +kernel⟩
theorem tw_630 : gd_T (Cond.methodLink "IntervalRouting$Links" 49 ⟨"java/lang/System", "arraycopy", "(Ljava/lang/Object;ILjava/lang/Object;II)V"⟩) := ⟨List.mem_of_getElem? (i := 630) (by decide +kernel), by decide +kernel⟩
theorem tw_631 : gd_T (Cond.static ⟨"java/lang/System", "arraycopy", "(Ljava/lang/Object;ILjava/lang/Object;II)V"⟩) := ⟨List.mem_of_getElem? (i := 631) (by decide +kernel), by decide +kernel⟩
theorem tw_632 : gd_T (Cond.native ⟨"java/lang/System", "arraycopy", "(Ljava/lang/Object;ILjava/lang/Object;II)V"⟩) := ⟨List.mem_of_getElem? (i := 632) (by decide +kernel), by decide +kernel⟩
theorem tw_633 : gd_T (Cond.methodLink "IntervalRouting$State" 69 ⟨"IntervalRouting$Tables", "copyFrom", "(LIntervalRouting$Tables;)V"⟩) := ⟨List.mem_of_getElem? (i := 633) (by decide +kernel), by decide +kernel⟩
theorem tw_634 : gd_T (Cond.instanceMethod ⟨"IntervalRouting$Tables", "copyFrom", "(LIntervalRouting$Tables;)V"⟩) := ⟨List.mem_of_getElem? (i := 634) (by decide +kernel), by decide +kernel⟩
theorem tw_635 : gd_T (Cond.selects "IntervalRouting$Tables" ⟨"IntervalRouting$Tables", "copyFrom", "(LIntervalRouting$Tables;)V"⟩ ⟨"IntervalRouting$Tables", "copyFrom", "(LIntervalRouting$Tables;)V"⟩) := ⟨List.mem_of_getElem? (i := 635) (by decide +kernel), by decide +kernel⟩
theorem tw_636 : gd_T (Cond.code ⟨"IntervalRouting$Tables", "copyFrom", "(LIntervalRouting$Tables;)V"⟩ prog_6_method_8_code 2 (Option.none : Option Jvm.ClassFile.FieldType)) := ⟨List.mem_of_getElem? (i := 636) (by decide +kernel), by decide +kernel⟩
theorem tw_637 : gd_T (Cond.methodLink "IntervalRouting$Tables" 41 ⟨"java/lang/System", "arraycopy", "(Ljava/lang/Object;ILjava/lang/Object;II)V"⟩) := ⟨List.mem_of_getElem? (i := 637) (by decide +kernel), by decide +kernel⟩
theorem tw_638 : gd_T (Cond.methodLink "IntervalRouting$State" 72 ⟨"IntervalRouting$Vectors", "copyFrom", "(LIntervalRouting$Vectors;)V"⟩) := ⟨List.mem_of_getElem? (i := 638) (by decide +kernel), by decide +kernel⟩
theorem tw_639 : gd_T (Cond.instanceMethod ⟨"IntervalRouting$Vectors", "copyFrom", "(LIntervalRouting$Vectors;)V"⟩) := ⟨List.mem_of_getElem? (i := 639) (by decide +kernel), by decide +kernel⟩
theorem tw_640 : gd_T (Cond.selects "IntervalRouting$Vectors" ⟨"IntervalRouting$Vectors", "copyFrom", "(LIntervalRouting$Vectors;)V"⟩ ⟨"IntervalRouting$Vectors", "copyFrom", "(LIntervalRouting$Vectors;)V"⟩) := ⟨List.mem_of_getElem? (i := 640) (by decide +kernel), by decide +kernel⟩
theorem tw_641 : gd_T (Cond.code ⟨"IntervalRouting$Vectors", "copyFrom", "(LIntervalRouting$Vectors;)V"⟩ prog_7_method_5_code 2 (Option.none : Option Jvm.ClassFile.FieldType)) := ⟨List.mem_of_getElem? (i := 641) (by decide +kernel), by decide +kernel⟩
theorem tw_642 : gd_T (Cond.methodLink "IntervalRouting$Vectors" 32 ⟨"java/lang/System", "arraycopy", "(Ljava/lang/Object;ILjava/lang/Object;II)V"⟩) := ⟨List.mem_of_getElem? (i := 642) (by decide +kernel), by decide +kernel⟩
theorem tw_643 : gd_T (Cond.methodLink "IntervalRouting$State" 75 ⟨"IntervalRouting$Journal", "copyFrom", "(LIntervalRouting$Journal;)V"⟩) := ⟨List.mem_of_getElem? (i := 643) (by decide +kernel), by decide +kernel⟩
theorem tw_644 : gd_T (Cond.instanceMethod ⟨"IntervalRouting$Journal", "copyFrom", "(LIntervalRouting$Journal;)V"⟩) := ⟨List.mem_of_getElem? (i := 644) (by decide +kernel), by decide +kernel⟩
theorem tw_645 : gd_T (Cond.selects "IntervalRouting$Journal" ⟨"IntervalRouting$Journal", "copyFrom", "(LIntervalRouting$Journal;)V"⟩ ⟨"IntervalRouting$Journal", "copyFrom", "(LIntervalRouting$Journal;)V"⟩) := ⟨List.mem_of_getElem? (i := 645) (by decide +kernel), by decide +kernel⟩
theorem tw_646 : gd_T (Cond.code ⟨"IntervalRouting$Journal", "copyFrom", "(LIntervalRouting$Journal;)V"⟩ prog_2_method_6_code 2 (Option.none : Option Jvm.ClassFile.FieldType)) := ⟨List.mem_of_getElem? (i := 646) (by decide +kernel), by decide +kernel⟩
theorem tw_647 : gd_T (Cond.methodLink "IntervalRouting$Journal" 31 ⟨"java/lang/System", "arraycopy", "(Ljava/lang/Object;ILjava/lang/Object;II)V"⟩) := ⟨List.mem_of_getElem? (i := 647) (by decide +kernel), by decide +kernel⟩
theorem tw_648 : gd_T (Cond.methodLink "IntervalRouting$State" 78 ⟨"java/lang/System", "arraycopy", "(Ljava/lang/Object;ILjava/lang/Object;II)V"⟩) := ⟨List.mem_of_getElem? (i := 648) (by decide +kernel), by decide +kernel⟩
theorem tw_649 : gd_T (Cond.methodLink "IntervalRoutingLaw" 106 ⟨"IntervalRouting", "loss", "(II)I"⟩) := ⟨List.mem_of_getElem? (i := 649) (by decide +kernel), by decide +kernel⟩
theorem tw_650 : gd_T (Cond.instanceMethod ⟨"IntervalRouting", "loss", "(II)I"⟩) := ⟨List.mem_of_getElem? (i := 650) (by decide +kernel), by decide +kernel⟩
theorem tw_651 : gd_T (Cond.selects "IntervalRouting" ⟨"IntervalRouting", "loss", "(II)I"⟩ ⟨"IntervalRouting", "loss", "(II)I"⟩) := ⟨List.mem_of_getElem? (i := 651) (by decide +kernel), by decide +kernel⟩
theorem tw_652 : gd_T (Cond.code ⟨"IntervalRouting", "loss", "(II)I"⟩ prog_1_method_24_code 4 (some FieldType.int)) := ⟨List.mem_of_getElem? (i := 652) (by decide +kernel), by decide +kernel⟩
theorem tw_653 : gd_T (Cond.methodLink "IntervalRouting" 234 ⟨"IntervalRouting$Ways", "countPairs", "(I)I"⟩) := ⟨List.mem_of_getElem? (i := 653) (by decide +kernel), by decide +kernel⟩
theorem tw_654 : gd_T (Cond.instanceMethod ⟨"IntervalRouting$Ways", "countPairs", "(I)I"⟩) := ⟨List.mem_of_getElem? (i := 654) (by decide +kernel), by decide +kernel⟩
theorem tw_655 : gd_T (Cond.selects "IntervalRouting$Ways" ⟨"IntervalRouting$Ways", "countPairs", "(I)I"⟩ ⟨"IntervalRouting$Ways", "countPairs", "(I)I"⟩) := ⟨List.mem_of_getElem? (i := 655) (by decide +kernel), by decide +kernel⟩
theorem tw_656 : gd_T (Cond.code ⟨"IntervalRouting$Ways", "countPairs", "(I)I"⟩ prog_8_method_5_code 5 (some FieldType.int)) := ⟨List.mem_of_getElem? (i := 656) (by decide +kernel), by decide +kernel⟩
theorem tw_657 : gd_T (Cond.methodLink "IntervalRouting$Ways" 38 ⟨"IntervalRouting$Ways", "exists", "(I)Z"⟩) := ⟨List.mem_of_getElem? (i := 657) (by decide +kernel), by decide +kernel⟩
theorem tw_658 : gd_T (Cond.methodLink "IntervalRoutingLaw" 110 ⟨"IntervalRouting", "recovery", "(II)I"⟩) := ⟨List.mem_of_getElem? (i := 658) (by decide +kernel), by decide +kernel⟩
theorem tw_659 : gd_T (Cond.instanceMethod ⟨"IntervalRouting", "recovery", "(II)I"⟩) := ⟨List.mem_of_getElem? (i := 659) (by decide +kernel), by decide +kernel⟩
theorem tw_660 : gd_T (Cond.selects "IntervalRouting" ⟨"IntervalRouting", "recovery", "(II)I"⟩ ⟨"IntervalRouting", "recovery", "(II)I"⟩) := ⟨List.mem_of_getElem? (i := 660) (by decide +kernel), by decide +kernel⟩
theorem tw_661 : gd_T (Cond.code ⟨"IntervalRouting", "recovery", "(II)I"⟩ prog_1_method_25_code 5 (some FieldType.int)) := ⟨List.mem_of_getElem? (i := 661) (by decide +kernel), by decide +kernel⟩
theorem tw_662 : gd_T (Cond.methodLink "IntervalRoutingLaw" 114 ⟨"IntervalRouting", "store", "()I"⟩) := ⟨List.mem_of_getElem? (i := 662) (by decide +kernel), by decide +kernel⟩
theorem tw_663 : gd_T (Cond.instanceMethod ⟨"IntervalRouting", "store", "()I"⟩) := ⟨List.mem_of_getElem? (i := 663) (by decide +kernel), by decide +kernel⟩
theorem tw_664 : gd_T (Cond.selects "IntervalRouting" ⟨"IntervalRouting", "store", "()I"⟩ ⟨"IntervalRouting", "store", "()I"⟩) := ⟨List.mem_of_getElem? (i := 664) (by decide +kernel), by decide +kernel⟩
theorem tw_665 : gd_T (Cond.code ⟨"IntervalRouting", "store", "()I"⟩ prog_1_method_26_code 1 (some FieldType.int)) := ⟨List.mem_of_getElem? (i := 665) (by decide +kernel), by decide +kernel⟩
theorem tw_666 : gd_T (Cond.methodLink "IntervalRoutingLaw" 118 ⟨"IntervalRouting", "recall", "()I"⟩) := ⟨List.mem_of_getElem? (i := 666) (by decide +kernel), by decide +kernel⟩
theorem tw_667 : gd_T (Cond.instanceMethod ⟨"IntervalRouting", "recall", "()I"⟩) := ⟨List.mem_of_getElem? (i := 667) (by decide +kernel), by decide +kernel⟩
theorem tw_668 : gd_T (Cond.selects "IntervalRouting" ⟨"IntervalRouting", "recall", "()I"⟩ ⟨"IntervalRouting", "recall", "()I"⟩) := ⟨List.mem_of_getElem? (i := 668) (by decide +kernel), by decide +kernel⟩
theorem tw_669 : gd_T (Cond.code ⟨"IntervalRouting", "recall", "()I"⟩ prog_1_method_27_code 1 (some FieldType.int)) := ⟨List.mem_of_getElem? (i := 669) (by decide +kernel), by decide +kernel⟩
theorem tw_670 : gd_T (Cond.classLink "IntervalRoutingLaw" 10 "IntervalRoutingModel") := ⟨List.mem_of_getElem? (i := 670) (by decide +kernel), by decide +kernel⟩
theorem tw_671 : gd_T (Cond.instantiable "IntervalRoutingModel" 15) := ⟨List.mem_of_getElem? (i := 671) (by decide +kernel), by decide +kernel⟩
theorem tw_672 : gd_T (Cond.methodLink "IntervalRoutingLaw" 12 ⟨"IntervalRoutingModel", "<init>", "()V"⟩) := ⟨List.mem_of_getElem? (i := 672) (by decide +kernel), by decide +kernel⟩
theorem tw_673 : gd_T (Cond.instanceMethod ⟨"IntervalRoutingModel", "<init>", "()V"⟩) := ⟨List.mem_of_getElem? (i := 673) (by decide +kernel), by decide +kernel⟩
theorem tw_674 : gd_T (Cond.code ⟨"IntervalRoutingModel", "<init>", "()V"⟩ prog_10_method_1_code 1 (Option.none : Option Jvm.ClassFile.FieldType)) := ⟨List.mem_of_getElem? (i := 674) (by decide +kernel), by decide +kernel⟩
theorem tw_675 : gd_T (Cond.methodLink "IntervalRoutingModel" 1 ⟨"java/lang/Object", "<init>", "()V"⟩) := ⟨List.mem_of_getElem? (i := 675) (by decide +kernel), by decide +kernel⟩
theorem tw_676 : gd_T (Cond.methodLink "IntervalRoutingModel" 51 ⟨"IntervalRoutingModel", "begins", "()V"⟩) := ⟨List.mem_of_getElem? (i := 676) (by decide +kernel), by decide +kernel⟩
theorem tw_678 : gd_T (Cond.instanceMethod ⟨"IntervalRoutingModel", "begins", "()V"⟩) := ⟨List.mem_of_getElem? (i := 678) (by decide +kernel), by decide +kernel⟩
theorem tw_679 : gd_T (Cond.code ⟨"IntervalRoutingModel", "begins", "()V"⟩ prog_10_method_2_code 2 (Option.none : Option Jvm.ClassFile.FieldType)) := ⟨List.mem_of_getElem? (i := 679) (by decide +kernel), by decide +kernel⟩
theorem tw_680 : gd_T (Cond.fieldLink "IntervalRoutingModel" 7 "IntervalRoutingModel" "n" "I") := ⟨List.mem_of_getElem? (i := 680) (by decide +kernel), by decide +kernel⟩
theorem tw_681 : gd_T (Cond.fieldLink "IntervalRoutingModel" 13 "IntervalRoutingModel" "now" "[I") := ⟨List.mem_of_getElem? (i := 681) (by decide +kernel), by decide +kernel⟩
theorem tw_682 : gd_T (Cond.fieldLink "IntervalRoutingModel" 17 "IntervalRoutingModel" "aside" "[I") := ⟨List.mem_of_getElem? (i := 682) (by decide +kernel), by decide +kernel⟩
theorem tw_683 : gd_T (Cond.fieldLink "IntervalRoutingModel" 20 "IntervalRoutingModel" "stored" "[I") := ⟨List.mem_of_getElem? (i := 683) (by decide +kernel), by decide +kernel⟩
theorem tw_684 : gd_T (Cond.fieldLink "IntervalRoutingModel" 70 "IntervalRoutingModel" "isStored" "Z") := ⟨List.mem_of_getElem? (i := 684) (by decide +kernel), by decide +kernel⟩
theorem tw_685 : gd_T (Cond.fieldLink "IntervalRoutingModel" 23 "IntervalRoutingModel" "settings" "[I") := ⟨List.mem_of_getElem? (i := 685) (by decide +kernel), by decide +kernel⟩
theorem tw_686 : gd_T (Cond.fieldLink "IntervalRoutingModel" 26 "IntervalRoutingModel" "low" "[I") := ⟨List.mem_of_getElem? (i := 686) (by decide +kernel), by decide +kernel⟩
theorem tw_687 : gd_T (Cond.fieldLink "IntervalRoutingModel" 29 "IntervalRoutingModel" "high" "[I") := ⟨List.mem_of_getElem? (i := 687) (by decide +kernel), by decide +kernel⟩
theorem tw_688 : gd_T (Cond.fieldLink "IntervalRoutingModel" 32 "IntervalRoutingModel" "lowers" "[I") := ⟨List.mem_of_getElem? (i := 688) (by decide +kernel), by decide +kernel⟩
theorem tw_689 : gd_T (Cond.fieldLink "IntervalRoutingModel" 35 "IntervalRoutingModel" "uppers" "[I") := ⟨List.mem_of_getElem? (i := 689) (by decide +kernel), by decide +kernel⟩
theorem tw_690 : gd_T (Cond.fieldLink "IntervalRoutingModel" 38 "IntervalRoutingModel" "picks" "[I") := ⟨List.mem_of_getElem? (i := 690) (by decide +kernel), by decide +kernel⟩
theorem tw_691 : gd_T (Cond.fieldLink "IntervalRoutingModel" 41 "IntervalRoutingModel" "sends" "[Z") := ⟨List.mem_of_getElem? (i := 691) (by decide +kernel), by decide +kernel⟩
theorem tw_692 : gd_T (Cond.fieldLink "IntervalRoutingModel" 45 "IntervalRoutingModel" "ways" "[I") := ⟨List.mem_of_getElem? (i := 692) (by decide +kernel), by decide +kernel⟩
theorem tw_693 : gd_T (Cond.fieldLink "IntervalRoutingModel" 48 "IntervalRoutingModel" "changed" "[Z") := ⟨List.mem_of_getElem? (i := 693) (by decide +kernel), by decide +kernel⟩
theorem tw_694 : gd_T (Cond.fieldLink "IntervalRoutingModel" 121 "IntervalRoutingModel" "changes" "I") := ⟨List.mem_of_getElem? (i := 694) (by decide +kernel), by decide +kernel⟩
theorem tw_695 : gd_T (Cond.lays "IntervalRoutingModel" "IntervalRoutingModel" "n" "I") := ⟨List.mem_of_getElem? (i := 695) (by decide +kernel), by decide +kernel⟩
theorem tw_697 : gd_T (Cond.laysFinal "IntervalRoutingModel" "IntervalRoutingModel" "now" "[I") := ⟨List.mem_of_getElem? (i := 697) (by decide +kernel), by decide +kernel⟩
theorem tw_699 : gd_T (Cond.laysFinal "IntervalRoutingModel" "IntervalRoutingModel" "aside" "[I") := ⟨List.mem_of_getElem? (i := 699) (by decide +kernel), by decide +kernel⟩
theorem tw_701 : gd_T (Cond.laysFinal "IntervalRoutingModel" "IntervalRoutingModel" "stored" "[I") := ⟨List.mem_of_getElem? (i := 701) (by decide +kernel), by decide +kernel⟩
theorem tw_703 : gd_T (Cond.lays "IntervalRoutingModel" "IntervalRoutingModel" "isStored" "Z") := ⟨List.mem_of_getElem? (i := 703) (by decide +kernel), by decide +kernel⟩
theorem tw_705 : gd_T (Cond.laysFinal "IntervalRoutingModel" "IntervalRoutingModel" "settings" "[I") := ⟨List.mem_of_getElem? (i := 705) (by decide +kernel), by decide +kernel⟩
theorem tw_707 : gd_T (Cond.laysFinal "IntervalRoutingModel" "IntervalRoutingModel" "low" "[I") := ⟨List.mem_of_getElem? (i := 707) (by decide +kernel), by decide +kernel⟩
theorem tw_709 : gd_T (Cond.laysFinal "IntervalRoutingModel" "IntervalRoutingModel" "high" "[I") := ⟨List.mem_of_getElem? (i := 709) (by decide +kernel), by decide +kernel⟩
theorem tw_711 : gd_T (Cond.laysFinal "IntervalRoutingModel" "IntervalRoutingModel" "lowers" "[I") := ⟨List.mem_of_getElem? (i := 711) (by decide +kernel), by decide +kernel⟩
theorem tw_713 : gd_T (Cond.laysFinal "IntervalRoutingModel" "IntervalRoutingModel" "uppers" "[I") := ⟨List.mem_of_getElem? (i := 713) (by decide +kernel), by decide +kernel⟩
theorem tw_715 : gd_T (Cond.laysFinal "IntervalRoutingModel" "IntervalRoutingModel" "picks" "[I") := ⟨List.mem_of_getElem? (i := 715) (by decide +kernel), by decide +kernel⟩
theorem tw_717 : gd_T (Cond.laysFinal "IntervalRoutingModel" "IntervalRoutingModel" "sends" "[Z") := ⟨List.mem_of_getElem? (i := 717) (by decide +kernel), by decide +kernel⟩
theorem tw_719 : gd_T (Cond.laysFinal "IntervalRoutingModel" "IntervalRoutingModel" "ways" "[I") := ⟨List.mem_of_getElem? (i := 719) (by decide +kernel), by decide +kernel⟩
theorem tw_721 : gd_T (Cond.laysFinal "IntervalRoutingModel" "IntervalRoutingModel" "changed" "[Z") := ⟨List.mem_of_getElem? (i := 721) (by decide +kernel), by decide +kernel⟩
theorem tw_723 : gd_T (Cond.lays "IntervalRoutingModel" "IntervalRoutingModel" "changes" "I") := ⟨List.mem_of_getElem? (i := 723) (by decide +kernel), by decide +kernel⟩
theorem tw_726 : gd_T (Cond.methodLink "IntervalRoutingLaw" 17 ⟨"IntervalRoutingModel", "reset", "(I)I"⟩) := ⟨List.mem_of_getElem? (i := 726) (by decide +kernel), by decide +kernel⟩
theorem tw_727 : gd_T (Cond.instanceMethod ⟨"IntervalRoutingModel", "reset", "(I)I"⟩) := ⟨List.mem_of_getElem? (i := 727) (by decide +kernel), by decide +kernel⟩
theorem tw_728 : gd_T (Cond.selects "IntervalRoutingModel" ⟨"IntervalRoutingModel", "reset", "(I)I"⟩ ⟨"IntervalRoutingModel", "reset", "(I)I"⟩) := ⟨List.mem_of_getElem? (i := 728) (by decide +kernel), by decide +kernel⟩
theorem tw_729 : gd_T (Cond.code ⟨"IntervalRoutingModel", "reset", "(I)I"⟩ prog_10_method_11_code 3 (some FieldType.int)) := ⟨List.mem_of_getElem? (i := 729) (by decide +kernel), by decide +kernel⟩
theorem tw_730 : gd_T (Cond.methodLink "IntervalRoutingModel" 54 ⟨"IntervalRoutingModel", "in", "(III)Z"⟩) := ⟨List.mem_of_getElem? (i := 730) (by decide +kernel), by decide +kernel⟩
theorem tw_731 : gd_T (Cond.static ⟨"IntervalRoutingModel", "in", "(III)Z"⟩) := ⟨List.mem_of_getElem? (i := 731) (by decide +kernel), by decide +kernel⟩
theorem tw_732 : gd_T (Cond.code ⟨"IntervalRoutingModel", "in", "(III)Z"⟩ prog_10_method_3_code 3 (some FieldType.boolean)) := ⟨List.mem_of_getElem? (i := 732) (by decide +kernel), by decide +kernel⟩
theorem tw_733 : gd_T (Cond.methodLink "IntervalRoutingLaw" 22 ⟨"IntervalRoutingModel", "addLink", "(IIII)I"⟩) := ⟨List.mem_of_getElem? (i := 733) (by decide +kernel), by decide +kernel⟩
theorem tw_734 : gd_T (Cond.instanceMethod ⟨"IntervalRoutingModel", "addLink", "(IIII)I"⟩) := ⟨List.mem_of_getElem? (i := 734) (by decide +kernel), by decide +kernel⟩
theorem tw_735 : gd_T (Cond.selects "IntervalRoutingModel" ⟨"IntervalRoutingModel", "addLink", "(IIII)I"⟩ ⟨"IntervalRoutingModel", "addLink", "(IIII)I"⟩) := ⟨List.mem_of_getElem? (i := 735) (by decide +kernel), by decide +kernel⟩
theorem tw_736 : gd_T (Cond.code ⟨"IntervalRoutingModel", "addLink", "(IIII)I"⟩ prog_10_method_12_code 5 (some FieldType.int)) := ⟨List.mem_of_getElem? (i := 736) (by decide +kernel), by decide +kernel⟩
theorem tw_737 : gd_T (Cond.methodLink "IntervalRoutingModel" 74 ⟨"IntervalRoutingModel", "arePair", "(II)Z"⟩) := ⟨List.mem_of_getElem? (i := 737) (by decide +kernel), by decide +kernel⟩
theorem tw_739 : gd_T (Cond.instanceMethod ⟨"IntervalRoutingModel", "arePair", "(II)Z"⟩) := ⟨List.mem_of_getElem? (i := 739) (by decide +kernel), by decide +kernel⟩
theorem tw_740 : gd_T (Cond.code ⟨"IntervalRoutingModel", "arePair", "(II)Z"⟩ prog_10_method_5_code 3 (some FieldType.boolean)) := ⟨List.mem_of_getElem? (i := 740) (by decide +kernel), by decide +kernel⟩
theorem tw_741 : gd_T (Cond.methodLink "IntervalRoutingModel" 58 ⟨"IntervalRoutingModel", "isNode", "(I)Z"⟩) := ⟨List.mem_of_getElem? (i := 741) (by decide +kernel), by decide +kernel⟩
theorem tw_743 : gd_T (Cond.instanceMethod ⟨"IntervalRoutingModel", "isNode", "(I)Z"⟩) := ⟨List.mem_of_getElem? (i := 743) (by decide +kernel), by decide +kernel⟩
theorem tw_744 : gd_T (Cond.code ⟨"IntervalRoutingModel", "isNode", "(I)Z"⟩ prog_10_method_4_code 2 (some FieldType.boolean)) := ⟨List.mem_of_getElem? (i := 744) (by decide +kernel), by decide +kernel⟩
theorem tw_745 : gd_T (Cond.methodLink "IntervalRoutingModel" 66 ⟨"IntervalRoutingModel", "isLink", "(II)Z"⟩) := ⟨List.mem_of_getElem? (i := 745) (by decide +kernel), by decide +kernel⟩
theorem tw_747 : gd_T (Cond.instanceMethod ⟨"IntervalRoutingModel", "isLink", "(II)Z"⟩) := ⟨List.mem_of_getElem? (i := 747) (by decide +kernel), by decide +kernel⟩
theorem tw_748 : gd_T (Cond.code ⟨"IntervalRoutingModel", "isLink", "(II)Z"⟩ prog_10_method_8_code 3 (some FieldType.boolean)) := ⟨List.mem_of_getElem? (i := 748) (by decide +kernel), by decide +kernel⟩
theorem tw_749 : gd_T (Cond.methodLink "IntervalRoutingModel" 62 ⟨"IntervalRoutingModel", "linkAt", "(III)I"⟩) := ⟨List.mem_of_getElem? (i := 749) (by decide +kernel), by decide +kernel⟩
theorem tw_750 : gd_T (Cond.static ⟨"IntervalRoutingModel", "linkAt", "(III)I"⟩) := ⟨List.mem_of_getElem? (i := 750) (by decide +kernel), by decide +kernel⟩
theorem tw_751 : gd_T (Cond.code ⟨"IntervalRoutingModel", "linkAt", "(III)I"⟩ prog_10_method_6_code 3 (some FieldType.int)) := ⟨List.mem_of_getElem? (i := 751) (by decide +kernel), by decide +kernel⟩
theorem tw_752 : gd_T (Cond.methodLink "IntervalRoutingModel" 77 ⟨"IntervalRoutingModel", "sets", "(IIII)V"⟩) := ⟨List.mem_of_getElem? (i := 752) (by decide +kernel), by decide +kernel⟩
theorem tw_754 : gd_T (Cond.instanceMethod ⟨"IntervalRoutingModel", "sets", "(IIII)V"⟩) := ⟨List.mem_of_getElem? (i := 754) (by decide +kernel), by decide +kernel⟩
theorem tw_755 : gd_T (Cond.code ⟨"IntervalRoutingModel", "sets", "(IIII)V"⟩ prog_10_method_10_code 5 (Option.none : Option Jvm.ClassFile.FieldType)) := ⟨List.mem_of_getElem? (i := 755) (by decide +kernel), by decide +kernel⟩
theorem tw_756 : gd_T (Cond.methodLink "IntervalRoutingLaw" 27 ⟨"IntervalRoutingModel", "removeLink", "(II)I"⟩) := ⟨List.mem_of_getElem? (i := 756) (by decide +kernel), by decide +kernel⟩
theorem tw_757 : gd_T (Cond.instanceMethod ⟨"IntervalRoutingModel", "removeLink", "(II)I"⟩) := ⟨List.mem_of_getElem? (i := 757) (by decide +kernel), by decide +kernel⟩
theorem tw_758 : gd_T (Cond.selects "IntervalRoutingModel" ⟨"IntervalRoutingModel", "removeLink", "(II)I"⟩ ⟨"IntervalRoutingModel", "removeLink", "(II)I"⟩) := ⟨List.mem_of_getElem? (i := 758) (by decide +kernel), by decide +kernel⟩
theorem tw_759 : gd_T (Cond.code ⟨"IntervalRoutingModel", "removeLink", "(II)I"⟩ prog_10_method_13_code 4 (some FieldType.int)) := ⟨List.mem_of_getElem? (i := 759) (by decide +kernel), by decide +kernel⟩
theorem tw_760 : gd_T (Cond.methodLink "IntervalRoutingLaw" 32 ⟨"IntervalRoutingModel", "setCost", "(III)I"⟩) := ⟨List.mem_of_getElem? (i := 760) (by decide +kernel), by decide +kernel⟩
theorem tw_761 : gd_T (Cond.instanceMethod ⟨"IntervalRoutingModel", "setCost", "(III)I"⟩) := ⟨List.mem_of_getElem? (i := 761) (by decide +kernel), by decide +kernel⟩
theorem tw_762 : gd_T (Cond.selects "IntervalRoutingModel" ⟨"IntervalRoutingModel", "setCost", "(III)I"⟩ ⟨"IntervalRoutingModel", "setCost", "(III)I"⟩) := ⟨List.mem_of_getElem? (i := 762) (by decide +kernel), by decide +kernel⟩
theorem tw_763 : gd_T (Cond.code ⟨"IntervalRoutingModel", "setCost", "(III)I"⟩ prog_10_method_14_code 5 (some FieldType.int)) := ⟨List.mem_of_getElem? (i := 763) (by decide +kernel), by decide +kernel⟩
theorem tw_764 : gd_T (Cond.methodLink "IntervalRoutingLaw" 36 ⟨"IntervalRoutingModel", "setUp", "(III)I"⟩) := ⟨List.mem_of_getElem? (i := 764) (by decide +kernel), by decide +kernel⟩
theorem tw_765 : gd_T (Cond.instanceMethod ⟨"IntervalRoutingModel", "setUp", "(III)I"⟩) := ⟨List.mem_of_getElem? (i := 765) (by decide +kernel), by decide +kernel⟩
theorem tw_766 : gd_T (Cond.selects "IntervalRoutingModel" ⟨"IntervalRoutingModel", "setUp", "(III)I"⟩ ⟨"IntervalRoutingModel", "setUp", "(III)I"⟩) := ⟨List.mem_of_getElem? (i := 766) (by decide +kernel), by decide +kernel⟩
theorem tw_767 : gd_T (Cond.code ⟨"IntervalRoutingModel", "setUp", "(III)I"⟩ prog_10_method_15_code 5 (some FieldType.int)) := ⟨List.mem_of_getElem? (i := 767) (by decide +kernel), by decide +kernel⟩
theorem tw_768 : gd_T (Cond.methodLink "IntervalRoutingLaw" 40 ⟨"IntervalRoutingModel", "link", "(III)I"⟩) := ⟨List.mem_of_getElem? (i := 768) (by decide +kernel), by decide +kernel⟩
theorem tw_769 : gd_T (Cond.instanceMethod ⟨"IntervalRoutingModel", "link", "(III)I"⟩) := ⟨List.mem_of_getElem? (i := 769) (by decide +kernel), by decide +kernel⟩
theorem tw_770 : gd_T (Cond.selects "IntervalRoutingModel" ⟨"IntervalRoutingModel", "link", "(III)I"⟩ ⟨"IntervalRoutingModel", "link", "(III)I"⟩) := ⟨List.mem_of_getElem? (i := 770) (by decide +kernel), by decide +kernel⟩
theorem tw_771 : gd_T (Cond.code ⟨"IntervalRoutingModel", "link", "(III)I"⟩ prog_10_method_16_code 4 (some FieldType.int)) := ⟨List.mem_of_getElem? (i := 771) (by decide +kernel), by decide +kernel⟩
theorem tw_772 : gd_T (Cond.methodLink "IntervalRoutingLaw" 44 ⟨"IntervalRoutingModel", "set", "(II)I"⟩) := ⟨List.mem_of_getElem? (i := 772) (by decide +kernel), by decide +kernel⟩
theorem tw_773 : gd_T (Cond.instanceMethod ⟨"IntervalRoutingModel", "set", "(II)I"⟩) := ⟨List.mem_of_getElem? (i := 773) (by decide +kernel), by decide +kernel⟩
theorem tw_774 : gd_T (Cond.selects "IntervalRoutingModel" ⟨"IntervalRoutingModel", "set", "(II)I"⟩ ⟨"IntervalRoutingModel", "set", "(II)I"⟩) := ⟨List.mem_of_getElem? (i := 774) (by decide +kernel), by decide +kernel⟩
theorem tw_775 : gd_T (Cond.code ⟨"IntervalRoutingModel", "set", "(II)I"⟩ prog_10_method_17_code 4 (some FieldType.int)) := ⟨List.mem_of_getElem? (i := 775) (by decide +kernel), by decide +kernel⟩
theorem tw_776 : gd_T (Cond.methodLink "IntervalRoutingLaw" 48 ⟨"IntervalRoutingModel", "run", "(I)I"⟩) := ⟨List.mem_of_getElem? (i := 776) (by decide +kernel), by decide +kernel⟩
theorem tw_777 : gd_T (Cond.instanceMethod ⟨"IntervalRoutingModel", "run", "(I)I"⟩) := ⟨List.mem_of_getElem? (i := 777) (by decide +kernel), by decide +kernel⟩
theorem tw_778 : gd_T (Cond.selects "IntervalRoutingModel" ⟨"IntervalRoutingModel", "run", "(I)I"⟩ ⟨"IntervalRoutingModel", "run", "(I)I"⟩) := ⟨List.mem_of_getElem? (i := 778) (by decide +kernel), by decide +kernel⟩
theorem tw_779 : gd_T (Cond.code ⟨"IntervalRoutingModel", "run", "(I)I"⟩ prog_10_method_35_code 3 (some FieldType.int)) := ⟨List.mem_of_getElem? (i := 779) (by decide +kernel), by decide +kernel⟩
theorem tw_780 : gd_T (Cond.constant "IntervalRoutingModel" 141 (100000 : Int32)) := ⟨List.mem_of_getElem? (i := 780) (by decide +kernel), by decide +kernel⟩
theorem tw_781 : gd_T (Cond.methodLink "IntervalRoutingModel" 142 ⟨"IntervalRoutingModel", "tick", "()V"⟩) := ⟨List.mem_of_getElem? (i := 781) (by decide +kernel), by decide +kernel⟩
theorem tw_783 : gd_T (Cond.instanceMethod ⟨"IntervalRoutingModel", "tick", "()V"⟩) := ⟨List.mem_of_getElem? (i := 783) (by decide +kernel), by decide +kernel⟩
theorem tw_784 : gd_T (Cond.code ⟨"IntervalRoutingModel", "tick", "()V"⟩ prog_10_method_34_code 4 (Option.none : Option Jvm.ClassFile.FieldType)) := ⟨List.mem_of_getElem? (i := 784) (by decide +kernel), by decide +kernel⟩
theorem tw_785 : gd_T (Cond.methodLink "IntervalRoutingModel" 124 ⟨"IntervalRoutingModel", "looks", "()V"⟩) := ⟨List.mem_of_getElem? (i := 785) (by decide +kernel), by decide +kernel⟩
theorem tw_787 : gd_T (Cond.instanceMethod ⟨"IntervalRoutingModel", "looks", "()V"⟩) := ⟨List.mem_of_getElem? (i := 787) (by decide +kernel), by decide +kernel⟩
theorem tw_788 : gd_T (Cond.code ⟨"IntervalRoutingModel", "looks", "()V"⟩ prog_10_method_26_code 5 (Option.none : Option Jvm.ClassFile.FieldType)) := ⟨List.mem_of_getElem? (i := 788) (by decide +kernel), by decide +kernel⟩
theorem tw_789 : gd_T (Cond.methodLink "IntervalRoutingModel" 104 ⟨"IntervalRoutingModel", "boundOf", "(III)I"⟩) := ⟨List.mem_of_getElem? (i := 789) (by decide +kernel), by decide +kernel⟩
theorem tw_791 : gd_T (Cond.instanceMethod ⟨"IntervalRoutingModel", "boundOf", "(III)I"⟩) := ⟨List.mem_of_getElem? (i := 791) (by decide +kernel), by decide +kernel⟩
theorem tw_792 : gd_T (Cond.code ⟨"IntervalRoutingModel", "boundOf", "(III)I"⟩ prog_10_method_22_code 4 (some FieldType.int)) := ⟨List.mem_of_getElem? (i := 792) (by decide +kernel), by decide +kernel⟩
theorem tw_793 : gd_T (Cond.methodLink "IntervalRoutingModel" 97 ⟨"IntervalRoutingModel", "least", "(IIII)I"⟩) := ⟨List.mem_of_getElem? (i := 793) (by decide +kernel), by decide +kernel⟩
theorem tw_795 : gd_T (Cond.instanceMethod ⟨"IntervalRoutingModel", "least", "(IIII)I"⟩) := ⟨List.mem_of_getElem? (i := 795) (by decide +kernel), by decide +kernel⟩
theorem tw_796 : gd_T (Cond.code ⟨"IntervalRoutingModel", "least", "(IIII)I"⟩ prog_10_method_21_code 8 (some FieldType.int)) := ⟨List.mem_of_getElem? (i := 796) (by decide +kernel), by decide +kernel⟩
theorem tw_797 : gd_T (Cond.methodLink "IntervalRoutingModel" 94 ⟨"IntervalRoutingModel", "isUsable", "(III)Z"⟩) := ⟨List.mem_of_getElem? (i := 797) (by decide +kernel), by decide +kernel⟩
theorem tw_799 : gd_T (Cond.instanceMethod ⟨"IntervalRoutingModel", "isUsable", "(III)Z"⟩) := ⟨List.mem_of_getElem? (i := 799) (by decide +kernel), by decide +kernel⟩
theorem tw_800 : gd_T (Cond.code ⟨"IntervalRoutingModel", "isUsable", "(III)Z"⟩ prog_10_method_20_code 5 (some FieldType.boolean)) := ⟨List.mem_of_getElem? (i := 800) (by decide +kernel), by decide +kernel⟩
theorem tw_801 : gd_T (Cond.methodLink "IntervalRoutingModel" 88 ⟨"IntervalRoutingModel", "isEntry", "(III)Z"⟩) := ⟨List.mem_of_getElem? (i := 801) (by decide +kernel), by decide +kernel⟩
theorem tw_803 : gd_T (Cond.instanceMethod ⟨"IntervalRoutingModel", "isEntry", "(III)Z"⟩) := ⟨List.mem_of_getElem? (i := 803) (by decide +kernel), by decide +kernel⟩
theorem tw_804 : gd_T (Cond.code ⟨"IntervalRoutingModel", "isEntry", "(III)Z"⟩ prog_10_method_19_code 4 (some FieldType.boolean)) := ⟨List.mem_of_getElem? (i := 804) (by decide +kernel), by decide +kernel⟩
theorem tw_805 : gd_T (Cond.methodLink "IntervalRoutingModel" 85 ⟨"IntervalRoutingModel", "of", "(IIII)I"⟩) := ⟨List.mem_of_getElem? (i := 805) (by decide +kernel), by decide +kernel⟩
theorem tw_807 : gd_T (Cond.instanceMethod ⟨"IntervalRoutingModel", "of", "(IIII)I"⟩) := ⟨List.mem_of_getElem? (i := 807) (by decide +kernel), by decide +kernel⟩
theorem tw_808 : gd_T (Cond.code ⟨"IntervalRoutingModel", "of", "(IIII)I"⟩ prog_10_method_18_code 5 (some FieldType.int)) := ⟨List.mem_of_getElem? (i := 808) (by decide +kernel), by decide +kernel⟩
theorem tw_809 : gd_T (Cond.methodLink "IntervalRoutingModel" 81 ⟨"IntervalRoutingModel", "entryAt", "(IIII)I"⟩) := ⟨List.mem_of_getElem? (i := 809) (by decide +kernel), by decide +kernel⟩
theorem tw_810 : gd_T (Cond.static ⟨"IntervalRoutingModel", "entryAt", "(IIII)I"⟩) := ⟨List.mem_of_getElem? (i := 810) (by decide +kernel), by decide +kernel⟩
theorem tw_811 : gd_T (Cond.code ⟨"IntervalRoutingModel", "entryAt", "(IIII)I"⟩ prog_10_method_7_code 4 (some FieldType.int)) := ⟨List.mem_of_getElem? (i := 811) (by decide +kernel), by decide +kernel⟩
theorem tw_812 : gd_T (Cond.methodLink "IntervalRoutingModel" 91 ⟨"IntervalRoutingModel", "areNear", "(II)Z"⟩) := ⟨List.mem_of_getElem? (i := 812) (by decide +kernel), by decide +kernel⟩
theorem tw_814 : gd_T (Cond.instanceMethod ⟨"IntervalRoutingModel", "areNear", "(II)Z"⟩) := ⟨List.mem_of_getElem? (i := 814) (by decide +kernel), by decide +kernel⟩
theorem tw_815 : gd_T (Cond.code ⟨"IntervalRoutingModel", "areNear", "(II)Z"⟩ prog_10_method_9_code 3 (some FieldType.boolean)) := ⟨List.mem_of_getElem? (i := 815) (by decide +kernel), by decide +kernel⟩
theorem tw_816 : gd_T (Cond.methodLink "IntervalRoutingModel" 107 ⟨"IntervalRoutingModel", "choiceOf", "(II)I"⟩) := ⟨List.mem_of_getElem? (i := 816) (by decide +kernel), by decide +kernel⟩
theorem tw_818 : gd_T (Cond.instanceMethod ⟨"IntervalRoutingModel", "choiceOf", "(II)I"⟩) := ⟨List.mem_of_getElem? (i := 818) (by decide +kernel), by decide +kernel⟩
theorem tw_819 : gd_T (Cond.code ⟨"IntervalRoutingModel", "choiceOf", "(II)I"⟩ prog_10_method_24_code 6 (some FieldType.int)) := ⟨List.mem_of_getElem? (i := 819) (by decide +kernel), by decide +kernel⟩
theorem tw_820 : gd_T (Cond.methodLink "IntervalRoutingModel" 100 ⟨"IntervalRoutingModel", "weight", "(IIIZ)I"⟩) := ⟨List.mem_of_getElem? (i := 820) (by decide +kernel), by decide +kernel⟩
theorem tw_822 : gd_T (Cond.instanceMethod ⟨"IntervalRoutingModel", "weight", "(IIIZ)I"⟩) := ⟨List.mem_of_getElem? (i := 822) (by decide +kernel), by decide +kernel⟩
theorem tw_823 : gd_T (Cond.code ⟨"IntervalRoutingModel", "weight", "(IIIZ)I"⟩ prog_10_method_23_code 8 (some FieldType.int)) := ⟨List.mem_of_getElem? (i := 823) (by decide +kernel), by decide +kernel⟩
theorem tw_824 : gd_T (Cond.methodLink "IntervalRoutingModel" 127 ⟨"IntervalRoutingModel", "isNew", "(I)Z"⟩) := ⟨List.mem_of_getElem? (i := 824) (by decide +kernel), by decide +kernel⟩
theorem tw_826 : gd_T (Cond.instanceMethod ⟨"IntervalRoutingModel", "isNew", "(I)Z"⟩) := ⟨List.mem_of_getElem? (i := 826) (by decide +kernel), by decide +kernel⟩
theorem tw_827 : gd_T (Cond.code ⟨"IntervalRoutingModel", "isNew", "(I)Z"⟩ prog_10_method_28_code 4 (some FieldType.boolean)) := ⟨List.mem_of_getElem? (i := 827) (by decide +kernel), by decide +kernel⟩
theorem tw_828 : gd_T (Cond.methodLink "IntervalRoutingModel" 111 ⟨"IntervalRoutingModel", "sentAt", "(II)I"⟩) := ⟨List.mem_of_getElem? (i := 828) (by decide +kernel), by decide +kernel⟩
theorem tw_829 : gd_T (Cond.static ⟨"IntervalRoutingModel", "sentAt", "(II)I"⟩) := ⟨List.mem_of_getElem? (i := 829) (by decide +kernel), by decide +kernel⟩
theorem tw_830 : gd_T (Cond.code ⟨"IntervalRoutingModel", "sentAt", "(II)I"⟩ prog_10_method_27_code 2 (some FieldType.int)) := ⟨List.mem_of_getElem? (i := 830) (by decide +kernel), by decide +kernel⟩
theorem tw_831 : gd_T (Cond.methodLink "IntervalRoutingModel" 130 ⟨"IntervalRoutingModel", "sendsAll", "(I)V"⟩) := ⟨List.mem_of_getElem? (i := 831) (by decide +kernel), by decide +kernel⟩
theorem tw_833 : gd_T (Cond.instanceMethod ⟨"IntervalRoutingModel", "sendsAll", "(I)V"⟩) := ⟨List.mem_of_getElem? (i := 833) (by decide +kernel), by decide +kernel⟩
theorem tw_834 : gd_T (Cond.code ⟨"IntervalRoutingModel", "sendsAll", "(I)V"⟩ prog_10_method_32_code 6 (Option.none : Option Jvm.ClassFile.FieldType)) := ⟨List.mem_of_getElem? (i := 834) (by decide +kernel), by decide +kernel⟩
theorem tw_835 : gd_T (Cond.methodLink "IntervalRoutingModel" 117 ⟨"IntervalRoutingModel", "receives", "(IIIZ)V"⟩) := ⟨List.mem_of_getElem? (i := 835) (by decide +kernel), by decide +kernel⟩
theorem tw_837 : gd_T (Cond.instanceMethod ⟨"IntervalRoutingModel", "receives", "(IIIZ)V"⟩) := ⟨List.mem_of_getElem? (i := 837) (by decide +kernel), by decide +kernel⟩
theorem tw_838 : gd_T (Cond.code ⟨"IntervalRoutingModel", "receives", "(IIIZ)V"⟩ prog_10_method_31_code 11 (Option.none : Option Jvm.ClassFile.FieldType)) := ⟨List.mem_of_getElem? (i := 838) (by decide +kernel), by decide +kernel⟩
theorem tw_839 : gd_T (Cond.methodLink "IntervalRoutingModel" 114 ⟨"IntervalRoutingModel", "limited", "(II)I"⟩) := ⟨List.mem_of_getElem? (i := 839) (by decide +kernel), by decide +kernel⟩
theorem tw_840 : gd_T (Cond.static ⟨"IntervalRoutingModel", "limited", "(II)I"⟩) := ⟨List.mem_of_getElem? (i := 840) (by decide +kernel), by decide +kernel⟩
theorem tw_841 : gd_T (Cond.code ⟨"IntervalRoutingModel", "limited", "(II)I"⟩ prog_10_method_30_code 2 (some FieldType.int)) := ⟨List.mem_of_getElem? (i := 841) (by decide +kernel), by decide +kernel⟩
theorem tw_842 : gd_T (Cond.methodLink "IntervalRoutingModel" 134 ⟨"IntervalRoutingModel", "keepsSent", "(I)V"⟩) := ⟨List.mem_of_getElem? (i := 842) (by decide +kernel), by decide +kernel⟩
theorem tw_844 : gd_T (Cond.instanceMethod ⟨"IntervalRoutingModel", "keepsSent", "(I)V"⟩) := ⟨List.mem_of_getElem? (i := 844) (by decide +kernel), by decide +kernel⟩
theorem tw_845 : gd_T (Cond.code ⟨"IntervalRoutingModel", "keepsSent", "(I)V"⟩ prog_10_method_29_code 3 (Option.none : Option Jvm.ClassFile.FieldType)) := ⟨List.mem_of_getElem? (i := 845) (by decide +kernel), by decide +kernel⟩
theorem tw_846 : gd_T (Cond.methodLink "IntervalRoutingModel" 137 ⟨"IntervalRoutingModel", "notes", "(III)V"⟩) := ⟨List.mem_of_getElem? (i := 846) (by decide +kernel), by decide +kernel⟩
theorem tw_848 : gd_T (Cond.instanceMethod ⟨"IntervalRoutingModel", "notes", "(III)V"⟩) := ⟨List.mem_of_getElem? (i := 848) (by decide +kernel), by decide +kernel⟩
theorem tw_849 : gd_T (Cond.code ⟨"IntervalRoutingModel", "notes", "(III)V"⟩ prog_10_method_33_code 5 (Option.none : Option Jvm.ClassFile.FieldType)) := ⟨List.mem_of_getElem? (i := 849) (by decide +kernel), by decide +kernel⟩
theorem tw_850 : gd_T (Cond.methodLink "IntervalRoutingLaw" 53 ⟨"IntervalRoutingModel", "time", "()I"⟩) := ⟨List.mem_of_getElem? (i := 850) (by decide +kernel), by decide +kernel⟩
theorem tw_851 : gd_T (Cond.instanceMethod ⟨"IntervalRoutingModel", "time", "()I"⟩) := ⟨List.mem_of_getElem? (i := 851) (by decide +kernel), by decide +kernel⟩
theorem tw_852 : gd_T (Cond.selects "IntervalRoutingModel" ⟨"IntervalRoutingModel", "time", "()I"⟩ ⟨"IntervalRoutingModel", "time", "()I"⟩) := ⟨List.mem_of_getElem? (i := 852) (by decide +kernel), by decide +kernel⟩
theorem tw_853 : gd_T (Cond.code ⟨"IntervalRoutingModel", "time", "()I"⟩ prog_10_method_36_code 1 (some FieldType.int)) := ⟨List.mem_of_getElem? (i := 853) (by decide +kernel), by decide +kernel⟩
theorem tw_854 : gd_T (Cond.methodLink "IntervalRoutingLaw" 57 ⟨"IntervalRoutingModel", "sent", "()I"⟩) := ⟨List.mem_of_getElem? (i := 854) (by decide +kernel), by decide +kernel⟩
theorem tw_855 : gd_T (Cond.instanceMethod ⟨"IntervalRoutingModel", "sent", "()I"⟩) := ⟨List.mem_of_getElem? (i := 855) (by decide +kernel), by decide +kernel⟩
theorem tw_856 : gd_T (Cond.selects "IntervalRoutingModel" ⟨"IntervalRoutingModel", "sent", "()I"⟩ ⟨"IntervalRoutingModel", "sent", "()I"⟩) := ⟨List.mem_of_getElem? (i := 856) (by decide +kernel), by decide +kernel⟩
theorem tw_857 : gd_T (Cond.code ⟨"IntervalRoutingModel", "sent", "()I"⟩ prog_10_method_37_code 1 (some FieldType.int)) := ⟨List.mem_of_getElem? (i := 857) (by decide +kernel), by decide +kernel⟩
theorem tw_858 : gd_T (Cond.methodLink "IntervalRoutingLaw" 61 ⟨"IntervalRoutingModel", "entry", "(IIII)I"⟩) := ⟨List.mem_of_getElem? (i := 858) (by decide +kernel), by decide +kernel⟩
theorem tw_859 : gd_T (Cond.instanceMethod ⟨"IntervalRoutingModel", "entry", "(IIII)I"⟩) := ⟨List.mem_of_getElem? (i := 859) (by decide +kernel), by decide +kernel⟩
theorem tw_860 : gd_T (Cond.selects "IntervalRoutingModel" ⟨"IntervalRoutingModel", "entry", "(IIII)I"⟩ ⟨"IntervalRoutingModel", "entry", "(IIII)I"⟩) := ⟨List.mem_of_getElem? (i := 860) (by decide +kernel), by decide +kernel⟩
theorem tw_861 : gd_T (Cond.code ⟨"IntervalRoutingModel", "entry", "(IIII)I"⟩ prog_10_method_38_code 5 (some FieldType.int)) := ⟨List.mem_of_getElem? (i := 861) (by decide +kernel), by decide +kernel⟩
theorem tw_862 : gd_T (Cond.methodLink "IntervalRoutingModel" 145 ⟨"IntervalRoutingModel", "isDominated", "(III)Z"⟩) := ⟨List.mem_of_getElem? (i := 862) (by decide +kernel), by decide +kernel⟩
theorem tw_864 : gd_T (Cond.instanceMethod ⟨"IntervalRoutingModel", "isDominated", "(III)Z"⟩) := ⟨List.mem_of_getElem? (i := 864) (by decide +kernel), by decide +kernel⟩
theorem tw_865 : gd_T (Cond.code ⟨"IntervalRoutingModel", "isDominated", "(III)Z"⟩ prog_10_method_25_code 7 (some FieldType.boolean)) := ⟨List.mem_of_getElem? (i := 865) (by decide +kernel), by decide +kernel⟩
theorem tw_866 : gd_T (Cond.methodLink "IntervalRoutingLaw" 65 ⟨"IntervalRoutingModel", "distance", "(III)I"⟩) := ⟨List.mem_of_getElem? (i := 866) (by decide +kernel), by decide +kernel⟩
theorem tw_867 : gd_T (Cond.instanceMethod ⟨"IntervalRoutingModel", "distance", "(III)I"⟩) := ⟨List.mem_of_getElem? (i := 867) (by decide +kernel), by decide +kernel⟩
theorem tw_868 : gd_T (Cond.selects "IntervalRoutingModel" ⟨"IntervalRoutingModel", "distance", "(III)I"⟩ ⟨"IntervalRoutingModel", "distance", "(III)I"⟩) := ⟨List.mem_of_getElem? (i := 868) (by decide +kernel), by decide +kernel⟩
theorem tw_869 : gd_T (Cond.code ⟨"IntervalRoutingModel", "distance", "(III)I"⟩ prog_10_method_39_code 5 (some FieldType.int)) := ⟨List.mem_of_getElem? (i := 869) (by decide +kernel), by decide +kernel⟩
theorem tw_870 : gd_T (Cond.methodLink "IntervalRoutingLaw" 69 ⟨"IntervalRoutingModel", "choice", "(II)I"⟩) := ⟨List.mem_of_getElem? (i := 870) (by decide +kernel), by decide +kernel⟩
theorem tw_871 : gd_T (Cond.instanceMethod ⟨"IntervalRoutingModel", "choice", "(II)I"⟩) := ⟨List.mem_of_getElem? (i := 871) (by decide +kernel), by decide +kernel⟩
theorem tw_872 : gd_T (Cond.selects "IntervalRoutingModel" ⟨"IntervalRoutingModel", "choice", "(II)I"⟩ ⟨"IntervalRoutingModel", "choice", "(II)I"⟩) := ⟨List.mem_of_getElem? (i := 872) (by decide +kernel), by decide +kernel⟩
theorem tw_873 : gd_T (Cond.code ⟨"IntervalRoutingModel", "choice", "(II)I"⟩ prog_10_method_40_code 4 (some FieldType.int)) := ⟨List.mem_of_getElem? (i := 873) (by decide +kernel), by decide +kernel⟩
theorem tw_874 : gd_T (Cond.methodLink "IntervalRoutingLaw" 73 ⟨"IntervalRoutingModel", "entries", "(III)I"⟩) := ⟨List.mem_of_getElem? (i := 874) (by decide +kernel), by decide +kernel⟩
theorem tw_875 : gd_T (Cond.instanceMethod ⟨"IntervalRoutingModel", "entries", "(III)I"⟩) := ⟨List.mem_of_getElem? (i := 875) (by decide +kernel), by decide +kernel⟩
theorem tw_876 : gd_T (Cond.selects "IntervalRoutingModel" ⟨"IntervalRoutingModel", "entries", "(III)I"⟩ ⟨"IntervalRoutingModel", "entries", "(III)I"⟩) := ⟨List.mem_of_getElem? (i := 876) (by decide +kernel), by decide +kernel⟩
theorem tw_877 : gd_T (Cond.code ⟨"IntervalRoutingModel", "entries", "(III)I"⟩ prog_10_method_41_code 7 (some FieldType.int)) := ⟨List.mem_of_getElem? (i := 877) (by decide +kernel), by decide +kernel⟩
theorem tw_878 : gd_T (Cond.methodLink "IntervalRoutingLaw" 77 ⟨"IntervalRoutingModel", "meanWidthBits", "()I"⟩) := ⟨List.mem_of_getElem? (i := 878) (by decide +kernel), by decide +kernel⟩
theorem tw_879 : gd_T (Cond.instanceMethod ⟨"IntervalRoutingModel", "meanWidthBits", "()I"⟩) := ⟨List.mem_of_getElem? (i := 879) (by decide +kernel), by decide +kernel⟩
theorem tw_880 : gd_T (Cond.selects "IntervalRoutingModel" ⟨"IntervalRoutingModel", "meanWidthBits", "()I"⟩ ⟨"IntervalRoutingModel", "meanWidthBits", "()I"⟩) := ⟨List.mem_of_getElem? (i := 880) (by decide +kernel), by decide +kernel⟩
theorem tw_881 : gd_T (Cond.code ⟨"IntervalRoutingModel", "meanWidthBits", "()I"⟩ prog_10_method_42_code 6 (some FieldType.int)) := ⟨List.mem_of_getElem? (i := 881) (by decide +kernel), by decide +kernel⟩
theorem tw_882 : gd_T (Cond.methodLink "IntervalRoutingModel" 148 ⟨"java/lang/Float", "floatToIntBits", "(F)I"⟩) := ⟨List.mem_of_getElem? (i := 882) (by decide +kernel), by decide +kernel⟩
theorem tw_883 : gd_T (Cond.static ⟨"java/lang/Float", "floatToIntBits", "(F)I"⟩) := ⟨List.mem_of_getElem? (i := 883) (by decide +kernel), by decide +kernel⟩
theorem tw_884 : gd_T (Cond.code ⟨"java/lang/Float", "floatToIntBits", "(F)I"⟩ prog_12_method_24_code 1 (some FieldType.int)) := ⟨List.mem_of_getElem? (i := 884) (by decide +kernel), by decide +kernel⟩
theorem tw_885 : gd_T (Cond.methodLink "java/lang/Float" 59 ⟨"java/lang/Float", "isNaN", "(F)Z"⟩) := ⟨List.mem_of_getElem? (i := 885) (by decide +kernel), by decide +kernel⟩
theorem tw_886 : gd_T (Cond.static ⟨"java/lang/Float", "isNaN", "(F)Z"⟩) := ⟨List.mem_of_getElem? (i := 886) (by decide +kernel), by decide +kernel⟩
theorem tw_887 : gd_T (Cond.code ⟨"java/lang/Float", "isNaN", "(F)Z"⟩ prog_12_method_6_code 1 (some FieldType.boolean)) := ⟨List.mem_of_getElem? (i := 887) (by decide +kernel), by decide +kernel⟩
theorem tw_888 : gd_T (Cond.methodLink "java/lang/Float" 74 ⟨"java/lang/Float", "floatToRawIntBits", "(F)I"⟩) := ⟨List.mem_of_getElem? (i := 888) (by decide +kernel), by decide +kernel⟩
theorem tw_889 : gd_T (Cond.static ⟨"java/lang/Float", "floatToRawIntBits", "(F)I"⟩) := ⟨List.mem_of_getElem? (i := 889) (by decide +kernel), by decide +kernel⟩
theorem tw_890 : gd_T (Cond.native ⟨"java/lang/Float", "floatToRawIntBits", "(F)I"⟩) := ⟨List.mem_of_getElem? (i := 890) (by decide +kernel), by decide +kernel⟩
theorem tw_891 : gd_T (Cond.constant "java/lang/Float" 77 (2143289344 : Int32)) := ⟨List.mem_of_getElem? (i := 891) (by decide +kernel), by decide +kernel⟩
theorem tw_892 : gd_T (Cond.methodLink "IntervalRoutingLaw" 81 ⟨"IntervalRoutingModel", "journalSize", "()I"⟩) := ⟨List.mem_of_getElem? (i := 892) (by decide +kernel), by decide +kernel⟩
theorem tw_893 : gd_T (Cond.instanceMethod ⟨"IntervalRoutingModel", "journalSize", "()I"⟩) := ⟨List.mem_of_getElem? (i := 893) (by decide +kernel), by decide +kernel⟩
theorem tw_894 : gd_T (Cond.selects "IntervalRoutingModel" ⟨"IntervalRoutingModel", "journalSize", "()I"⟩ ⟨"IntervalRoutingModel", "journalSize", "()I"⟩) := ⟨List.mem_of_getElem? (i := 894) (by decide +kernel), by decide +kernel⟩
theorem tw_895 : gd_T (Cond.code ⟨"IntervalRoutingModel", "journalSize", "()I"⟩ prog_10_method_43_code 1 (some FieldType.int)) := ⟨List.mem_of_getElem? (i := 895) (by decide +kernel), by decide +kernel⟩
theorem tw_896 : gd_T (Cond.methodLink "IntervalRoutingLaw" 85 ⟨"IntervalRoutingModel", "journal", "(II)I"⟩) := ⟨List.mem_of_getElem? (i := 896) (by decide +kernel), by decide +kernel⟩
theorem tw_897 : gd_T (Cond.instanceMethod ⟨"IntervalRoutingModel", "journal", "(II)I"⟩) := ⟨List.mem_of_getElem? (i := 897) (by decide +kernel), by decide +kernel⟩
theorem tw_898 : gd_T (Cond.selects "IntervalRoutingModel" ⟨"IntervalRoutingModel", "journal", "(II)I"⟩ ⟨"IntervalRoutingModel", "journal", "(II)I"⟩) := ⟨List.mem_of_getElem? (i := 898) (by decide +kernel), by decide +kernel⟩
theorem tw_899 : gd_T (Cond.code ⟨"IntervalRoutingModel", "journal", "(II)I"⟩ prog_10_method_44_code 3 (some FieldType.int)) := ⟨List.mem_of_getElem? (i := 899) (by decide +kernel), by decide +kernel⟩
theorem tw_900 : gd_T (Cond.methodLink "IntervalRoutingLaw" 89 ⟨"IntervalRoutingModel", "trueDistance", "(II)I"⟩) := ⟨List.mem_of_getElem? (i := 900) (by decide +kernel), by decide +kernel⟩
theorem tw_901 : gd_T (Cond.instanceMethod ⟨"IntervalRoutingModel", "trueDistance", "(II)I"⟩) := ⟨List.mem_of_getElem? (i := 901) (by decide +kernel), by decide +kernel⟩
theorem tw_902 : gd_T (Cond.selects "IntervalRoutingModel" ⟨"IntervalRoutingModel", "trueDistance", "(II)I"⟩ ⟨"IntervalRoutingModel", "trueDistance", "(II)I"⟩) := ⟨List.mem_of_getElem? (i := 902) (by decide +kernel), by decide +kernel⟩
theorem tw_903 : gd_T (Cond.code ⟨"IntervalRoutingModel", "trueDistance", "(II)I"⟩ prog_10_method_46_code 3 (some FieldType.int)) := ⟨List.mem_of_getElem? (i := 903) (by decide +kernel), by decide +kernel⟩
theorem tw_904 : gd_T (Cond.methodLink "IntervalRoutingModel" 154 ⟨"IntervalRoutingModel", "measures", "()V"⟩) := ⟨List.mem_of_getElem? (i := 904) (by decide +kernel), by decide +kernel⟩
theorem tw_906 : gd_T (Cond.instanceMethod ⟨"IntervalRoutingModel", "measures", "()V"⟩) := ⟨List.mem_of_getElem? (i := 906) (by decide +kernel), by decide +kernel⟩
theorem tw_907 : gd_T (Cond.code ⟨"IntervalRoutingModel", "measures", "()V"⟩ prog_10_method_45_code 8 (Option.none : Option Jvm.ClassFile.FieldType)) := ⟨List.mem_of_getElem? (i := 907) (by decide +kernel), by decide +kernel⟩
theorem tw_908 : gd_T (Cond.methodLink "IntervalRoutingLaw" 93 ⟨"IntervalRoutingModel", "wrongPairs", "()I"⟩) := ⟨List.mem_of_getElem? (i := 908) (by decide +kernel), by decide +kernel⟩
theorem tw_909 : gd_T (Cond.instanceMethod ⟨"IntervalRoutingModel", "wrongPairs", "()I"⟩) := ⟨List.mem_of_getElem? (i := 909) (by decide +kernel), by decide +kernel⟩
theorem tw_910 : gd_T (Cond.selects "IntervalRoutingModel" ⟨"IntervalRoutingModel", "wrongPairs", "()I"⟩ ⟨"IntervalRoutingModel", "wrongPairs", "()I"⟩) := ⟨List.mem_of_getElem? (i := 910) (by decide +kernel), by decide +kernel⟩
theorem tw_911 : gd_T (Cond.code ⟨"IntervalRoutingModel", "wrongPairs", "()I"⟩ prog_10_method_47_code 7 (some FieldType.int)) := ⟨List.mem_of_getElem? (i := 911) (by decide +kernel), by decide +kernel⟩
theorem tw_912 : gd_T (Cond.methodLink "IntervalRoutingLaw" 97 ⟨"IntervalRoutingModel", "follow", "(II)I"⟩) := ⟨List.mem_of_getElem? (i := 912) (by decide +kernel), by decide +kernel⟩
theorem tw_913 : gd_T (Cond.instanceMethod ⟨"IntervalRoutingModel", "follow", "(II)I"⟩) := ⟨List.mem_of_getElem? (i := 913) (by decide +kernel), by decide +kernel⟩
theorem tw_914 : gd_T (Cond.selects "IntervalRoutingModel" ⟨"IntervalRoutingModel", "follow", "(II)I"⟩ ⟨"IntervalRoutingModel", "follow", "(II)I"⟩) := ⟨List.mem_of_getElem? (i := 914) (by decide +kernel), by decide +kernel⟩
theorem tw_915 : gd_T (Cond.code ⟨"IntervalRoutingModel", "follow", "(II)I"⟩ prog_10_method_49_code 3 (some FieldType.int)) := ⟨List.mem_of_getElem? (i := 915) (by decide +kernel), by decide +kernel⟩
theorem tw_916 : gd_T (Cond.methodLink "IntervalRoutingModel" 157 ⟨"IntervalRoutingModel", "follows", "(II)I"⟩) := ⟨List.mem_of_getElem? (i := 916) (by decide +kernel), by decide +kernel⟩
theorem tw_918 : gd_T (Cond.instanceMethod ⟨"IntervalRoutingModel", "follows", "(II)I"⟩) := ⟨List.mem_of_getElem? (i := 918) (by decide +kernel), by decide +kernel⟩
theorem tw_919 : gd_T (Cond.code ⟨"IntervalRoutingModel", "follows", "(II)I"⟩ prog_10_method_48_code 7 (some FieldType.int)) := ⟨List.mem_of_getElem? (i := 919) (by decide +kernel), by decide +kernel⟩
theorem tw_920 : gd_T (Cond.methodLink "IntervalRoutingLaw" 101 ⟨"IntervalRoutingModel", "loops", "()I"⟩) := ⟨List.mem_of_getElem? (i := 920) (by decide +kernel), by decide +kernel⟩
theorem tw_921 : gd_T (Cond.instanceMethod ⟨"IntervalRoutingModel", "loops", "()I"⟩) := ⟨List.mem_of_getElem? (i := 921) (by decide +kernel), by decide +kernel⟩
theorem tw_922 : gd_T (Cond.selects "IntervalRoutingModel" ⟨"IntervalRoutingModel", "loops", "()I"⟩ ⟨"IntervalRoutingModel", "loops", "()I"⟩) := ⟨List.mem_of_getElem? (i := 922) (by decide +kernel), by decide +kernel⟩
theorem tw_923 : gd_T (Cond.code ⟨"IntervalRoutingModel", "loops", "()I"⟩ prog_10_method_50_code 4 (some FieldType.int)) := ⟨List.mem_of_getElem? (i := 923) (by decide +kernel), by decide +kernel⟩
theorem tw_924 : gd_T (Cond.methodLink "IntervalRoutingLaw" 105 ⟨"IntervalRoutingModel", "settling", "()I"⟩) := ⟨List.mem_of_getElem? (i := 924) (by decide +kernel), by decide +kernel⟩
theorem tw_925 : gd_T (Cond.instanceMethod ⟨"IntervalRoutingModel", "settling", "()I"⟩) := ⟨List.mem_of_getElem? (i := 925) (by decide +kernel), by decide +kernel⟩
theorem tw_926 : gd_T (Cond.selects "IntervalRoutingModel" ⟨"IntervalRoutingModel", "settling", "()I"⟩ ⟨"IntervalRoutingModel", "settling", "()I"⟩) := ⟨List.mem_of_getElem? (i := 926) (by decide +kernel), by decide +kernel⟩
theorem tw_927 : gd_T (Cond.code ⟨"IntervalRoutingModel", "settling", "()I"⟩ prog_10_method_53_code 4 (some FieldType.int)) := ⟨List.mem_of_getElem? (i := 927) (by decide +kernel), by decide +kernel⟩
theorem tw_928 : gd_T (Cond.methodLink "IntervalRoutingModel" 160 ⟨"IntervalRoutingModel", "putsAside", "()V"⟩) := ⟨List.mem_of_getElem? (i := 928) (by decide +kernel), by decide +kernel⟩
theorem tw_930 : gd_T (Cond.instanceMethod ⟨"IntervalRoutingModel", "putsAside", "()V"⟩) := ⟨List.mem_of_getElem? (i := 930) (by decide +kernel), by decide +kernel⟩
theorem tw_931 : gd_T (Cond.code ⟨"IntervalRoutingModel", "putsAside", "()V"⟩ prog_10_method_51_code 2 (Option.none : Option Jvm.ClassFile.FieldType)) := ⟨List.mem_of_getElem? (i := 931) (by decide +kernel), by decide +kernel⟩
theorem tw_932 : gd_T (Cond.methodLink "IntervalRoutingModel" 163 ⟨"IntervalRoutingModel", "putsBack", "()V"⟩) := ⟨List.mem_of_getElem? (i := 932) (by decide +kernel), by decide +kernel⟩
theorem tw_934 : gd_T (Cond.instanceMethod ⟨"IntervalRoutingModel", "putsBack", "()V"⟩) := ⟨List.mem_of_getElem? (i := 934) (by decide +kernel), by decide +kernel⟩
theorem tw_935 : gd_T (Cond.code ⟨"IntervalRoutingModel", "putsBack", "()V"⟩ prog_10_method_52_code 2 (Option.none : Option Jvm.ClassFile.FieldType)) := ⟨List.mem_of_getElem? (i := 935) (by decide +kernel), by decide +kernel⟩
theorem tw_936 : gd_T (Cond.methodLink "IntervalRoutingLaw" 109 ⟨"IntervalRoutingModel", "loss", "(II)I"⟩) := ⟨List.mem_of_getElem? (i := 936) (by decide +kernel), by decide +kernel⟩
theorem tw_937 : gd_T (Cond.instanceMethod ⟨"IntervalRoutingModel", "loss", "(II)I"⟩) := ⟨List.mem_of_getElem? (i := 937) (by decide +kernel), by decide +kernel⟩
theorem tw_938 : gd_T (Cond.selects "IntervalRoutingModel" ⟨"IntervalRoutingModel", "loss", "(II)I"⟩ ⟨"IntervalRoutingModel", "loss", "(II)I"⟩) := ⟨List.mem_of_getElem? (i := 938) (by decide +kernel), by decide +kernel⟩
theorem tw_939 : gd_T (Cond.code ⟨"IntervalRoutingModel", "loss", "(II)I"⟩ prog_10_method_55_code 6 (some FieldType.int)) := ⟨List.mem_of_getElem? (i := 939) (by decide +kernel), by decide +kernel⟩
theorem tw_940 : gd_T (Cond.methodLink "IntervalRoutingModel" 166 ⟨"IntervalRoutingModel", "pairs", "()I"⟩) := ⟨List.mem_of_getElem? (i := 940) (by decide +kernel), by decide +kernel⟩
theorem tw_942 : gd_T (Cond.instanceMethod ⟨"IntervalRoutingModel", "pairs", "()I"⟩) := ⟨List.mem_of_getElem? (i := 942) (by decide +kernel), by decide +kernel⟩
theorem tw_943 : gd_T (Cond.code ⟨"IntervalRoutingModel", "pairs", "()I"⟩ prog_10_method_54_code 3 (some FieldType.int)) := ⟨List.mem_of_getElem? (i := 943) (by decide +kernel), by decide +kernel⟩
theorem tw_944 : gd_T (Cond.methodLink "IntervalRoutingLaw" 113 ⟨"IntervalRoutingModel", "recovery", "(II)I"⟩) := ⟨List.mem_of_getElem? (i := 944) (by decide +kernel), by decide +kernel⟩
theorem tw_945 : gd_T (Cond.instanceMethod ⟨"IntervalRoutingModel", "recovery", "(II)I"⟩) := ⟨List.mem_of_getElem? (i := 945) (by decide +kernel), by decide +kernel⟩
theorem tw_946 : gd_T (Cond.selects "IntervalRoutingModel" ⟨"IntervalRoutingModel", "recovery", "(II)I"⟩ ⟨"IntervalRoutingModel", "recovery", "(II)I"⟩) := ⟨List.mem_of_getElem? (i := 946) (by decide +kernel), by decide +kernel⟩
theorem tw_947 : gd_T (Cond.code ⟨"IntervalRoutingModel", "recovery", "(II)I"⟩ prog_10_method_56_code 6 (some FieldType.int)) := ⟨List.mem_of_getElem? (i := 947) (by decide +kernel), by decide +kernel⟩
theorem tw_948 : gd_T (Cond.methodLink "IntervalRoutingModel" 170 ⟨"IntervalRoutingModel", "loops", "()I"⟩) := ⟨List.mem_of_getElem? (i := 948) (by decide +kernel), by decide +kernel⟩
theorem tw_949 : gd_T (Cond.methodLink "IntervalRoutingLaw" 117 ⟨"IntervalRoutingModel", "store", "()I"⟩) := ⟨List.mem_of_getElem? (i := 949) (by decide +kernel), by decide +kernel⟩
theorem tw_950 : gd_T (Cond.instanceMethod ⟨"IntervalRoutingModel", "store", "()I"⟩) := ⟨List.mem_of_getElem? (i := 950) (by decide +kernel), by decide +kernel⟩
theorem tw_951 : gd_T (Cond.selects "IntervalRoutingModel" ⟨"IntervalRoutingModel", "store", "()I"⟩ ⟨"IntervalRoutingModel", "store", "()I"⟩) := ⟨List.mem_of_getElem? (i := 951) (by decide +kernel), by decide +kernel⟩
theorem tw_952 : gd_T (Cond.code ⟨"IntervalRoutingModel", "store", "()I"⟩ prog_10_method_57_code 2 (some FieldType.int)) := ⟨List.mem_of_getElem? (i := 952) (by decide +kernel), by decide +kernel⟩
theorem tw_953 : gd_T (Cond.methodLink "IntervalRoutingLaw" 121 ⟨"IntervalRoutingModel", "recall", "()I"⟩) := ⟨List.mem_of_getElem? (i := 953) (by decide +kernel), by decide +kernel⟩
theorem tw_954 : gd_T (Cond.instanceMethod ⟨"IntervalRoutingModel", "recall", "()I"⟩) := ⟨List.mem_of_getElem? (i := 954) (by decide +kernel), by decide +kernel⟩
theorem tw_955 : gd_T (Cond.selects "IntervalRoutingModel" ⟨"IntervalRoutingModel", "recall", "()I"⟩ ⟨"IntervalRoutingModel", "recall", "()I"⟩) := ⟨List.mem_of_getElem? (i := 955) (by decide +kernel), by decide +kernel⟩
theorem tw_956 : gd_T (Cond.code ⟨"IntervalRoutingModel", "recall", "()I"⟩ prog_10_method_58_code 2 (some FieldType.int)) := ⟨List.mem_of_getElem? (i := 956) (by decide +kernel), by decide +kernel⟩
def nw_L : List Cond := [Cond.methodLinkNest "IntervalRouting" 23 ⟨"IntervalRouting$State", "<init>", "()V"⟩ "IntervalRouting", Cond.methodLinkNest "IntervalRouting$State" 11 ⟨"IntervalRouting$Links", "<init>", "()V"⟩ "IntervalRouting", Cond.methodLinkNest "IntervalRouting$State" 20 ⟨"IntervalRouting$Tables", "<init>", "()V"⟩ "IntervalRouting", Cond.methodLinkNest "IntervalRouting$State" 27 ⟨"IntervalRouting$Vectors", "<init>", "()V"⟩ "IntervalRouting", Cond.methodLinkNest "IntervalRouting$State" 34 ⟨"IntervalRouting$Journal", "<init>", "()V"⟩ "IntervalRouting", Cond.methodLinkNest "IntervalRouting" 36 ⟨"IntervalRouting$Survey", "<init>", "()V"⟩ "IntervalRouting", Cond.methodLinkNest "IntervalRouting" 43 ⟨"IntervalRouting$Ways", "<init>", "()V"⟩ "IntervalRouting", Cond.methodLinkNest "IntervalRouting$Links" 24 ⟨"IntervalRouting", "pair", "(II)I"⟩ "IntervalRouting", Cond.methodLinkNest "IntervalRouting$Survey" 66 ⟨"IntervalRouting", "pair", "(II)I"⟩ "IntervalRouting", Cond.methodLinkNest "IntervalRouting$Survey" 89 ⟨"IntervalRouting", "slot", "(III)I"⟩ "IntervalRouting", Cond.methodLinkNest "IntervalRouting$Vectors" 18 ⟨"IntervalRouting", "pair", "(II)I"⟩ "IntervalRouting", Cond.methodLinkNest "IntervalRouting$State" 88 ⟨"IntervalRouting", "slot", "(III)I"⟩ "IntervalRouting", Cond.methodLinkNest "IntervalRouting$Ways" 16 ⟨"IntervalRouting", "pair", "(II)I"⟩ "IntervalRouting"]
theorem nw_in : ∀ w ∈ nw_L, w ∈ lw_tbl := by
  intro w hw
  simp only [nw_L, List.mem_cons, List.not_mem_nil, or_false] at hw
  rcases hw with rfl | rfl | rfl | rfl | rfl | rfl | rfl | rfl | rfl | rfl | rfl | rfl | rfl
  · exact List.mem_of_getElem? (i := 70) (by decide +kernel)
  · exact List.mem_of_getElem? (i := 76) (by decide +kernel)
  · exact List.mem_of_getElem? (i := 105) (by decide +kernel)
  · exact List.mem_of_getElem? (i := 134) (by decide +kernel)
  · exact List.mem_of_getElem? (i := 147) (by decide +kernel)
  · exact List.mem_of_getElem? (i := 197) (by decide +kernel)
  · exact List.mem_of_getElem? (i := 242) (by decide +kernel)
  · exact List.mem_of_getElem? (i := 324) (by decide +kernel)
  · exact List.mem_of_getElem? (i := 405) (by decide +kernel)
  · exact List.mem_of_getElem? (i := 410) (by decide +kernel)
  · exact List.mem_of_getElem? (i := 459) (by decide +kernel)
  · exact List.mem_of_getElem? (i := 513) (by decide +kernel)
  · exact List.mem_of_getElem? (i := 581) (by decide +kernel)
def mX0_init : mi_T := (yX0_init, cX0_init, 1, (Option.none : Option Jvm.ClassFile.FieldType), 1, 20)
def mX0_size : mi_T := (yX0_size, cX0_size, 1, (some FieldType.int), 1, 21)
def mX0_add : mi_T := (yX0_add, cX0_add, 6, (Option.none : Option Jvm.ClassFile.FieldType), 0, 0)
def mX0_value : mi_T := (yX0_value, cX0_value, 3, (some FieldType.int), 0, 0)
def mX0_clear : mi_T := (yX0_clear, cX0_clear, 1, (Option.none : Option Jvm.ClassFile.FieldType), 1, 23)
def mX0_copyFrom : mi_T := (yX0_copyFrom, cX0_copyFrom, 2, (Option.none : Option Jvm.ClassFile.FieldType), 1, 26)
def mX1_init : mi_T := (yX1_init, cX1_init, 1, (Option.none : Option Jvm.ClassFile.FieldType), 1, 20)
def mX1_joins : mi_T := (yX1_joins, cX1_joins, 3, (some FieldType.boolean), 1, 21)
def mX1_isUp : mi_T := (yX1_isUp, cX1_isUp, 3, (some FieldType.boolean), 1, 21)
def mX1_insert : mi_T := (yX1_insert, cX1_insert, 5, (Option.none : Option Jvm.ClassFile.FieldType), 2, 45)
def mX1_delete : mi_T := (yX1_delete, cX1_delete, 3, (Option.none : Option Jvm.ClassFile.FieldType), 2, 45)
def mX1_putBounds : mi_T := (yX1_putBounds, cX1_putBounds, 5, (Option.none : Option Jvm.ClassFile.FieldType), 1, 21)
def mX1_putCost : mi_T := (yX1_putCost, cX1_putCost, 4, (Option.none : Option Jvm.ClassFile.FieldType), 1, 21)
def mX1_putUp : mi_T := (yX1_putUp, cX1_putUp, 4, (Option.none : Option Jvm.ClassFile.FieldType), 1, 21)
def mX1_clear : mi_T := (yX1_clear, cX1_clear, 1, (Option.none : Option Jvm.ClassFile.FieldType), 1, 23)
def mX1_copyFrom : mi_T := (yX1_copyFrom, cX1_copyFrom, 2, (Option.none : Option Jvm.ClassFile.FieldType), 1, 26)
def mX2_init : mi_T := (yX2_init, cX2_init, 1, (Option.none : Option Jvm.ClassFile.FieldType), 2, 40)
def mX2_startAnew : mi_T := (yX2_startAnew, cX2_startAnew, 2, (Option.none : Option Jvm.ClassFile.FieldType), 2, 43)
def mX2_copyFrom : mi_T := (yX2_copyFrom, cX2_copyFrom, 2, (Option.none : Option Jvm.ClassFile.FieldType), 2, 47)
def mX2_isUsable : mi_T := (yX2_isUsable, cX2_isUsable, 5, (some FieldType.boolean), 2, 44)
def mX2_isDominated : mi_T := (yX2_isDominated, cX2_isDominated, 6, (some FieldType.boolean), 3, 68)
def mX3_init : mi_T := (yX3_init, cX3_init, 1, (Option.none : Option Jvm.ClassFile.FieldType), 1, 20)
def mX3_reaches : mi_T := (yX3_reaches, cX3_reaches, 2, (some FieldType.boolean), 0, 0)
def mX3_take : mi_T := (yX3_take, cX3_take, 5, (Option.none : Option Jvm.ClassFile.FieldType), 4, 95)
def mX3_takeOne : mi_T := (yX3_takeOne, cX3_takeOne, 5, (Option.none : Option Jvm.ClassFile.FieldType), 4, 95)
def mX3_findNeighbours : mi_T := (yX3_findNeighbours, cX3_findNeighbours, 4, (Option.none : Option Jvm.ClassFile.FieldType), 2, 43)
def mX3_look : mi_T := (yX3_look, cX3_look, 6, (Option.none : Option Jvm.ClassFile.FieldType), 3, 70)
def mX3_gather : mi_T := (yX3_gather, cX3_gather, 7, (Option.none : Option Jvm.ClassFile.FieldType), 2, 44)
def mX3_putDistance : mi_T := (yX3_putDistance, cX3_putDistance, 6, (Option.none : Option Jvm.ClassFile.FieldType), 1, 21)
def mX3_rankAll : mi_T := (yX3_rankAll, cX3_rankAll, 3, (Option.none : Option Jvm.ClassFile.FieldType), 2, 44)
def mX3_choose : mi_T := (yX3_choose, cX3_choose, 3, (some FieldType.int), 1, 22)
def mX3_isBetter : mi_T := (yX3_isBetter, cX3_isBetter, 3, (some FieldType.boolean), 0, 0)
def mX3_regret : mi_T := (yX3_regret, cX3_regret, 4, (some FieldType.int), 1, 21)
def mX3_walk : mi_T := (yX3_walk, cX3_walk, 7, (some FieldType.int), 1, 21)
def mX3_countLoops : mi_T := (yX3_countLoops, cX3_countLoops, 6, (some FieldType.int), 2, 47)
def mX4_init : mi_T := (yX4_init, cX4_init, 1, (Option.none : Option Jvm.ClassFile.FieldType), 1, 20)
def mX4_has : mi_T := (yX4_has, cX4_has, 2, (some FieldType.boolean), 0, 0)
def mX4_isOpen : mi_T := (yX4_isOpen, cX4_isOpen, 4, (some FieldType.boolean), 1, 21)
def mX4_dominates : mi_T := (yX4_dominates, cX4_dominates, 4, (some FieldType.boolean), 0, 0)
def mX4_receive : mi_T := (yX4_receive, cX4_receive, 6, (Option.none : Option Jvm.ClassFile.FieldType), 1, 22)
def mX4_countGrowth : mi_T := (yX4_countGrowth, cX4_countGrowth, 3, (Option.none : Option Jvm.ClassFile.FieldType), 0, 0)
def mX4_clear : mi_T := (yX4_clear, cX4_clear, 1, (Option.none : Option Jvm.ClassFile.FieldType), 1, 23)
def mX4_copyFrom : mi_T := (yX4_copyFrom, cX4_copyFrom, 2, (Option.none : Option Jvm.ClassFile.FieldType), 1, 26)
def mX5_init : mi_T := (yX5_init, cX5_init, 1, (Option.none : Option Jvm.ClassFile.FieldType), 1, 20)
def mX5_differs : mi_T := (yX5_differs, cX5_differs, 6, (some FieldType.boolean), 1, 21)
def mX5_keep : mi_T := (yX5_keep, cX5_keep, 6, (Option.none : Option Jvm.ClassFile.FieldType), 1, 21)
def mX5_clear : mi_T := (yX5_clear, cX5_clear, 1, (Option.none : Option Jvm.ClassFile.FieldType), 1, 23)
def mX5_copyFrom : mi_T := (yX5_copyFrom, cX5_copyFrom, 2, (Option.none : Option Jvm.ClassFile.FieldType), 1, 26)
def mX6_init : mi_T := (yX6_init, cX6_init, 1, (Option.none : Option Jvm.ClassFile.FieldType), 1, 20)
def mX6_exists : mi_T := (yX6_exists, cX6_exists, 2, (some FieldType.boolean), 0, 0)
def mX6_measure : mi_T := (yX6_measure, cX6_measure, 7, (Option.none : Option Jvm.ClassFile.FieldType), 2, 46)
def mX6_shorten : mi_T := (yX6_shorten, cX6_shorten, 6, (Option.none : Option Jvm.ClassFile.FieldType), 1, 21)
def mX6_countPairs : mi_T := (yX6_countPairs, cX6_countPairs, 5, (some FieldType.int), 1, 21)
def mX7_init : mi_T := (yX7_init, cX7_init, 1, (Option.none : Option Jvm.ClassFile.FieldType), 3, 64)
def mX7_reset : mi_T := (yX7_reset, cX7_reset, 3, (some FieldType.int), 3, 64)
def mX7_addLink : mi_T := (yX7_addLink, cX7_addLink, 5, (some FieldType.int), 3, 69)
def mX7_removeLink : mi_T := (yX7_removeLink, cX7_removeLink, 3, (some FieldType.int), 3, 67)
def mX7_setCost : mi_T := (yX7_setCost, cX7_setCost, 6, (some FieldType.int), 2, 44)
def mX7_setUp : mi_T := (yX7_setUp, cX7_setUp, 5, (some FieldType.int), 2, 44)
def mX7_link : mi_T := (yX7_link, cX7_link, 5, (some FieldType.int), 2, 43)
def mX7_set : mi_T := (yX7_set, cX7_set, 4, (some FieldType.int), 2, 42)
def mX7_run : mi_T := (yX7_run, cX7_run, 3, (some FieldType.int), 6, 141)
def mX7_time : mi_T := (yX7_time, cX7_time, 1, (some FieldType.int), 0, 0)
def mX7_sent : mi_T := (yX7_sent, cX7_sent, 1, (some FieldType.int), 0, 0)
def mX7_entry : mi_T := (yX7_entry, cX7_entry, 6, (some FieldType.int), 4, 93)
def mX7_distance : mi_T := (yX7_distance, cX7_distance, 5, (some FieldType.int), 5, 119)
def mX7_choice : mi_T := (yX7_choice, cX7_choice, 4, (some FieldType.int), 5, 119)
def mX7_entries : mi_T := (yX7_entries, cX7_entries, 6, (some FieldType.int), 5, 118)
def mX7_meanWidthBits : mi_T := (yX7_meanWidthBits, cX7_meanWidthBits, 6, (some FieldType.int), 5, 119)
def mX7_journalSize : mi_T := (yX7_journalSize, cX7_journalSize, 1, (some FieldType.int), 2, 41)
def mX7_journal : mi_T := (yX7_journal, cX7_journal, 3, (some FieldType.int), 2, 41)
def mX7_trueDistance : mi_T := (yX7_trueDistance, cX7_trueDistance, 4, (some FieldType.int), 3, 72)
def mX7_wrongPairs : mi_T := (yX7_wrongPairs, cX7_wrongPairs, 4, (some FieldType.int), 5, 119)
def mX7_follow : mi_T := (yX7_follow, cX7_follow, 3, (some FieldType.int), 5, 119)
def mX7_loops : mi_T := (yX7_loops, cX7_loops, 1, (some FieldType.int), 5, 119)
def mX7_settling : mi_T := (yX7_settling, cX7_settling, 4, (some FieldType.int), 6, 141)
def mX7_loss : mi_T := (yX7_loss, cX7_loss, 4, (some FieldType.int), 3, 72)
def mX7_recovery : mi_T := (yX7_recovery, cX7_recovery, 5, (some FieldType.int), 6, 141)
def mX7_store : mi_T := (yX7_store, cX7_store, 1, (some FieldType.int), 3, 68)
def mX7_recall : mi_T := (yX7_recall, cX7_recall, 1, (some FieldType.int), 3, 68)
def mX7_isNode : mi_T := (yX7_isNode, cX7_isNode, 2, (some FieldType.boolean), 0, 0)
def mX7_isPair : mi_T := (yX7_isPair, cX7_isPair, 3, (some FieldType.boolean), 1, 21)
def mX7_isBetween : mi_T := (yX7_isBetween, cX7_isBetween, 3, (some FieldType.boolean), 0, 0)
def mX7_isSetting : mi_T := (yX7_isSetting, cX7_isSetting, 1, (some FieldType.boolean), 1, 22)
def mX7_asNumber : mi_T := (yX7_asNumber, cX7_asNumber, 1, (some FieldType.int), 0, 0)
def mX7_pair : mi_T := (yX7_pair, cX7_pair, 2, (some FieldType.int), 0, 0)
def mX7_slot : mi_T := (yX7_slot, cX7_slot, 3, (some FieldType.int), 0, 0)
def mX7_counts : mi_T := (yX7_counts, cX7_counts, 6, (some FieldType.boolean), 4, 93)
def mX7_isWrong : mi_T := (yX7_isWrong, cX7_isWrong, 2, (some FieldType.boolean), 1, 22)
def mX7_bitsOf : mi_T := (yX7_bitsOf, cX7_bitsOf, 4, (some FieldType.int), 0, 0)
def mX7_makeTick : mi_T := (yX7_makeTick, cX7_makeTick, 3, (some FieldType.int), 5, 119)
def mX7_chooseSpeakers : mi_T := (yX7_chooseSpeakers, cX7_chooseSpeakers, 3, (Option.none : Option Jvm.ClassFile.FieldType), 2, 46)
def mX7_isDue : mi_T := (yX7_isDue, cX7_isDue, 4, (some FieldType.boolean), 0, 0)
def mX7_speak : mi_T := (yX7_speak, cX7_speak, 5, (Option.none : Option Jvm.ClassFile.FieldType), 3, 76)
def mX7_announce : mi_T := (yX7_announce, cX7_announce, 10, (Option.none : Option Jvm.ClassFile.FieldType), 2, 47)
def mX7_noteChanges : mi_T := (yX7_noteChanges, cX7_noteChanges, 7, (some FieldType.int), 1, 25)
def mX8_init : mi_T := (yX8_init, cX8_init, 1, (Option.none : Option Jvm.ClassFile.FieldType), 1, 21)
def mX8_begins : mi_T := (yX8_begins, cX8_begins, 2, (Option.none : Option Jvm.ClassFile.FieldType), 0, 0)
def mX8_in : mi_T := (yX8_in, cX8_in, 3, (some FieldType.boolean), 0, 0)
def mX8_isNode : mi_T := (yX8_isNode, cX8_isNode, 2, (some FieldType.boolean), 1, 22)
def mX8_arePair : mi_T := (yX8_arePair, cX8_arePair, 3, (some FieldType.boolean), 2, 43)
def mX8_linkAt : mi_T := (yX8_linkAt, cX8_linkAt, 3, (some FieldType.int), 0, 0)
def mX8_entryAt : mi_T := (yX8_entryAt, cX8_entryAt, 4, (some FieldType.int), 0, 0)
def mX8_isLink : mi_T := (yX8_isLink, cX8_isLink, 3, (some FieldType.boolean), 1, 22)
def mX8_areNear : mi_T := (yX8_areNear, cX8_areNear, 3, (some FieldType.boolean), 2, 44)
def mX8_sets : mi_T := (yX8_sets, cX8_sets, 5, (Option.none : Option Jvm.ClassFile.FieldType), 1, 22)
def mX8_reset : mi_T := (yX8_reset, cX8_reset, 3, (some FieldType.int), 1, 22)
def mX8_addLink : mi_T := (yX8_addLink, cX8_addLink, 5, (some FieldType.int), 3, 65)
def mX8_removeLink : mi_T := (yX8_removeLink, cX8_removeLink, 4, (some FieldType.int), 3, 65)
def mX8_setCost : mi_T := (yX8_setCost, cX8_setCost, 5, (some FieldType.int), 3, 65)
def mX8_setUp : mi_T := (yX8_setUp, cX8_setUp, 5, (some FieldType.int), 3, 65)
def mX8_link : mi_T := (yX8_link, cX8_link, 4, (some FieldType.int), 3, 65)
def mX8_set : mi_T := (yX8_set, cX8_set, 4, (some FieldType.int), 1, 22)
def mX8_of : mi_T := (yX8_of, cX8_of, 5, (some FieldType.int), 1, 23)
def mX8_isEntry : mi_T := (yX8_isEntry, cX8_isEntry, 4, (some FieldType.boolean), 2, 47)
def mX8_isUsable : mi_T := (yX8_isUsable, cX8_isUsable, 5, (some FieldType.boolean), 3, 70)
def mX8_least : mi_T := (yX8_least, cX8_least, 8, (some FieldType.int), 4, 94)
def mX8_boundOf : mi_T := (yX8_boundOf, cX8_boundOf, 4, (some FieldType.int), 5, 121)
def mX8_weight : mi_T := (yX8_weight, cX8_weight, 8, (some FieldType.int), 5, 121)
def mX8_choiceOf : mi_T := (yX8_choiceOf, cX8_choiceOf, 6, (some FieldType.int), 6, 148)
def mX8_isDominated : mi_T := (yX8_isDominated, cX8_isDominated, 7, (some FieldType.boolean), 4, 94)
def mX8_looks : mi_T := (yX8_looks, cX8_looks, 5, (Option.none : Option Jvm.ClassFile.FieldType), 7, 173)
def mX8_sentAt : mi_T := (yX8_sentAt, cX8_sentAt, 2, (some FieldType.int), 0, 0)
def mX8_isNew : mi_T := (yX8_isNew, cX8_isNew, 4, (some FieldType.boolean), 1, 21)
def mX8_keepsSent : mi_T := (yX8_keepsSent, cX8_keepsSent, 3, (Option.none : Option Jvm.ClassFile.FieldType), 1, 21)
def mX8_limited : mi_T := (yX8_limited, cX8_limited, 2, (some FieldType.int), 0, 0)
def mX8_receives : mi_T := (yX8_receives, cX8_receives, 11, (Option.none : Option Jvm.ClassFile.FieldType), 1, 23)
def mX8_sendsAll : mi_T := (yX8_sendsAll, cX8_sendsAll, 6, (Option.none : Option Jvm.ClassFile.FieldType), 3, 66)
def mX8_notes : mi_T := (yX8_notes, cX8_notes, 5, (Option.none : Option Jvm.ClassFile.FieldType), 0, 0)
def mX8_tick : mi_T := (yX8_tick, cX8_tick, 4, (Option.none : Option Jvm.ClassFile.FieldType), 8, 197)
def mX8_run : mi_T := (yX8_run, cX8_run, 3, (some FieldType.int), 9, 220)
def mX8_time : mi_T := (yX8_time, cX8_time, 1, (some FieldType.int), 0, 0)
def mX8_sent : mi_T := (yX8_sent, cX8_sent, 1, (some FieldType.int), 0, 0)
def mX8_entry : mi_T := (yX8_entry, cX8_entry, 5, (some FieldType.int), 5, 120)
def mX8_distance : mi_T := (yX8_distance, cX8_distance, 5, (some FieldType.int), 6, 144)
def mX8_choice : mi_T := (yX8_choice, cX8_choice, 4, (some FieldType.int), 7, 173)
def mX8_entries : mi_T := (yX8_entries, cX8_entries, 7, (some FieldType.int), 5, 120)
def mX8_meanWidthBits : mi_T := (yX8_meanWidthBits, cX8_meanWidthBits, 6, (some FieldType.int), 6, 144)
def mX8_journalSize : mi_T := (yX8_journalSize, cX8_journalSize, 1, (some FieldType.int), 0, 0)
def mX8_journal : mi_T := (yX8_journal, cX8_journal, 3, (some FieldType.int), 1, 22)
def mX8_measures : mi_T := (yX8_measures, cX8_measures, 8, (Option.none : Option Jvm.ClassFile.FieldType), 3, 66)
def mX8_trueDistance : mi_T := (yX8_trueDistance, cX8_trueDistance, 3, (some FieldType.int), 4, 93)
def mX8_wrongPairs : mi_T := (yX8_wrongPairs, cX8_wrongPairs, 7, (some FieldType.int), 6, 144)
def mX8_follows : mi_T := (yX8_follows, cX8_follows, 7, (some FieldType.int), 7, 173)
def mX8_follow : mi_T := (yX8_follow, cX8_follow, 3, (some FieldType.int), 8, 199)
def mX8_loops : mi_T := (yX8_loops, cX8_loops, 4, (some FieldType.int), 8, 199)
def mX8_putsAside : mi_T := (yX8_putsAside, cX8_putsAside, 2, (Option.none : Option Jvm.ClassFile.FieldType), 0, 0)
def mX8_putsBack : mi_T := (yX8_putsBack, cX8_putsBack, 2, (Option.none : Option Jvm.ClassFile.FieldType), 0, 0)
def mX8_settling : mi_T := (yX8_settling, cX8_settling, 4, (some FieldType.int), 9, 220)
def mX8_pairs : mi_T := (yX8_pairs, cX8_pairs, 3, (some FieldType.int), 4, 93)
def mX8_loss : mi_T := (yX8_loss, cX8_loss, 6, (some FieldType.int), 5, 115)
def mX8_recovery : mi_T := (yX8_recovery, cX8_recovery, 6, (some FieldType.int), 9, 222)
def mX8_store : mi_T := (yX8_store, cX8_store, 2, (some FieldType.int), 0, 0)
def mX8_recall : mi_T := (yX8_recall, cX8_recall, 2, (some FieldType.int), 0, 0)
def mJxf58ca_isNaN_12338 : mi_T := (yJxf58ca_isNaN_12338, cJxf58ca_isNaN_12338, 1, (some FieldType.boolean), 0, 0)
def mJxf58ca_floatToIntBits_5c35a : mi_T := (yJxf58ca_floatToIntBits_5c35a, cJxf58ca_floatToIntBits_5c35a, 1, (some FieldType.int), 1, 23)
def mJ7_fill_53178 : mi_T := (yJ7_fill_53178, cJ7_fill_53178, 4, (Option.none : Option Jvm.ClassFile.FieldType), 0, 0)
def mk_at (z : mi_T) (n : Nat) : Prop := gd_T (.initialized z.1.cls) ∧ gd_T (.code z.1 z.2.1 z.2.2.1 z.2.2.2.1) ∧ (z.1.cls ≠ "java/lang/invoke/MethodHandle" ∧ z.1.cls ≠ "java/lang/invoke/VarHandle") ∧ (parseMethodDescriptor z.1.desc).map (fun d => d.parameters.length) = some n ∧ plainFor z.1 = true
def mv_at (z : mi_T) (n : Nat) : Prop := gd_T (.instanceMethod z.1) ∧ gd_T (.selects z.1.cls z.1 z.1) ∧ mk_at z n
def ms_at (z : mi_T) (n : Nat) : Prop := gd_T (.static z.1) ∧ mk_at z n
def fl_at (own : String) (idx ci k : Nat) : Prop := ∃ (C : String) (T : u_T) (N : Nat), vwCl[ci]? = some (C, T, N) ∧ k < N ∧ gd_T (.fieldLink own idx (T k).1 (T k).2.1 (T k).2.2.1)
theorem mi_X0_init : gd_T (.instanceMethod mX0_init.1) ∧ mk_at mX0_init 0 := ⟨tw_148, ⟨tw_42, tw_149, ⟨by decide +kernel, by decide +kernel⟩, by decide +kernel, by decide +kernel⟩⟩
theorem mv_X0_size : mv_at mX0_size 0 := ⟨tw_561, tw_562, ⟨tw_42, tw_563, ⟨by decide +kernel, by decide +kernel⟩, by decide +kernel, by decide +kernel⟩⟩
theorem mv_X0_add : mv_at mX0_add 4 := ⟨tw_492, tw_493, ⟨tw_42, tw_494, ⟨by decide +kernel, by decide +kernel⟩, by decide +kernel, by decide +kernel⟩⟩
theorem mv_X0_value : mv_at mX0_value 2 := ⟨tw_570, tw_571, ⟨tw_42, tw_572, ⟨by decide +kernel, by decide +kernel⟩, by decide +kernel, by decide +kernel⟩⟩
theorem mv_X0_clear : mv_at mX0_clear 0 := ⟨tw_273, tw_274, ⟨tw_42, tw_275, ⟨by decide +kernel, by decide +kernel⟩, by decide +kernel, by decide +kernel⟩⟩
theorem mv_X0_copyFrom : mv_at mX0_copyFrom 1 := ⟨tw_644, tw_645, ⟨tw_42, tw_646, ⟨by decide +kernel, by decide +kernel⟩, by decide +kernel, by decide +kernel⟩⟩
theorem mi_X1_init : gd_T (.instanceMethod mX1_init.1) ∧ mk_at mX1_init 0 := ⟨tw_77, ⟨tw_39, tw_78, ⟨by decide +kernel, by decide +kernel⟩, by decide +kernel, by decide +kernel⟩⟩
theorem mv_X1_joins : mv_at mX1_joins 2 := ⟨tw_321, tw_322, ⟨tw_39, tw_323, ⟨by decide +kernel, by decide +kernel⟩, by decide +kernel, by decide +kernel⟩⟩
theorem mv_X1_isUp : mv_at mX1_isUp 2 := ⟨tw_398, tw_399, ⟨tw_39, tw_400, ⟨by decide +kernel, by decide +kernel⟩, by decide +kernel, by decide +kernel⟩⟩
theorem mv_X1_insert : mv_at mX1_insert 4 := ⟨tw_328, tw_329, ⟨tw_39, tw_330, ⟨by decide +kernel, by decide +kernel⟩, by decide +kernel, by decide +kernel⟩⟩
theorem mv_X1_delete : mv_at mX1_delete 2 := ⟨tw_348, tw_349, ⟨tw_39, tw_350, ⟨by decide +kernel, by decide +kernel⟩, by decide +kernel, by decide +kernel⟩⟩
theorem mv_X1_putBounds : mv_at mX1_putBounds 4 := ⟨tw_332, tw_333, ⟨tw_39, tw_334, ⟨by decide +kernel, by decide +kernel⟩, by decide +kernel, by decide +kernel⟩⟩
theorem mv_X1_putCost : mv_at mX1_putCost 3 := ⟨tw_336, tw_337, ⟨tw_39, tw_338, ⟨by decide +kernel, by decide +kernel⟩, by decide +kernel, by decide +kernel⟩⟩
theorem mv_X1_putUp : mv_at mX1_putUp 3 := ⟨tw_340, tw_341, ⟨tw_39, tw_342, ⟨by decide +kernel, by decide +kernel⟩, by decide +kernel, by decide +kernel⟩⟩
theorem mv_X1_clear : mv_at mX1_clear 0 := ⟨tw_256, tw_257, ⟨tw_39, tw_258, ⟨by decide +kernel, by decide +kernel⟩, by decide +kernel, by decide +kernel⟩⟩
theorem mv_X1_copyFrom : mv_at mX1_copyFrom 1 := ⟨tw_627, tw_628, ⟨tw_39, tw_629, ⟨by decide +kernel, by decide +kernel⟩, by decide +kernel, by decide +kernel⟩⟩
theorem mi_X2_init : gd_T (.instanceMethod mX2_init.1) ∧ mk_at mX2_init 0 := ⟨tw_71, ⟨tw_38, tw_72, ⟨by decide +kernel, by decide +kernel⟩, by decide +kernel, by decide +kernel⟩⟩
theorem mv_X2_startAnew : mv_at mX2_startAnew 1 := ⟨tw_252, tw_253, ⟨tw_38, tw_254, ⟨by decide +kernel, by decide +kernel⟩, by decide +kernel, by decide +kernel⟩⟩
theorem mv_X2_copyFrom : mv_at mX2_copyFrom 1 := ⟨tw_623, tw_624, ⟨tw_38, tw_625, ⟨by decide +kernel, by decide +kernel⟩, by decide +kernel, by decide +kernel⟩⟩
theorem mv_X2_isUsable : mv_at mX2_isUsable 4 := ⟨tw_509, tw_510, ⟨tw_38, tw_511, ⟨by decide +kernel, by decide +kernel⟩, by decide +kernel, by decide +kernel⟩⟩
theorem mv_X2_isDominated : mv_at mX2_isDominated 4 := ⟨tw_519, tw_520, ⟨tw_38, tw_521, ⟨by decide +kernel, by decide +kernel⟩, by decide +kernel, by decide +kernel⟩⟩
theorem mi_X3_init : gd_T (.instanceMethod mX3_init.1) ∧ mk_at mX3_init 0 := ⟨tw_198, ⟨tw_43, tw_199, ⟨by decide +kernel, by decide +kernel⟩, by decide +kernel, by decide +kernel⟩⟩
theorem mv_X3_reaches : mv_at mX3_reaches 1 := ⟨tw_474, tw_475, ⟨tw_43, tw_476, ⟨by decide +kernel, by decide +kernel⟩, by decide +kernel, by decide +kernel⟩⟩
theorem mv_X3_take : mv_at mX3_take 2 := ⟨tw_390, tw_391, ⟨tw_43, tw_392, ⟨by decide +kernel, by decide +kernel⟩, by decide +kernel, by decide +kernel⟩⟩
theorem mv_X3_takeOne : mv_at mX3_takeOne 4 := ⟨tw_532, tw_533, ⟨tw_43, tw_534, ⟨by decide +kernel, by decide +kernel⟩, by decide +kernel, by decide +kernel⟩⟩
theorem mv_X3_findNeighbours : mv_at mX3_findNeighbours 2 := ⟨tw_394, tw_395, ⟨tw_43, tw_396, ⟨by decide +kernel, by decide +kernel⟩, by decide +kernel, by decide +kernel⟩⟩
theorem mv_X3_look : mv_at mX3_look 4 := ⟨tw_402, tw_403, ⟨tw_43, tw_404, ⟨by decide +kernel, by decide +kernel⟩, by decide +kernel, by decide +kernel⟩⟩
theorem mv_X3_gather : mv_at mX3_gather 4 := ⟨tw_407, tw_408, ⟨tw_43, tw_409, ⟨by decide +kernel, by decide +kernel⟩, by decide +kernel, by decide +kernel⟩⟩
theorem mv_X3_putDistance : mv_at mX3_putDistance 2 := ⟨tw_422, tw_423, ⟨tw_43, tw_424, ⟨by decide +kernel, by decide +kernel⟩, by decide +kernel, by decide +kernel⟩⟩
theorem mv_X3_rankAll : mv_at mX3_rankAll 1 := ⟨tw_429, tw_430, ⟨tw_43, tw_431, ⟨by decide +kernel, by decide +kernel⟩, by decide +kernel, by decide +kernel⟩⟩
theorem mv_X3_choose : mv_at mX3_choose 0 := ⟨tw_440, tw_441, ⟨tw_43, tw_442, ⟨by decide +kernel, by decide +kernel⟩, by decide +kernel, by decide +kernel⟩⟩
theorem mv_X3_isBetter : mv_at mX3_isBetter 2 := ⟨tw_444, tw_445, ⟨tw_43, tw_446, ⟨by decide +kernel, by decide +kernel⟩, by decide +kernel, by decide +kernel⟩⟩
theorem mv_X3_regret : mv_at mX3_regret 1 := ⟨tw_433, tw_434, ⟨tw_43, tw_435, ⟨by decide +kernel, by decide +kernel⟩, by decide +kernel, by decide +kernel⟩⟩
theorem mv_X3_walk : mv_at mX3_walk 2 := ⟨tw_606, tw_607, ⟨tw_43, tw_608, ⟨by decide +kernel, by decide +kernel⟩, by decide +kernel, by decide +kernel⟩⟩
theorem mv_X3_countLoops : mv_at mX3_countLoops 1 := ⟨tw_614, tw_615, ⟨tw_43, tw_616, ⟨by decide +kernel, by decide +kernel⟩, by decide +kernel, by decide +kernel⟩⟩
theorem mi_X4_init : gd_T (.instanceMethod mX4_init.1) ∧ mk_at mX4_init 0 := ⟨tw_106, ⟨tw_40, tw_107, ⟨by decide +kernel, by decide +kernel⟩, by decide +kernel, by decide +kernel⟩⟩
theorem mv_X4_has : mv_at mX4_has 1 := ⟨tw_418, tw_419, ⟨tw_40, tw_420, ⟨by decide +kernel, by decide +kernel⟩, by decide +kernel, by decide +kernel⟩⟩
theorem mv_X4_isOpen : mv_at mX4_isOpen 3 := ⟨tw_414, tw_415, ⟨tw_40, tw_416, ⟨by decide +kernel, by decide +kernel⟩, by decide +kernel, by decide +kernel⟩⟩
theorem mv_X4_dominates : mv_at mX4_dominates 2 := ⟨tw_524, tw_525, ⟨tw_40, tw_526, ⟨by decide +kernel, by decide +kernel⟩, by decide +kernel, by decide +kernel⟩⟩
theorem mv_X4_receive : mv_at mX4_receive 5 := ⟨tw_480, tw_481, ⟨tw_40, tw_482, ⟨by decide +kernel, by decide +kernel⟩, by decide +kernel, by decide +kernel⟩⟩
theorem mv_X4_countGrowth : mv_at mX4_countGrowth 2 := ⟨tw_484, tw_485, ⟨tw_40, tw_486, ⟨by decide +kernel, by decide +kernel⟩, by decide +kernel, by decide +kernel⟩⟩
theorem mv_X4_clear : mv_at mX4_clear 0 := ⟨tw_263, tw_264, ⟨tw_40, tw_265, ⟨by decide +kernel, by decide +kernel⟩, by decide +kernel, by decide +kernel⟩⟩
theorem mv_X4_copyFrom : mv_at mX4_copyFrom 1 := ⟨tw_634, tw_635, ⟨tw_40, tw_636, ⟨by decide +kernel, by decide +kernel⟩, by decide +kernel, by decide +kernel⟩⟩
theorem mi_X5_init : gd_T (.instanceMethod mX5_init.1) ∧ mk_at mX5_init 0 := ⟨tw_135, ⟨tw_41, tw_136, ⟨by decide +kernel, by decide +kernel⟩, by decide +kernel, by decide +kernel⟩⟩
theorem mv_X5_differs : mv_at mX5_differs 3 := ⟨tw_456, tw_457, ⟨tw_41, tw_458, ⟨by decide +kernel, by decide +kernel⟩, by decide +kernel, by decide +kernel⟩⟩
theorem mv_X5_keep : mv_at mX5_keep 3 := ⟨tw_461, tw_462, ⟨tw_41, tw_463, ⟨by decide +kernel, by decide +kernel⟩, by decide +kernel, by decide +kernel⟩⟩
theorem mv_X5_clear : mv_at mX5_clear 0 := ⟨tw_268, tw_269, ⟨tw_41, tw_270, ⟨by decide +kernel, by decide +kernel⟩, by decide +kernel, by decide +kernel⟩⟩
theorem mv_X5_copyFrom : mv_at mX5_copyFrom 1 := ⟨tw_639, tw_640, ⟨tw_41, tw_641, ⟨by decide +kernel, by decide +kernel⟩, by decide +kernel, by decide +kernel⟩⟩
theorem mi_X6_init : gd_T (.instanceMethod mX6_init.1) ∧ mk_at mX6_init 0 := ⟨tw_243, ⟨tw_44, tw_244, ⟨by decide +kernel, by decide +kernel⟩, by decide +kernel, by decide +kernel⟩⟩
theorem mv_X6_exists : mv_at mX6_exists 1 := ⟨tw_590, tw_591, ⟨tw_44, tw_592, ⟨by decide +kernel, by decide +kernel⟩, by decide +kernel, by decide +kernel⟩⟩
theorem mv_X6_measure : mv_at mX6_measure 2 := ⟨tw_578, tw_579, ⟨tw_44, tw_580, ⟨by decide +kernel, by decide +kernel⟩, by decide +kernel, by decide +kernel⟩⟩
theorem mv_X6_shorten : mv_at mX6_shorten 2 := ⟨tw_585, tw_586, ⟨tw_44, tw_587, ⟨by decide +kernel, by decide +kernel⟩, by decide +kernel, by decide +kernel⟩⟩
theorem mv_X6_countPairs : mv_at mX6_countPairs 1 := ⟨tw_654, tw_655, ⟨tw_44, tw_656, ⟨by decide +kernel, by decide +kernel⟩, by decide +kernel, by decide +kernel⟩⟩
theorem mi_X7_init : gd_T (.instanceMethod mX7_init.1) ∧ mk_at mX7_init 0 := ⟨tw_54, ⟨tw_37, tw_55, ⟨by decide +kernel, by decide +kernel⟩, by decide +kernel, by decide +kernel⟩⟩
theorem mv_X7_reset : mv_at mX7_reset 1 := ⟨tw_305, tw_306, ⟨tw_37, tw_307, ⟨by decide +kernel, by decide +kernel⟩, by decide +kernel, by decide +kernel⟩⟩
theorem mv_X7_addLink : mv_at mX7_addLink 4 := ⟨tw_309, tw_310, ⟨tw_37, tw_311, ⟨by decide +kernel, by decide +kernel⟩, by decide +kernel, by decide +kernel⟩⟩
theorem mv_X7_removeLink : mv_at mX7_removeLink 2 := ⟨tw_344, tw_345, ⟨tw_37, tw_346, ⟨by decide +kernel, by decide +kernel⟩, by decide +kernel, by decide +kernel⟩⟩
theorem mv_X7_setCost : mv_at mX7_setCost 3 := ⟨tw_352, tw_353, ⟨tw_37, tw_354, ⟨by decide +kernel, by decide +kernel⟩, by decide +kernel, by decide +kernel⟩⟩
theorem mv_X7_setUp : mv_at mX7_setUp 3 := ⟨tw_358, tw_359, ⟨tw_37, tw_360, ⟨by decide +kernel, by decide +kernel⟩, by decide +kernel, by decide +kernel⟩⟩
theorem mv_X7_link : mv_at mX7_link 3 := ⟨tw_366, tw_367, ⟨tw_37, tw_368, ⟨by decide +kernel, by decide +kernel⟩, by decide +kernel, by decide +kernel⟩⟩
theorem mv_X7_set : mv_at mX7_set 2 := ⟨tw_370, tw_371, ⟨tw_37, tw_372, ⟨by decide +kernel, by decide +kernel⟩, by decide +kernel, by decide +kernel⟩⟩
theorem mv_X7_run : mv_at mX7_run 1 := ⟨tw_381, tw_382, ⟨tw_37, tw_383, ⟨by decide +kernel, by decide +kernel⟩, by decide +kernel, by decide +kernel⟩⟩
theorem mv_X7_time : mv_at mX7_time 0 := ⟨tw_496, tw_497, ⟨tw_37, tw_498, ⟨by decide +kernel, by decide +kernel⟩, by decide +kernel, by decide +kernel⟩⟩
theorem mv_X7_sent : mv_at mX7_sent 0 := ⟨tw_500, tw_501, ⟨tw_37, tw_502, ⟨by decide +kernel, by decide +kernel⟩, by decide +kernel, by decide +kernel⟩⟩
theorem mv_X7_entry : mv_at mX7_entry 4 := ⟨tw_504, tw_505, ⟨tw_37, tw_506, ⟨by decide +kernel, by decide +kernel⟩, by decide +kernel, by decide +kernel⟩⟩
theorem mv_X7_distance : mv_at mX7_distance 3 := ⟨tw_528, tw_529, ⟨tw_37, tw_530, ⟨by decide +kernel, by decide +kernel⟩, by decide +kernel, by decide +kernel⟩⟩
theorem mv_X7_choice : mv_at mX7_choice 2 := ⟨tw_536, tw_537, ⟨tw_37, tw_538, ⟨by decide +kernel, by decide +kernel⟩, by decide +kernel, by decide +kernel⟩⟩
theorem mv_X7_entries : mv_at mX7_entries 3 := ⟨tw_540, tw_541, ⟨tw_37, tw_542, ⟨by decide +kernel, by decide +kernel⟩, by decide +kernel, by decide +kernel⟩⟩
theorem mv_X7_meanWidthBits : mv_at mX7_meanWidthBits 0 := ⟨tw_548, tw_549, ⟨tw_37, tw_550, ⟨by decide +kernel, by decide +kernel⟩, by decide +kernel, by decide +kernel⟩⟩
theorem mv_X7_journalSize : mv_at mX7_journalSize 0 := ⟨tw_557, tw_558, ⟨tw_37, tw_559, ⟨by decide +kernel, by decide +kernel⟩, by decide +kernel, by decide +kernel⟩⟩
theorem mv_X7_journal : mv_at mX7_journal 2 := ⟨tw_566, tw_567, ⟨tw_37, tw_568, ⟨by decide +kernel, by decide +kernel⟩, by decide +kernel, by decide +kernel⟩⟩
theorem mv_X7_trueDistance : mv_at mX7_trueDistance 2 := ⟨tw_574, tw_575, ⟨tw_37, tw_576, ⟨by decide +kernel, by decide +kernel⟩, by decide +kernel, by decide +kernel⟩⟩
theorem mv_X7_wrongPairs : mv_at mX7_wrongPairs 0 := ⟨tw_594, tw_595, ⟨tw_37, tw_596, ⟨by decide +kernel, by decide +kernel⟩, by decide +kernel, by decide +kernel⟩⟩
theorem mv_X7_follow : mv_at mX7_follow 2 := ⟨tw_602, tw_603, ⟨tw_37, tw_604, ⟨by decide +kernel, by decide +kernel⟩, by decide +kernel, by decide +kernel⟩⟩
theorem mv_X7_loops : mv_at mX7_loops 0 := ⟨tw_610, tw_611, ⟨tw_37, tw_612, ⟨by decide +kernel, by decide +kernel⟩, by decide +kernel, by decide +kernel⟩⟩
theorem mv_X7_settling : mv_at mX7_settling 0 := ⟨tw_619, tw_620, ⟨tw_37, tw_621, ⟨by decide +kernel, by decide +kernel⟩, by decide +kernel, by decide +kernel⟩⟩
theorem mv_X7_loss : mv_at mX7_loss 2 := ⟨tw_650, tw_651, ⟨tw_37, tw_652, ⟨by decide +kernel, by decide +kernel⟩, by decide +kernel, by decide +kernel⟩⟩
theorem mv_X7_recovery : mv_at mX7_recovery 2 := ⟨tw_659, tw_660, ⟨tw_37, tw_661, ⟨by decide +kernel, by decide +kernel⟩, by decide +kernel, by decide +kernel⟩⟩
theorem mv_X7_store : mv_at mX7_store 0 := ⟨tw_663, tw_664, ⟨tw_37, tw_665, ⟨by decide +kernel, by decide +kernel⟩, by decide +kernel, by decide +kernel⟩⟩
theorem mv_X7_recall : mv_at mX7_recall 0 := ⟨tw_667, tw_668, ⟨tw_37, tw_669, ⟨by decide +kernel, by decide +kernel⟩, by decide +kernel, by decide +kernel⟩⟩
theorem mv_X7_isNode : mv_at mX7_isNode 1 := ⟨tw_318, tw_1, ⟨tw_37, tw_319, ⟨by decide +kernel, by decide +kernel⟩, by decide +kernel, by decide +kernel⟩⟩
theorem mv_X7_isPair : mv_at mX7_isPair 2 := ⟨tw_314, tw_0, ⟨tw_37, tw_315, ⟨by decide +kernel, by decide +kernel⟩, by decide +kernel, by decide +kernel⟩⟩
theorem ms_X7_isBetween : ms_at mX7_isBetween 3 := ⟨tw_362, ⟨tw_37, tw_363, ⟨by decide +kernel, by decide +kernel⟩, by decide +kernel, by decide +kernel⟩⟩
theorem ms_X7_isSetting : ms_at mX7_isSetting 1 := ⟨tw_374, ⟨tw_37, tw_375, ⟨by decide +kernel, by decide +kernel⟩, by decide +kernel, by decide +kernel⟩⟩
theorem ms_X7_asNumber : ms_at mX7_asNumber 1 := ⟨tw_516, ⟨tw_37, tw_517, ⟨by decide +kernel, by decide +kernel⟩, by decide +kernel, by decide +kernel⟩⟩
theorem ms_X7_pair : ms_at mX7_pair 2 := ⟨tw_325, ⟨tw_37, tw_326, ⟨by decide +kernel, by decide +kernel⟩, by decide +kernel, by decide +kernel⟩⟩
theorem ms_X7_slot : ms_at mX7_slot 3 := ⟨tw_411, ⟨tw_37, tw_412, ⟨by decide +kernel, by decide +kernel⟩, by decide +kernel, by decide +kernel⟩⟩
theorem mv_X7_counts : mv_at mX7_counts 4 := ⟨tw_545, tw_8, ⟨tw_37, tw_546, ⟨by decide +kernel, by decide +kernel⟩, by decide +kernel, by decide +kernel⟩⟩
theorem mv_X7_isWrong : mv_at mX7_isWrong 1 := ⟨tw_599, tw_9, ⟨tw_37, tw_600, ⟨by decide +kernel, by decide +kernel⟩, by decide +kernel, by decide +kernel⟩⟩
theorem ms_X7_bitsOf : ms_at mX7_bitsOf 1 := ⟨tw_552, ⟨tw_37, tw_553, ⟨by decide +kernel, by decide +kernel⟩, by decide +kernel, by decide +kernel⟩⟩
theorem mv_X7_makeTick : mv_at mX7_makeTick 1 := ⟨tw_387, tw_2, ⟨tw_37, tw_388, ⟨by decide +kernel, by decide +kernel⟩, by decide +kernel, by decide +kernel⟩⟩
theorem mv_X7_chooseSpeakers : mv_at mX7_chooseSpeakers 1 := ⟨tw_449, tw_3, ⟨tw_37, tw_450, ⟨by decide +kernel, by decide +kernel⟩, by decide +kernel, by decide +kernel⟩⟩
theorem mv_X7_isDue : mv_at mX7_isDue 2 := ⟨tw_453, tw_4, ⟨tw_37, tw_454, ⟨by decide +kernel, by decide +kernel⟩, by decide +kernel, by decide +kernel⟩⟩
theorem mv_X7_speak : mv_at mX7_speak 2 := ⟨tw_466, tw_5, ⟨tw_37, tw_467, ⟨by decide +kernel, by decide +kernel⟩, by decide +kernel, by decide +kernel⟩⟩
theorem mv_X7_announce : mv_at mX7_announce 4 := ⟨tw_471, tw_6, ⟨tw_37, tw_472, ⟨by decide +kernel, by decide +kernel⟩, by decide +kernel, by decide +kernel⟩⟩
theorem mv_X7_noteChanges : mv_at mX7_noteChanges 1 := ⟨tw_489, tw_7, ⟨tw_37, tw_490, ⟨by decide +kernel, by decide +kernel⟩, by decide +kernel, by decide +kernel⟩⟩
theorem mi_X8_init : gd_T (.instanceMethod mX8_init.1) ∧ mk_at mX8_init 0 := ⟨tw_673, ⟨tw_46, tw_674, ⟨by decide +kernel, by decide +kernel⟩, by decide +kernel, by decide +kernel⟩⟩
theorem mv_X8_begins : mv_at mX8_begins 0 := ⟨tw_678, tw_10, ⟨tw_46, tw_679, ⟨by decide +kernel, by decide +kernel⟩, by decide +kernel, by decide +kernel⟩⟩
theorem ms_X8_in : ms_at mX8_in 3 := ⟨tw_731, ⟨tw_46, tw_732, ⟨by decide +kernel, by decide +kernel⟩, by decide +kernel, by decide +kernel⟩⟩
theorem mv_X8_isNode : mv_at mX8_isNode 1 := ⟨tw_743, tw_12, ⟨tw_46, tw_744, ⟨by decide +kernel, by decide +kernel⟩, by decide +kernel, by decide +kernel⟩⟩
theorem mv_X8_arePair : mv_at mX8_arePair 2 := ⟨tw_739, tw_11, ⟨tw_46, tw_740, ⟨by decide +kernel, by decide +kernel⟩, by decide +kernel, by decide +kernel⟩⟩
theorem ms_X8_linkAt : ms_at mX8_linkAt 3 := ⟨tw_750, ⟨tw_46, tw_751, ⟨by decide +kernel, by decide +kernel⟩, by decide +kernel, by decide +kernel⟩⟩
theorem ms_X8_entryAt : ms_at mX8_entryAt 4 := ⟨tw_810, ⟨tw_46, tw_811, ⟨by decide +kernel, by decide +kernel⟩, by decide +kernel, by decide +kernel⟩⟩
theorem mv_X8_isLink : mv_at mX8_isLink 2 := ⟨tw_747, tw_13, ⟨tw_46, tw_748, ⟨by decide +kernel, by decide +kernel⟩, by decide +kernel, by decide +kernel⟩⟩
theorem mv_X8_areNear : mv_at mX8_areNear 2 := ⟨tw_814, tw_22, ⟨tw_46, tw_815, ⟨by decide +kernel, by decide +kernel⟩, by decide +kernel, by decide +kernel⟩⟩
theorem mv_X8_sets : mv_at mX8_sets 4 := ⟨tw_754, tw_14, ⟨tw_46, tw_755, ⟨by decide +kernel, by decide +kernel⟩, by decide +kernel, by decide +kernel⟩⟩
theorem mv_X8_reset : mv_at mX8_reset 1 := ⟨tw_727, tw_728, ⟨tw_46, tw_729, ⟨by decide +kernel, by decide +kernel⟩, by decide +kernel, by decide +kernel⟩⟩
theorem mv_X8_addLink : mv_at mX8_addLink 4 := ⟨tw_734, tw_735, ⟨tw_46, tw_736, ⟨by decide +kernel, by decide +kernel⟩, by decide +kernel, by decide +kernel⟩⟩
theorem mv_X8_removeLink : mv_at mX8_removeLink 2 := ⟨tw_757, tw_758, ⟨tw_46, tw_759, ⟨by decide +kernel, by decide +kernel⟩, by decide +kernel, by decide +kernel⟩⟩
theorem mv_X8_setCost : mv_at mX8_setCost 3 := ⟨tw_761, tw_762, ⟨tw_46, tw_763, ⟨by decide +kernel, by decide +kernel⟩, by decide +kernel, by decide +kernel⟩⟩
theorem mv_X8_setUp : mv_at mX8_setUp 3 := ⟨tw_765, tw_766, ⟨tw_46, tw_767, ⟨by decide +kernel, by decide +kernel⟩, by decide +kernel, by decide +kernel⟩⟩
theorem mv_X8_link : mv_at mX8_link 3 := ⟨tw_769, tw_770, ⟨tw_46, tw_771, ⟨by decide +kernel, by decide +kernel⟩, by decide +kernel, by decide +kernel⟩⟩
theorem mv_X8_set : mv_at mX8_set 2 := ⟨tw_773, tw_774, ⟨tw_46, tw_775, ⟨by decide +kernel, by decide +kernel⟩, by decide +kernel, by decide +kernel⟩⟩
theorem mv_X8_of : mv_at mX8_of 4 := ⟨tw_807, tw_21, ⟨tw_46, tw_808, ⟨by decide +kernel, by decide +kernel⟩, by decide +kernel, by decide +kernel⟩⟩
theorem mv_X8_isEntry : mv_at mX8_isEntry 3 := ⟨tw_803, tw_20, ⟨tw_46, tw_804, ⟨by decide +kernel, by decide +kernel⟩, by decide +kernel, by decide +kernel⟩⟩
theorem mv_X8_isUsable : mv_at mX8_isUsable 3 := ⟨tw_799, tw_19, ⟨tw_46, tw_800, ⟨by decide +kernel, by decide +kernel⟩, by decide +kernel, by decide +kernel⟩⟩
theorem mv_X8_least : mv_at mX8_least 4 := ⟨tw_795, tw_18, ⟨tw_46, tw_796, ⟨by decide +kernel, by decide +kernel⟩, by decide +kernel, by decide +kernel⟩⟩
theorem mv_X8_boundOf : mv_at mX8_boundOf 3 := ⟨tw_791, tw_17, ⟨tw_46, tw_792, ⟨by decide +kernel, by decide +kernel⟩, by decide +kernel, by decide +kernel⟩⟩
theorem mv_X8_weight : mv_at mX8_weight 4 := ⟨tw_822, tw_24, ⟨tw_46, tw_823, ⟨by decide +kernel, by decide +kernel⟩, by decide +kernel, by decide +kernel⟩⟩
theorem mv_X8_choiceOf : mv_at mX8_choiceOf 2 := ⟨tw_818, tw_23, ⟨tw_46, tw_819, ⟨by decide +kernel, by decide +kernel⟩, by decide +kernel, by decide +kernel⟩⟩
theorem mv_X8_isDominated : mv_at mX8_isDominated 3 := ⟨tw_864, tw_30, ⟨tw_46, tw_865, ⟨by decide +kernel, by decide +kernel⟩, by decide +kernel, by decide +kernel⟩⟩
theorem mv_X8_looks : mv_at mX8_looks 0 := ⟨tw_787, tw_16, ⟨tw_46, tw_788, ⟨by decide +kernel, by decide +kernel⟩, by decide +kernel, by decide +kernel⟩⟩
theorem ms_X8_sentAt : ms_at mX8_sentAt 2 := ⟨tw_829, ⟨tw_46, tw_830, ⟨by decide +kernel, by decide +kernel⟩, by decide +kernel, by decide +kernel⟩⟩
theorem mv_X8_isNew : mv_at mX8_isNew 1 := ⟨tw_826, tw_25, ⟨tw_46, tw_827, ⟨by decide +kernel, by decide +kernel⟩, by decide +kernel, by decide +kernel⟩⟩
theorem mv_X8_keepsSent : mv_at mX8_keepsSent 1 := ⟨tw_844, tw_28, ⟨tw_46, tw_845, ⟨by decide +kernel, by decide +kernel⟩, by decide +kernel, by decide +kernel⟩⟩
theorem ms_X8_limited : ms_at mX8_limited 2 := ⟨tw_840, ⟨tw_46, tw_841, ⟨by decide +kernel, by decide +kernel⟩, by decide +kernel, by decide +kernel⟩⟩
theorem mv_X8_receives : mv_at mX8_receives 4 := ⟨tw_837, tw_27, ⟨tw_46, tw_838, ⟨by decide +kernel, by decide +kernel⟩, by decide +kernel, by decide +kernel⟩⟩
theorem mv_X8_sendsAll : mv_at mX8_sendsAll 1 := ⟨tw_833, tw_26, ⟨tw_46, tw_834, ⟨by decide +kernel, by decide +kernel⟩, by decide +kernel, by decide +kernel⟩⟩
theorem mv_X8_notes : mv_at mX8_notes 3 := ⟨tw_848, tw_29, ⟨tw_46, tw_849, ⟨by decide +kernel, by decide +kernel⟩, by decide +kernel, by decide +kernel⟩⟩
theorem mv_X8_tick : mv_at mX8_tick 0 := ⟨tw_783, tw_15, ⟨tw_46, tw_784, ⟨by decide +kernel, by decide +kernel⟩, by decide +kernel, by decide +kernel⟩⟩
theorem mv_X8_run : mv_at mX8_run 1 := ⟨tw_777, tw_778, ⟨tw_46, tw_779, ⟨by decide +kernel, by decide +kernel⟩, by decide +kernel, by decide +kernel⟩⟩
theorem mv_X8_time : mv_at mX8_time 0 := ⟨tw_851, tw_852, ⟨tw_46, tw_853, ⟨by decide +kernel, by decide +kernel⟩, by decide +kernel, by decide +kernel⟩⟩
theorem mv_X8_sent : mv_at mX8_sent 0 := ⟨tw_855, tw_856, ⟨tw_46, tw_857, ⟨by decide +kernel, by decide +kernel⟩, by decide +kernel, by decide +kernel⟩⟩
theorem mv_X8_entry : mv_at mX8_entry 4 := ⟨tw_859, tw_860, ⟨tw_46, tw_861, ⟨by decide +kernel, by decide +kernel⟩, by decide +kernel, by decide +kernel⟩⟩
theorem mv_X8_distance : mv_at mX8_distance 3 := ⟨tw_867, tw_868, ⟨tw_46, tw_869, ⟨by decide +kernel, by decide +kernel⟩, by decide +kernel, by decide +kernel⟩⟩
theorem mv_X8_choice : mv_at mX8_choice 2 := ⟨tw_871, tw_872, ⟨tw_46, tw_873, ⟨by decide +kernel, by decide +kernel⟩, by decide +kernel, by decide +kernel⟩⟩
theorem mv_X8_entries : mv_at mX8_entries 3 := ⟨tw_875, tw_876, ⟨tw_46, tw_877, ⟨by decide +kernel, by decide +kernel⟩, by decide +kernel, by decide +kernel⟩⟩
theorem mv_X8_meanWidthBits : mv_at mX8_meanWidthBits 0 := ⟨tw_879, tw_880, ⟨tw_46, tw_881, ⟨by decide +kernel, by decide +kernel⟩, by decide +kernel, by decide +kernel⟩⟩
theorem mv_X8_journalSize : mv_at mX8_journalSize 0 := ⟨tw_893, tw_894, ⟨tw_46, tw_895, ⟨by decide +kernel, by decide +kernel⟩, by decide +kernel, by decide +kernel⟩⟩
theorem mv_X8_journal : mv_at mX8_journal 2 := ⟨tw_897, tw_898, ⟨tw_46, tw_899, ⟨by decide +kernel, by decide +kernel⟩, by decide +kernel, by decide +kernel⟩⟩
theorem mv_X8_measures : mv_at mX8_measures 0 := ⟨tw_906, tw_31, ⟨tw_46, tw_907, ⟨by decide +kernel, by decide +kernel⟩, by decide +kernel, by decide +kernel⟩⟩
theorem mv_X8_trueDistance : mv_at mX8_trueDistance 2 := ⟨tw_901, tw_902, ⟨tw_46, tw_903, ⟨by decide +kernel, by decide +kernel⟩, by decide +kernel, by decide +kernel⟩⟩
theorem mv_X8_wrongPairs : mv_at mX8_wrongPairs 0 := ⟨tw_909, tw_910, ⟨tw_46, tw_911, ⟨by decide +kernel, by decide +kernel⟩, by decide +kernel, by decide +kernel⟩⟩
theorem mv_X8_follows : mv_at mX8_follows 2 := ⟨tw_918, tw_32, ⟨tw_46, tw_919, ⟨by decide +kernel, by decide +kernel⟩, by decide +kernel, by decide +kernel⟩⟩
theorem mv_X8_follow : mv_at mX8_follow 2 := ⟨tw_913, tw_914, ⟨tw_46, tw_915, ⟨by decide +kernel, by decide +kernel⟩, by decide +kernel, by decide +kernel⟩⟩
theorem mv_X8_loops : mv_at mX8_loops 0 := ⟨tw_921, tw_922, ⟨tw_46, tw_923, ⟨by decide +kernel, by decide +kernel⟩, by decide +kernel, by decide +kernel⟩⟩
theorem mv_X8_putsAside : mv_at mX8_putsAside 0 := ⟨tw_930, tw_33, ⟨tw_46, tw_931, ⟨by decide +kernel, by decide +kernel⟩, by decide +kernel, by decide +kernel⟩⟩
theorem mv_X8_putsBack : mv_at mX8_putsBack 0 := ⟨tw_934, tw_34, ⟨tw_46, tw_935, ⟨by decide +kernel, by decide +kernel⟩, by decide +kernel, by decide +kernel⟩⟩
theorem mv_X8_settling : mv_at mX8_settling 0 := ⟨tw_925, tw_926, ⟨tw_46, tw_927, ⟨by decide +kernel, by decide +kernel⟩, by decide +kernel, by decide +kernel⟩⟩
theorem mv_X8_pairs : mv_at mX8_pairs 0 := ⟨tw_942, tw_35, ⟨tw_46, tw_943, ⟨by decide +kernel, by decide +kernel⟩, by decide +kernel, by decide +kernel⟩⟩
theorem mv_X8_loss : mv_at mX8_loss 2 := ⟨tw_937, tw_938, ⟨tw_46, tw_939, ⟨by decide +kernel, by decide +kernel⟩, by decide +kernel, by decide +kernel⟩⟩
theorem mv_X8_recovery : mv_at mX8_recovery 2 := ⟨tw_945, tw_946, ⟨tw_46, tw_947, ⟨by decide +kernel, by decide +kernel⟩, by decide +kernel, by decide +kernel⟩⟩
theorem mv_X8_store : mv_at mX8_store 0 := ⟨tw_950, tw_951, ⟨tw_46, tw_952, ⟨by decide +kernel, by decide +kernel⟩, by decide +kernel, by decide +kernel⟩⟩
theorem mv_X8_recall : mv_at mX8_recall 0 := ⟨tw_954, tw_955, ⟨tw_46, tw_956, ⟨by decide +kernel, by decide +kernel⟩, by decide +kernel, by decide +kernel⟩⟩
theorem ms_Jxf58ca_isNaN_12338 : ms_at mJxf58ca_isNaN_12338 1 := ⟨tw_886, ⟨tw_49, tw_887, ⟨by decide +kernel, by decide +kernel⟩, by decide +kernel, by decide +kernel⟩⟩
theorem ms_Jxf58ca_floatToIntBits_5c35a : ms_at mJxf58ca_floatToIntBits_5c35a 1 := ⟨tw_883, ⟨tw_49, tw_884, ⟨by decide +kernel, by decide +kernel⟩, by decide +kernel, by decide +kernel⟩⟩
theorem ms_J7_fill_53178 : ms_at mJ7_fill_53178 2 := ⟨tw_260, ⟨tw_45, tw_261, ⟨by decide +kernel, by decide +kernel⟩, by decide +kernel, by decide +kernel⟩⟩
theorem fl_X7_77 : fl_at RX7 77 1 0 := ⟨RX1, TX1, 5, rfl, by decide, tw_80⟩
theorem fl_X1_39 : fl_at RX1 39 1 0 := ⟨RX1, TX1, 5, rfl, by decide, tw_81⟩
theorem fl_X1_9 : fl_at RX1 9 1 1 := ⟨RX1, TX1, 5, rfl, by decide, tw_82⟩
theorem fl_X7_92 : fl_at RX7 92 1 1 := ⟨RX1, TX1, 5, rfl, by decide, tw_83⟩
theorem fl_X1_15 : fl_at RX1 15 1 2 := ⟨RX1, TX1, 5, rfl, by decide, tw_84⟩
theorem fl_X7_95 : fl_at RX7 95 1 2 := ⟨RX1, TX1, 5, rfl, by decide, tw_85⟩
theorem fl_X1_18 : fl_at RX1 18 1 3 := ⟨RX1, TX1, 5, rfl, by decide, tw_86⟩
theorem fl_X6_26 : fl_at RX6 26 1 3 := ⟨RX1, TX1, 5, rfl, by decide, tw_87⟩
theorem fl_X7_98 : fl_at RX7 98 1 3 := ⟨RX1, TX1, 5, rfl, by decide, tw_88⟩
theorem fl_X1_21 : fl_at RX1 21 1 4 := ⟨RX1, TX1, 5, rfl, by decide, tw_89⟩
theorem fl_X7_109 : fl_at RX7 109 1 4 := ⟨RX1, TX1, 5, rfl, by decide, tw_90⟩
theorem fl_X4_9 : fl_at RX4 9 4 0 := ⟨RX4, TX4, 5, rfl, by decide, tw_109⟩
theorem fl_X3_106 : fl_at RX3 106 4 0 := ⟨RX4, TX4, 5, rfl, by decide, tw_110⟩
theorem fl_X7_149 : fl_at RX7 149 4 0 := ⟨RX4, TX4, 5, rfl, by decide, tw_111⟩
theorem fl_X4_15 : fl_at RX4 15 4 1 := ⟨RX4, TX4, 5, rfl, by decide, tw_112⟩
theorem fl_X3_107 : fl_at RX3 107 4 1 := ⟨RX4, TX4, 5, rfl, by decide, tw_113⟩
theorem fl_X7_150 : fl_at RX7 150 4 1 := ⟨RX4, TX4, 5, rfl, by decide, tw_114⟩
theorem fl_X4_18 : fl_at RX4 18 4 2 := ⟨RX4, TX4, 5, rfl, by decide, tw_115⟩
theorem fl_X7_151 : fl_at RX7 151 4 2 := ⟨RX4, TX4, 5, rfl, by decide, tw_116⟩
theorem fl_X4_21 : fl_at RX4 21 4 3 := ⟨RX4, TX4, 5, rfl, by decide, tw_117⟩
theorem fl_X7_154 : fl_at RX7 154 4 3 := ⟨RX4, TX4, 5, rfl, by decide, tw_118⟩
theorem fl_X4_24 : fl_at RX4 24 4 4 := ⟨RX4, TX4, 5, rfl, by decide, tw_119⟩
theorem fl_X7_157 : fl_at RX7 157 4 4 := ⟨RX4, TX4, 5, rfl, by decide, tw_120⟩
theorem fl_X5_9 : fl_at RX5 9 5 0 := ⟨RX5, TX5, 2, rfl, by decide, tw_138⟩
theorem fl_X5_15 : fl_at RX5 15 5 1 := ⟨RX5, TX5, 2, rfl, by decide, tw_139⟩
theorem fl_X0_9 : fl_at RX0 9 0 0 := ⟨RX0, TX0, 2, rfl, by decide, tw_151⟩
theorem fl_X0_15 : fl_at RX0 15 0 1 := ⟨RX0, TX0, 2, rfl, by decide, tw_152⟩
theorem fl_X2_43 : fl_at RX2 43 2 0 := ⟨RX2, TX2, 8, rfl, by decide, tw_158⟩
theorem fl_X7_60 : fl_at RX7 60 2 0 := ⟨RX2, TX2, 8, rfl, by decide, tw_159⟩
theorem fl_X3_39 : fl_at RX3 39 2 0 := ⟨RX2, TX2, 8, rfl, by decide, tw_160⟩
theorem fl_X2_47 : fl_at RX2 47 2 1 := ⟨RX2, TX2, 8, rfl, by decide, tw_161⟩
theorem fl_X3_97 : fl_at RX3 97 2 1 := ⟨RX2, TX2, 8, rfl, by decide, tw_162⟩
theorem fl_X7_125 : fl_at RX7 125 2 1 := ⟨RX2, TX2, 8, rfl, by decide, tw_163⟩
theorem fl_X2_50 : fl_at RX2 50 2 2 := ⟨RX2, TX2, 8, rfl, by decide, tw_164⟩
theorem fl_X7_133 : fl_at RX7 133 2 2 := ⟨RX2, TX2, 8, rfl, by decide, tw_165⟩
theorem fl_X2_12 : fl_at RX2 12 2 3 := ⟨RX2, TX2, 8, rfl, by decide, tw_166⟩
theorem fl_X7_68 : fl_at RX7 68 2 3 := ⟨RX2, TX2, 8, rfl, by decide, tw_167⟩
theorem fl_X3_56 : fl_at RX3 56 2 3 := ⟨RX2, TX2, 8, rfl, by decide, tw_168⟩
theorem fl_X2_21 : fl_at RX2 21 2 4 := ⟨RX2, TX2, 8, rfl, by decide, tw_169⟩
theorem fl_X3_93 : fl_at RX3 93 2 4 := ⟨RX2, TX2, 8, rfl, by decide, tw_170⟩
theorem fl_X7_140 : fl_at RX7 140 2 4 := ⟨RX2, TX2, 8, rfl, by decide, tw_171⟩
theorem fl_X2_28 : fl_at RX2 28 2 5 := ⟨RX2, TX2, 8, rfl, by decide, tw_172⟩
theorem fl_X7_256 : fl_at RX7 256 2 5 := ⟨RX2, TX2, 8, rfl, by decide, tw_173⟩
theorem fl_X2_35 : fl_at RX2 35 2 6 := ⟨RX2, TX2, 8, rfl, by decide, tw_174⟩
theorem fl_X7_197 : fl_at RX7 197 2 6 := ⟨RX2, TX2, 8, rfl, by decide, tw_175⟩
theorem fl_X2_39 : fl_at RX2 39 2 7 := ⟨RX2, TX2, 8, rfl, by decide, tw_176⟩
theorem fl_X7_283 : fl_at RX7 283 2 7 := ⟨RX2, TX2, 8, rfl, by decide, tw_177⟩
theorem fl_X3_9 : fl_at RX3 9 3 0 := ⟨RX3, TX3, 11, rfl, by decide, tw_201⟩
theorem fl_X5_22 : fl_at RX5 22 3 0 := ⟨RX3, TX3, 11, rfl, by decide, tw_202⟩
theorem fl_X7_181 : fl_at RX7 181 3 0 := ⟨RX3, TX3, 11, rfl, by decide, tw_203⟩
theorem fl_X3_15 : fl_at RX3 15 3 1 := ⟨RX3, TX3, 11, rfl, by decide, tw_204⟩
theorem fl_X5_25 : fl_at RX5 25 3 1 := ⟨RX3, TX3, 11, rfl, by decide, tw_205⟩
theorem fl_X7_182 : fl_at RX7 182 3 1 := ⟨RX3, TX3, 11, rfl, by decide, tw_206⟩
theorem fl_X3_18 : fl_at RX3 18 3 2 := ⟨RX3, TX3, 11, rfl, by decide, tw_207⟩
theorem fl_X7_183 : fl_at RX7 183 3 2 := ⟨RX3, TX3, 11, rfl, by decide, tw_208⟩
theorem fl_X3_21 : fl_at RX3 21 3 3 := ⟨RX3, TX3, 11, rfl, by decide, tw_209⟩
theorem fl_X3_53 : fl_at RX3 53 3 4 := ⟨RX3, TX3, 11, rfl, by decide, tw_210⟩
theorem fl_X3_24 : fl_at RX3 24 3 5 := ⟨RX3, TX3, 11, rfl, by decide, tw_211⟩
theorem fl_X3_27 : fl_at RX3 27 3 6 := ⟨RX3, TX3, 11, rfl, by decide, tw_212⟩
theorem fl_X3_30 : fl_at RX3 30 3 7 := ⟨RX3, TX3, 11, rfl, by decide, tw_213⟩
theorem fl_X3_33 : fl_at RX3 33 3 8 := ⟨RX3, TX3, 11, rfl, by decide, tw_214⟩
theorem fl_X3_36 : fl_at RX3 36 3 9 := ⟨RX3, TX3, 11, rfl, by decide, tw_215⟩
theorem fl_X3_86 : fl_at RX3 86 3 10 := ⟨RX3, TX3, 11, rfl, by decide, tw_216⟩
theorem fl_X6_9 : fl_at RX6 9 6 0 := ⟨RX6, TX6, 1, rfl, by decide, tw_246⟩
theorem fl_X7_217 : fl_at RX7 217 6 0 := ⟨RX6, TX6, 1, rfl, by decide, tw_247⟩
theorem fl_X7_18 : fl_at RX7 18 7 0 := ⟨RX7, TX7, 8, rfl, by decide, tw_278⟩
theorem fl_X7_24 : fl_at RX7 24 7 1 := ⟨RX7, TX7, 8, rfl, by decide, tw_279⟩
theorem fl_X7_28 : fl_at RX7 28 7 2 := ⟨RX7, TX7, 8, rfl, by decide, tw_280⟩
theorem fl_X7_31 : fl_at RX7 31 7 3 := ⟨RX7, TX7, 8, rfl, by decide, tw_281⟩
theorem fl_X7_37 : fl_at RX7 37 7 4 := ⟨RX7, TX7, 8, rfl, by decide, tw_282⟩
theorem fl_X7_44 : fl_at RX7 44 7 5 := ⟨RX7, TX7, 8, rfl, by decide, tw_283⟩
theorem fl_X7_48 : fl_at RX7 48 7 6 := ⟨RX7, TX7, 8, rfl, by decide, tw_284⟩
theorem fl_X7_52 : fl_at RX7 52 7 7 := ⟨RX7, TX7, 8, rfl, by decide, tw_285⟩
theorem fl_X8_7 : fl_at RX8 7 8 0 := ⟨RX8, TX8, 15, rfl, by decide, tw_680⟩
theorem fl_X8_13 : fl_at RX8 13 8 1 := ⟨RX8, TX8, 15, rfl, by decide, tw_681⟩
theorem fl_X8_17 : fl_at RX8 17 8 2 := ⟨RX8, TX8, 15, rfl, by decide, tw_682⟩
theorem fl_X8_20 : fl_at RX8 20 8 3 := ⟨RX8, TX8, 15, rfl, by decide, tw_683⟩
theorem fl_X8_70 : fl_at RX8 70 8 4 := ⟨RX8, TX8, 15, rfl, by decide, tw_684⟩
theorem fl_X8_23 : fl_at RX8 23 8 5 := ⟨RX8, TX8, 15, rfl, by decide, tw_685⟩
theorem fl_X8_26 : fl_at RX8 26 8 6 := ⟨RX8, TX8, 15, rfl, by decide, tw_686⟩
theorem fl_X8_29 : fl_at RX8 29 8 7 := ⟨RX8, TX8, 15, rfl, by decide, tw_687⟩
theorem fl_X8_32 : fl_at RX8 32 8 8 := ⟨RX8, TX8, 15, rfl, by decide, tw_688⟩
theorem fl_X8_35 : fl_at RX8 35 8 9 := ⟨RX8, TX8, 15, rfl, by decide, tw_689⟩
theorem fl_X8_38 : fl_at RX8 38 8 10 := ⟨RX8, TX8, 15, rfl, by decide, tw_690⟩
theorem fl_X8_41 : fl_at RX8 41 8 11 := ⟨RX8, TX8, 15, rfl, by decide, tw_691⟩
theorem fl_X8_45 : fl_at RX8 45 8 12 := ⟨RX8, TX8, 15, rfl, by decide, tw_692⟩
theorem fl_X8_48 : fl_at RX8 48 8 13 := ⟨RX8, TX8, 15, rfl, by decide, tw_693⟩
theorem fl_X8_121 : fl_at RX8 121 8 14 := ⟨RX8, TX8, 15, rfl, by decide, tw_694⟩
theorem ly_X0 : ∀ w ∈ u_ws RX0 TX0 2, gd_T w := by
  intro w hw
  obtain ⟨k, hk, rfl⟩ := List.mem_map.mp hw
  have hk := List.mem_range.mp hk
  match k, hk with
  | 0, _ => exact tw_153
  | 1, _ => exact tw_155
  | k + 2, h => exact absurd h (by omega)
theorem ly_X1 : ∀ w ∈ u_ws RX1 TX1 5, gd_T w := by
  intro w hw
  obtain ⟨k, hk, rfl⟩ := List.mem_map.mp hw
  have hk := List.mem_range.mp hk
  match k, hk with
  | 0, _ => exact tw_91
  | 1, _ => exact tw_93
  | 2, _ => exact tw_95
  | 3, _ => exact tw_97
  | 4, _ => exact tw_99
  | k + 5, h => exact absurd h (by omega)
theorem ly_X2 : ∀ w ∈ u_ws RX2 TX2 8, gd_T w := by
  intro w hw
  obtain ⟨k, hk, rfl⟩ := List.mem_map.mp hw
  have hk := List.mem_range.mp hk
  match k, hk with
  | 0, _ => exact tw_178
  | 1, _ => exact tw_180
  | 2, _ => exact tw_182
  | 3, _ => exact tw_184
  | 4, _ => exact tw_186
  | 5, _ => exact tw_188
  | 6, _ => exact tw_190
  | 7, _ => exact tw_192
  | k + 8, h => exact absurd h (by omega)
theorem ly_X3 : ∀ w ∈ u_ws RX3 TX3 11, gd_T w := by
  intro w hw
  obtain ⟨k, hk, rfl⟩ := List.mem_map.mp hw
  have hk := List.mem_range.mp hk
  match k, hk with
  | 0, _ => exact tw_217
  | 1, _ => exact tw_219
  | 2, _ => exact tw_221
  | 3, _ => exact tw_223
  | 4, _ => exact tw_225
  | 5, _ => exact tw_227
  | 6, _ => exact tw_229
  | 7, _ => exact tw_231
  | 8, _ => exact tw_233
  | 9, _ => exact tw_235
  | 10, _ => exact tw_237
  | k + 11, h => exact absurd h (by omega)
theorem ly_X4 : ∀ w ∈ u_ws RX4 TX4 5, gd_T w := by
  intro w hw
  obtain ⟨k, hk, rfl⟩ := List.mem_map.mp hw
  have hk := List.mem_range.mp hk
  match k, hk with
  | 0, _ => exact tw_121
  | 1, _ => exact tw_123
  | 2, _ => exact tw_125
  | 3, _ => exact tw_127
  | 4, _ => exact tw_129
  | k + 5, h => exact absurd h (by omega)
theorem ly_X5 : ∀ w ∈ u_ws RX5 TX5 2, gd_T w := by
  intro w hw
  obtain ⟨k, hk, rfl⟩ := List.mem_map.mp hw
  have hk := List.mem_range.mp hk
  match k, hk with
  | 0, _ => exact tw_140
  | 1, _ => exact tw_142
  | k + 2, h => exact absurd h (by omega)
theorem ly_X6 : ∀ w ∈ u_ws RX6 TX6 1, gd_T w := by
  intro w hw
  obtain ⟨k, hk, rfl⟩ := List.mem_map.mp hw
  have hk := List.mem_range.mp hk
  match k, hk with
  | 0, _ => exact tw_248
  | k + 1, h => exact absurd h (by omega)
theorem ly_X7 : ∀ w ∈ u_ws RX7 TX7 8, gd_T w := by
  intro w hw
  obtain ⟨k, hk, rfl⟩ := List.mem_map.mp hw
  have hk := List.mem_range.mp hk
  match k, hk with
  | 0, _ => exact tw_286
  | 1, _ => exact tw_288
  | 2, _ => exact tw_290
  | 3, _ => exact tw_292
  | 4, _ => exact tw_294
  | 5, _ => exact tw_296
  | 6, _ => exact tw_298
  | 7, _ => exact tw_300
  | k + 8, h => exact absurd h (by omega)
theorem ly_X8 : ∀ w ∈ u_ws RX8 TX8 15, gd_T w := by
  intro w hw
  obtain ⟨k, hk, rfl⟩ := List.mem_map.mp hw
  have hk := List.mem_range.mp hk
  match k, hk with
  | 0, _ => exact tw_695
  | 1, _ => exact tw_697
  | 2, _ => exact tw_699
  | 3, _ => exact tw_701
  | 4, _ => exact tw_703
  | 5, _ => exact tw_705
  | 6, _ => exact tw_707
  | 7, _ => exact tw_709
  | 8, _ => exact tw_711
  | 9, _ => exact tw_713
  | 10, _ => exact tw_715
  | 11, _ => exact tw_717
  | 12, _ => exact tw_719
  | 13, _ => exact tw_721
  | 14, _ => exact tw_723
  | k + 15, h => exact absurd h (by omega)
theorem cl_ok : ∀ (ci : Nat) (C : String) (T : u_T) (N : Nat), vwCl[ci]? = some (C, T, N) → (∀ w ∈ u_ws C T N, gd_T w) ∧ (∀ a, a < N → ∀ b, b < N → a ≠ b → (T a).2.1 ≠ (T b).2.1) ∧ ∃ ty : Nat → FieldType, ∀ k, k < N → parseFieldDescriptor (T k).2.2.1 = some (ty k) := by
  intro ci C T N h
  match ci, h with
  | 0, h => cases h; exact ⟨ly_X0, nmX0, tyX0, tyX0_ok⟩
  | 1, h => cases h; exact ⟨ly_X1, nmX1, tyX1, tyX1_ok⟩
  | 2, h => cases h; exact ⟨ly_X2, nmX2, tyX2, tyX2_ok⟩
  | 3, h => cases h; exact ⟨ly_X3, nmX3, tyX3, tyX3_ok⟩
  | 4, h => cases h; exact ⟨ly_X4, nmX4, tyX4, tyX4_ok⟩
  | 5, h => cases h; exact ⟨ly_X5, nmX5, tyX5, tyX5_ok⟩
  | 6, h => cases h; exact ⟨ly_X6, nmX6, tyX6, tyX6_ok⟩
  | 7, h => cases h; exact ⟨ly_X7, nmX7, tyX7, tyX7_ok⟩
  | 8, h => cases h; exact ⟨ly_X8, nmX8, tyX8, tyX8_ok⟩
  | k + 9, h => simp [vwCl] at h
end
section
/-! decode rows: printed by wip/whole/names.py -/
theorem dX0_init_0 : dc_at mX0_init 0 (.aload_n 0) 1 := by unfold dc_at; decide +kernel
theorem dX0_init_1 : dc_at mX0_init 1 (.invokespecial 3) 3 := by unfold dc_at; decide +kernel
theorem dX0_init_4 : dc_at mX0_init 4 (.aload_n 0) 1 := by unfold dc_at; decide +kernel
theorem dX0_init_5 : dc_at mX0_init 5 (.bipush 64) 2 := by unfold dc_at; decide +kernel
theorem dX0_init_7 : dc_at mX0_init 7 (.newarray .int) 2 := by unfold dc_at; decide +kernel
theorem dX0_init_9 : dc_at mX0_init 9 (.putfield 9) 3 := by unfold dc_at; decide +kernel
theorem dX0_init_12 : dc_at mX0_init 12 (.return_) 1 := by unfold dc_at; decide +kernel
theorem dX0_size_0 : dc_at mX0_size 0 (.aload_n 0) 1 := by unfold dc_at; decide +kernel
theorem dX0_size_1 : dc_at mX0_size 1 (.getfield 15) 3 := by unfold dc_at; decide +kernel
theorem dX0_size_4 : dc_at mX0_size 4 (.bipush 16) 2 := by unfold dc_at; decide +kernel
theorem dX0_size_6 : dc_at mX0_size 6 (.invokestatic 19) 3 := by unfold dc_at; decide +kernel
theorem dX0_size_9 : dc_at mX0_size 9 (.ireturn) 1 := by unfold dc_at; decide +kernel
theorem dX0_add_0 : dc_at mX0_add 0 (.aload_n 0) 1 := by unfold dc_at; decide +kernel
theorem dX0_add_1 : dc_at mX0_add 1 (.getfield 15) 3 := by unfold dc_at; decide +kernel
theorem dX0_add_4 : dc_at mX0_add 4 (.bipush 16) 2 := by unfold dc_at; decide +kernel
theorem dX0_add_6 : dc_at mX0_add 6 (.irem) 1 := by unfold dc_at; decide +kernel
theorem dX0_add_7 : dc_at mX0_add 7 (.iconst 4) 1 := by unfold dc_at; decide +kernel
theorem dX0_add_8 : dc_at mX0_add 8 (.imul) 1 := by unfold dc_at; decide +kernel
theorem dX0_add_9 : dc_at mX0_add 9 (.istore 5) 2 := by unfold dc_at; decide +kernel
theorem dX0_add_11 : dc_at mX0_add 11 (.aload_n 0) 1 := by unfold dc_at; decide +kernel
theorem dX0_add_12 : dc_at mX0_add 12 (.getfield 9) 3 := by unfold dc_at; decide +kernel
theorem dX0_add_15 : dc_at mX0_add 15 (.iload 5) 2 := by unfold dc_at; decide +kernel
theorem dX0_add_17 : dc_at mX0_add 17 (.iload_n 1) 1 := by unfold dc_at; decide +kernel
theorem dX0_add_18 : dc_at mX0_add 18 (.iastore) 1 := by unfold dc_at; decide +kernel
theorem dX0_add_19 : dc_at mX0_add 19 (.aload_n 0) 1 := by unfold dc_at; decide +kernel
theorem dX0_add_20 : dc_at mX0_add 20 (.getfield 9) 3 := by unfold dc_at; decide +kernel
theorem dX0_add_23 : dc_at mX0_add 23 (.iload 5) 2 := by unfold dc_at; decide +kernel
theorem dX0_add_25 : dc_at mX0_add 25 (.iconst 1) 1 := by unfold dc_at; decide +kernel
theorem dX0_add_26 : dc_at mX0_add 26 (.iadd) 1 := by unfold dc_at; decide +kernel
theorem dX0_add_27 : dc_at mX0_add 27 (.iload_n 2) 1 := by unfold dc_at; decide +kernel
theorem dX0_add_28 : dc_at mX0_add 28 (.iastore) 1 := by unfold dc_at; decide +kernel
theorem dX0_add_29 : dc_at mX0_add 29 (.aload_n 0) 1 := by unfold dc_at; decide +kernel
theorem dX0_add_30 : dc_at mX0_add 30 (.getfield 9) 3 := by unfold dc_at; decide +kernel
theorem dX0_add_33 : dc_at mX0_add 33 (.iload 5) 2 := by unfold dc_at; decide +kernel
theorem dX0_add_35 : dc_at mX0_add 35 (.iconst 2) 1 := by unfold dc_at; decide +kernel
theorem dX0_add_36 : dc_at mX0_add 36 (.iadd) 1 := by unfold dc_at; decide +kernel
theorem dX0_add_37 : dc_at mX0_add 37 (.iload_n 3) 1 := by unfold dc_at; decide +kernel
theorem dX0_add_38 : dc_at mX0_add 38 (.iastore) 1 := by unfold dc_at; decide +kernel
theorem dX0_add_39 : dc_at mX0_add 39 (.aload_n 0) 1 := by unfold dc_at; decide +kernel
theorem dX0_add_40 : dc_at mX0_add 40 (.getfield 9) 3 := by unfold dc_at; decide +kernel
theorem dX0_add_43 : dc_at mX0_add 43 (.iload 5) 2 := by unfold dc_at; decide +kernel
theorem dX0_add_45 : dc_at mX0_add 45 (.iconst 3) 1 := by unfold dc_at; decide +kernel
theorem dX0_add_46 : dc_at mX0_add 46 (.iadd) 1 := by unfold dc_at; decide +kernel
theorem dX0_add_47 : dc_at mX0_add 47 (.iload 4) 2 := by unfold dc_at; decide +kernel
theorem dX0_add_49 : dc_at mX0_add 49 (.iastore) 1 := by unfold dc_at; decide +kernel
theorem dX0_add_50 : dc_at mX0_add 50 (.aload_n 0) 1 := by unfold dc_at; decide +kernel
theorem dX0_add_51 : dc_at mX0_add 51 (.dup) 1 := by unfold dc_at; decide +kernel
theorem dX0_add_52 : dc_at mX0_add 52 (.getfield 15) 3 := by unfold dc_at; decide +kernel
theorem dX0_add_55 : dc_at mX0_add 55 (.iconst 1) 1 := by unfold dc_at; decide +kernel
theorem dX0_add_56 : dc_at mX0_add 56 (.iadd) 1 := by unfold dc_at; decide +kernel
theorem dX0_add_57 : dc_at mX0_add 57 (.putfield 15) 3 := by unfold dc_at; decide +kernel
theorem dX0_add_60 : dc_at mX0_add 60 (.return_) 1 := by unfold dc_at; decide +kernel
theorem dX0_value_0 : dc_at mX0_value 0 (.aload_n 0) 1 := by unfold dc_at; decide +kernel
theorem dX0_value_1 : dc_at mX0_value 1 (.getfield 9) 3 := by unfold dc_at; decide +kernel
theorem dX0_value_4 : dc_at mX0_value 4 (.aload_n 0) 1 := by unfold dc_at; decide +kernel
theorem dX0_value_5 : dc_at mX0_value 5 (.getfield 15) 3 := by unfold dc_at; decide +kernel
theorem dX0_value_8 : dc_at mX0_value 8 (.iconst 1) 1 := by unfold dc_at; decide +kernel
theorem dX0_value_9 : dc_at mX0_value 9 (.isub) 1 := by unfold dc_at; decide +kernel
theorem dX0_value_10 : dc_at mX0_value 10 (.iload_n 1) 1 := by unfold dc_at; decide +kernel
theorem dX0_value_11 : dc_at mX0_value 11 (.isub) 1 := by unfold dc_at; decide +kernel
theorem dX0_value_12 : dc_at mX0_value 12 (.bipush 16) 2 := by unfold dc_at; decide +kernel
theorem dX0_value_14 : dc_at mX0_value 14 (.irem) 1 := by unfold dc_at; decide +kernel
theorem dX0_value_15 : dc_at mX0_value 15 (.iconst 4) 1 := by unfold dc_at; decide +kernel
theorem dX0_value_16 : dc_at mX0_value 16 (.imul) 1 := by unfold dc_at; decide +kernel
theorem dX0_value_17 : dc_at mX0_value 17 (.iload_n 2) 1 := by unfold dc_at; decide +kernel
theorem dX0_value_18 : dc_at mX0_value 18 (.iadd) 1 := by unfold dc_at; decide +kernel
theorem dX0_value_19 : dc_at mX0_value 19 (.iaload) 1 := by unfold dc_at; decide +kernel
theorem dX0_value_20 : dc_at mX0_value 20 (.ireturn) 1 := by unfold dc_at; decide +kernel
theorem dX0_clear_0 : dc_at mX0_clear 0 (.aload_n 0) 1 := by unfold dc_at; decide +kernel
theorem dX0_clear_1 : dc_at mX0_clear 1 (.iconst 0) 1 := by unfold dc_at; decide +kernel
theorem dX0_clear_2 : dc_at mX0_clear 2 (.putfield 15) 3 := by unfold dc_at; decide +kernel
theorem dX0_clear_5 : dc_at mX0_clear 5 (.aload_n 0) 1 := by unfold dc_at; decide +kernel
theorem dX0_clear_6 : dc_at mX0_clear 6 (.getfield 9) 3 := by unfold dc_at; decide +kernel
theorem dX0_clear_9 : dc_at mX0_clear 9 (.iconst 0) 1 := by unfold dc_at; decide +kernel
theorem dX0_clear_10 : dc_at mX0_clear 10 (.invokestatic 25) 3 := by unfold dc_at; decide +kernel
theorem dX0_clear_13 : dc_at mX0_clear 13 (.return_) 1 := by unfold dc_at; decide +kernel
theorem dX0_copyFrom_0 : dc_at mX0_copyFrom 0 (.aload_n 0) 1 := by unfold dc_at; decide +kernel
theorem dX0_copyFrom_1 : dc_at mX0_copyFrom 1 (.aload_n 1) 1 := by unfold dc_at; decide +kernel
theorem dX0_copyFrom_2 : dc_at mX0_copyFrom 2 (.getfield 15) 3 := by unfold dc_at; decide +kernel
theorem dX0_copyFrom_5 : dc_at mX0_copyFrom 5 (.putfield 15) 3 := by unfold dc_at; decide +kernel
theorem dX0_copyFrom_8 : dc_at mX0_copyFrom 8 (.aload_n 1) 1 := by unfold dc_at; decide +kernel
theorem dX0_copyFrom_9 : dc_at mX0_copyFrom 9 (.getfield 9) 3 := by unfold dc_at; decide +kernel
theorem dX0_copyFrom_12 : dc_at mX0_copyFrom 12 (.iconst 0) 1 := by unfold dc_at; decide +kernel
theorem dX0_copyFrom_13 : dc_at mX0_copyFrom 13 (.aload_n 0) 1 := by unfold dc_at; decide +kernel
theorem dX0_copyFrom_14 : dc_at mX0_copyFrom 14 (.getfield 9) 3 := by unfold dc_at; decide +kernel
theorem dX0_copyFrom_17 : dc_at mX0_copyFrom 17 (.iconst 0) 1 := by unfold dc_at; decide +kernel
theorem dX0_copyFrom_18 : dc_at mX0_copyFrom 18 (.bipush 64) 2 := by unfold dc_at; decide +kernel
theorem dX0_copyFrom_20 : dc_at mX0_copyFrom 20 (.invokestatic 31) 3 := by unfold dc_at; decide +kernel
theorem dX0_copyFrom_23 : dc_at mX0_copyFrom 23 (.return_) 1 := by unfold dc_at; decide +kernel
theorem dX1_init_0 : dc_at mX1_init 0 (.aload_n 0) 1 := by unfold dc_at; decide +kernel
theorem dX1_init_1 : dc_at mX1_init 1 (.invokespecial 3) 3 := by unfold dc_at; decide +kernel
theorem dX1_init_4 : dc_at mX1_init 4 (.aload_n 0) 1 := by unfold dc_at; decide +kernel
theorem dX1_init_5 : dc_at mX1_init 5 (.bipush 64) 2 := by unfold dc_at; decide +kernel
theorem dX1_init_7 : dc_at mX1_init 7 (.newarray .int) 2 := by unfold dc_at; decide +kernel
theorem dX1_init_9 : dc_at mX1_init 9 (.putfield 9) 3 := by unfold dc_at; decide +kernel
theorem dX1_init_12 : dc_at mX1_init 12 (.aload_n 0) 1 := by unfold dc_at; decide +kernel
theorem dX1_init_13 : dc_at mX1_init 13 (.bipush 64) 2 := by unfold dc_at; decide +kernel
theorem dX1_init_15 : dc_at mX1_init 15 (.newarray .int) 2 := by unfold dc_at; decide +kernel
theorem dX1_init_17 : dc_at mX1_init 17 (.putfield 15) 3 := by unfold dc_at; decide +kernel
theorem dX1_init_20 : dc_at mX1_init 20 (.aload_n 0) 1 := by unfold dc_at; decide +kernel
theorem dX1_init_21 : dc_at mX1_init 21 (.bipush 64) 2 := by unfold dc_at; decide +kernel
theorem dX1_init_23 : dc_at mX1_init 23 (.newarray .int) 2 := by unfold dc_at; decide +kernel
theorem dX1_init_25 : dc_at mX1_init 25 (.putfield 18) 3 := by unfold dc_at; decide +kernel
theorem dX1_init_28 : dc_at mX1_init 28 (.aload_n 0) 1 := by unfold dc_at; decide +kernel
theorem dX1_init_29 : dc_at mX1_init 29 (.bipush 64) 2 := by unfold dc_at; decide +kernel
theorem dX1_init_31 : dc_at mX1_init 31 (.newarray .int) 2 := by unfold dc_at; decide +kernel
theorem dX1_init_33 : dc_at mX1_init 33 (.putfield 21) 3 := by unfold dc_at; decide +kernel
theorem dX1_init_36 : dc_at mX1_init 36 (.return_) 1 := by unfold dc_at; decide +kernel
theorem dX1_joins_0 : dc_at mX1_joins 0 (.aload_n 0) 1 := by unfold dc_at; decide +kernel
theorem dX1_joins_1 : dc_at mX1_joins 1 (.getfield 9) 3 := by unfold dc_at; decide +kernel
theorem dX1_joins_4 : dc_at mX1_joins 4 (.iload_n 1) 1 := by unfold dc_at; decide +kernel
theorem dX1_joins_5 : dc_at mX1_joins 5 (.iload_n 2) 1 := by unfold dc_at; decide +kernel
theorem dX1_joins_6 : dc_at mX1_joins 6 (.invokestatic 24) 3 := by unfold dc_at; decide +kernel
theorem dX1_joins_9 : dc_at mX1_joins 9 (.iaload) 1 := by unfold dc_at; decide +kernel
theorem dX1_joins_10 : dc_at mX1_joins 10 (.ifCond .le 7) 3 := by unfold dc_at; decide +kernel
theorem dX1_joins_13 : dc_at mX1_joins 13 (.iconst 1) 1 := by unfold dc_at; decide +kernel
theorem dX1_joins_14 : dc_at mX1_joins 14 (.goto 4) 3 := by unfold dc_at; decide +kernel
theorem dX1_joins_17 : dc_at mX1_joins 17 (.iconst 0) 1 := by unfold dc_at; decide +kernel
theorem dX1_joins_18 : dc_at mX1_joins 18 (.ireturn) 1 := by unfold dc_at; decide +kernel
theorem dX1_isUp_0 : dc_at mX1_isUp 0 (.aload_n 0) 1 := by unfold dc_at; decide +kernel
theorem dX1_isUp_1 : dc_at mX1_isUp 1 (.getfield 21) 3 := by unfold dc_at; decide +kernel
theorem dX1_isUp_4 : dc_at mX1_isUp 4 (.iload_n 1) 1 := by unfold dc_at; decide +kernel
theorem dX1_isUp_5 : dc_at mX1_isUp 5 (.iload_n 2) 1 := by unfold dc_at; decide +kernel
theorem dX1_isUp_6 : dc_at mX1_isUp 6 (.invokestatic 24) 3 := by unfold dc_at; decide +kernel
theorem dX1_isUp_9 : dc_at mX1_isUp 9 (.iaload) 1 := by unfold dc_at; decide +kernel
theorem dX1_isUp_10 : dc_at mX1_isUp 10 (.iconst 1) 1 := by unfold dc_at; decide +kernel
theorem dX1_isUp_11 : dc_at mX1_isUp 11 (.if_icmp .ne 7) 3 := by unfold dc_at; decide +kernel
theorem dX1_isUp_14 : dc_at mX1_isUp 14 (.iconst 1) 1 := by unfold dc_at; decide +kernel
theorem dX1_isUp_15 : dc_at mX1_isUp 15 (.goto 4) 3 := by unfold dc_at; decide +kernel
theorem dX1_isUp_18 : dc_at mX1_isUp 18 (.iconst 0) 1 := by unfold dc_at; decide +kernel
theorem dX1_isUp_19 : dc_at mX1_isUp 19 (.ireturn) 1 := by unfold dc_at; decide +kernel
theorem dX1_insert_0 : dc_at mX1_insert 0 (.aload_n 0) 1 := by unfold dc_at; decide +kernel
theorem dX1_insert_1 : dc_at mX1_insert 1 (.iload_n 1) 1 := by unfold dc_at; decide +kernel
theorem dX1_insert_2 : dc_at mX1_insert 2 (.iload_n 2) 1 := by unfold dc_at; decide +kernel
theorem dX1_insert_3 : dc_at mX1_insert 3 (.iload_n 3) 1 := by unfold dc_at; decide +kernel
theorem dX1_insert_4 : dc_at mX1_insert 4 (.iload 4) 2 := by unfold dc_at; decide +kernel
theorem dX1_insert_6 : dc_at mX1_insert 6 (.invokevirtual 28) 3 := by unfold dc_at; decide +kernel
theorem dX1_insert_9 : dc_at mX1_insert 9 (.aload_n 0) 1 := by unfold dc_at; decide +kernel
theorem dX1_insert_10 : dc_at mX1_insert 10 (.iload_n 1) 1 := by unfold dc_at; decide +kernel
theorem dX1_insert_11 : dc_at mX1_insert 11 (.iload_n 2) 1 := by unfold dc_at; decide +kernel
theorem dX1_insert_12 : dc_at mX1_insert 12 (.iload_n 3) 1 := by unfold dc_at; decide +kernel
theorem dX1_insert_13 : dc_at mX1_insert 13 (.invokevirtual 32) 3 := by unfold dc_at; decide +kernel
theorem dX1_insert_16 : dc_at mX1_insert 16 (.aload_n 0) 1 := by unfold dc_at; decide +kernel
theorem dX1_insert_17 : dc_at mX1_insert 17 (.iload_n 1) 1 := by unfold dc_at; decide +kernel
theorem dX1_insert_18 : dc_at mX1_insert 18 (.iload_n 2) 1 := by unfold dc_at; decide +kernel
theorem dX1_insert_19 : dc_at mX1_insert 19 (.iconst 1) 1 := by unfold dc_at; decide +kernel
theorem dX1_insert_20 : dc_at mX1_insert 20 (.invokevirtual 36) 3 := by unfold dc_at; decide +kernel
theorem dX1_insert_23 : dc_at mX1_insert 23 (.aload_n 0) 1 := by unfold dc_at; decide +kernel
theorem dX1_insert_24 : dc_at mX1_insert 24 (.dup) 1 := by unfold dc_at; decide +kernel
theorem dX1_insert_25 : dc_at mX1_insert 25 (.getfield 39) 3 := by unfold dc_at; decide +kernel
theorem dX1_insert_28 : dc_at mX1_insert 28 (.iconst 1) 1 := by unfold dc_at; decide +kernel
theorem dX1_insert_29 : dc_at mX1_insert 29 (.iadd) 1 := by unfold dc_at; decide +kernel
theorem dX1_insert_30 : dc_at mX1_insert 30 (.putfield 39) 3 := by unfold dc_at; decide +kernel
theorem dX1_insert_33 : dc_at mX1_insert 33 (.return_) 1 := by unfold dc_at; decide +kernel
theorem dX1_delete_0 : dc_at mX1_delete 0 (.aload_n 0) 1 := by unfold dc_at; decide +kernel
theorem dX1_delete_1 : dc_at mX1_delete 1 (.iload_n 1) 1 := by unfold dc_at; decide +kernel
theorem dX1_delete_2 : dc_at mX1_delete 2 (.iload_n 2) 1 := by unfold dc_at; decide +kernel
theorem dX1_delete_3 : dc_at mX1_delete 3 (.iconst 0) 1 := by unfold dc_at; decide +kernel
theorem dX1_delete_4 : dc_at mX1_delete 4 (.iconst 0) 1 := by unfold dc_at; decide +kernel
theorem dX1_delete_5 : dc_at mX1_delete 5 (.invokevirtual 28) 3 := by unfold dc_at; decide +kernel
theorem dX1_delete_8 : dc_at mX1_delete 8 (.aload_n 0) 1 := by unfold dc_at; decide +kernel
theorem dX1_delete_9 : dc_at mX1_delete 9 (.iload_n 1) 1 := by unfold dc_at; decide +kernel
theorem dX1_delete_10 : dc_at mX1_delete 10 (.iload_n 2) 1 := by unfold dc_at; decide +kernel
theorem dX1_delete_11 : dc_at mX1_delete 11 (.iconst 0) 1 := by unfold dc_at; decide +kernel
theorem dX1_delete_12 : dc_at mX1_delete 12 (.invokevirtual 32) 3 := by unfold dc_at; decide +kernel
theorem dX1_delete_15 : dc_at mX1_delete 15 (.aload_n 0) 1 := by unfold dc_at; decide +kernel
theorem dX1_delete_16 : dc_at mX1_delete 16 (.iload_n 1) 1 := by unfold dc_at; decide +kernel
theorem dX1_delete_17 : dc_at mX1_delete 17 (.iload_n 2) 1 := by unfold dc_at; decide +kernel
theorem dX1_delete_18 : dc_at mX1_delete 18 (.iconst 0) 1 := by unfold dc_at; decide +kernel
theorem dX1_delete_19 : dc_at mX1_delete 19 (.invokevirtual 36) 3 := by unfold dc_at; decide +kernel
theorem dX1_delete_22 : dc_at mX1_delete 22 (.aload_n 0) 1 := by unfold dc_at; decide +kernel
theorem dX1_delete_23 : dc_at mX1_delete 23 (.dup) 1 := by unfold dc_at; decide +kernel
theorem dX1_delete_24 : dc_at mX1_delete 24 (.getfield 39) 3 := by unfold dc_at; decide +kernel
theorem dX1_delete_27 : dc_at mX1_delete 27 (.iconst 1) 1 := by unfold dc_at; decide +kernel
theorem dX1_delete_28 : dc_at mX1_delete 28 (.isub) 1 := by unfold dc_at; decide +kernel
theorem dX1_delete_29 : dc_at mX1_delete 29 (.putfield 39) 3 := by unfold dc_at; decide +kernel
theorem dX1_delete_32 : dc_at mX1_delete 32 (.return_) 1 := by unfold dc_at; decide +kernel
theorem dX1_putBounds_0 : dc_at mX1_putBounds 0 (.aload_n 0) 1 := by unfold dc_at; decide +kernel
theorem dX1_putBounds_1 : dc_at mX1_putBounds 1 (.getfield 9) 3 := by unfold dc_at; decide +kernel
theorem dX1_putBounds_4 : dc_at mX1_putBounds 4 (.iload_n 1) 1 := by unfold dc_at; decide +kernel
theorem dX1_putBounds_5 : dc_at mX1_putBounds 5 (.iload_n 2) 1 := by unfold dc_at; decide +kernel
theorem dX1_putBounds_6 : dc_at mX1_putBounds 6 (.invokestatic 24) 3 := by unfold dc_at; decide +kernel
theorem dX1_putBounds_9 : dc_at mX1_putBounds 9 (.iload_n 3) 1 := by unfold dc_at; decide +kernel
theorem dX1_putBounds_10 : dc_at mX1_putBounds 10 (.iastore) 1 := by unfold dc_at; decide +kernel
theorem dX1_putBounds_11 : dc_at mX1_putBounds 11 (.aload_n 0) 1 := by unfold dc_at; decide +kernel
theorem dX1_putBounds_12 : dc_at mX1_putBounds 12 (.getfield 9) 3 := by unfold dc_at; decide +kernel
theorem dX1_putBounds_15 : dc_at mX1_putBounds 15 (.iload_n 2) 1 := by unfold dc_at; decide +kernel
theorem dX1_putBounds_16 : dc_at mX1_putBounds 16 (.iload_n 1) 1 := by unfold dc_at; decide +kernel
theorem dX1_putBounds_17 : dc_at mX1_putBounds 17 (.invokestatic 24) 3 := by unfold dc_at; decide +kernel
theorem dX1_putBounds_20 : dc_at mX1_putBounds 20 (.iload_n 3) 1 := by unfold dc_at; decide +kernel
theorem dX1_putBounds_21 : dc_at mX1_putBounds 21 (.iastore) 1 := by unfold dc_at; decide +kernel
theorem dX1_putBounds_22 : dc_at mX1_putBounds 22 (.aload_n 0) 1 := by unfold dc_at; decide +kernel
theorem dX1_putBounds_23 : dc_at mX1_putBounds 23 (.getfield 15) 3 := by unfold dc_at; decide +kernel
theorem dX1_putBounds_26 : dc_at mX1_putBounds 26 (.iload_n 1) 1 := by unfold dc_at; decide +kernel
theorem dX1_putBounds_27 : dc_at mX1_putBounds 27 (.iload_n 2) 1 := by unfold dc_at; decide +kernel
theorem dX1_putBounds_28 : dc_at mX1_putBounds 28 (.invokestatic 24) 3 := by unfold dc_at; decide +kernel
theorem dX1_putBounds_31 : dc_at mX1_putBounds 31 (.iload 4) 2 := by unfold dc_at; decide +kernel
theorem dX1_putBounds_33 : dc_at mX1_putBounds 33 (.iastore) 1 := by unfold dc_at; decide +kernel
theorem dX1_putBounds_34 : dc_at mX1_putBounds 34 (.aload_n 0) 1 := by unfold dc_at; decide +kernel
theorem dX1_putBounds_35 : dc_at mX1_putBounds 35 (.getfield 15) 3 := by unfold dc_at; decide +kernel
theorem dX1_putBounds_38 : dc_at mX1_putBounds 38 (.iload_n 2) 1 := by unfold dc_at; decide +kernel
theorem dX1_putBounds_39 : dc_at mX1_putBounds 39 (.iload_n 1) 1 := by unfold dc_at; decide +kernel
theorem dX1_putBounds_40 : dc_at mX1_putBounds 40 (.invokestatic 24) 3 := by unfold dc_at; decide +kernel
theorem dX1_putBounds_43 : dc_at mX1_putBounds 43 (.iload 4) 2 := by unfold dc_at; decide +kernel
theorem dX1_putBounds_45 : dc_at mX1_putBounds 45 (.iastore) 1 := by unfold dc_at; decide +kernel
theorem dX1_putBounds_46 : dc_at mX1_putBounds 46 (.return_) 1 := by unfold dc_at; decide +kernel
theorem dX1_putCost_0 : dc_at mX1_putCost 0 (.aload_n 0) 1 := by unfold dc_at; decide +kernel
theorem dX1_putCost_1 : dc_at mX1_putCost 1 (.getfield 18) 3 := by unfold dc_at; decide +kernel
theorem dX1_putCost_4 : dc_at mX1_putCost 4 (.iload_n 1) 1 := by unfold dc_at; decide +kernel
theorem dX1_putCost_5 : dc_at mX1_putCost 5 (.iload_n 2) 1 := by unfold dc_at; decide +kernel
theorem dX1_putCost_6 : dc_at mX1_putCost 6 (.invokestatic 24) 3 := by unfold dc_at; decide +kernel
theorem dX1_putCost_9 : dc_at mX1_putCost 9 (.iload_n 3) 1 := by unfold dc_at; decide +kernel
theorem dX1_putCost_10 : dc_at mX1_putCost 10 (.iastore) 1 := by unfold dc_at; decide +kernel
theorem dX1_putCost_11 : dc_at mX1_putCost 11 (.aload_n 0) 1 := by unfold dc_at; decide +kernel
theorem dX1_putCost_12 : dc_at mX1_putCost 12 (.getfield 18) 3 := by unfold dc_at; decide +kernel
theorem dX1_putCost_15 : dc_at mX1_putCost 15 (.iload_n 2) 1 := by unfold dc_at; decide +kernel
theorem dX1_putCost_16 : dc_at mX1_putCost 16 (.iload_n 1) 1 := by unfold dc_at; decide +kernel
theorem dX1_putCost_17 : dc_at mX1_putCost 17 (.invokestatic 24) 3 := by unfold dc_at; decide +kernel
theorem dX1_putCost_20 : dc_at mX1_putCost 20 (.iload_n 3) 1 := by unfold dc_at; decide +kernel
theorem dX1_putCost_21 : dc_at mX1_putCost 21 (.iastore) 1 := by unfold dc_at; decide +kernel
theorem dX1_putCost_22 : dc_at mX1_putCost 22 (.return_) 1 := by unfold dc_at; decide +kernel
theorem dX1_putUp_0 : dc_at mX1_putUp 0 (.aload_n 0) 1 := by unfold dc_at; decide +kernel
theorem dX1_putUp_1 : dc_at mX1_putUp 1 (.getfield 21) 3 := by unfold dc_at; decide +kernel
theorem dX1_putUp_4 : dc_at mX1_putUp 4 (.iload_n 1) 1 := by unfold dc_at; decide +kernel
theorem dX1_putUp_5 : dc_at mX1_putUp 5 (.iload_n 2) 1 := by unfold dc_at; decide +kernel
theorem dX1_putUp_6 : dc_at mX1_putUp 6 (.invokestatic 24) 3 := by unfold dc_at; decide +kernel
theorem dX1_putUp_9 : dc_at mX1_putUp 9 (.iload_n 3) 1 := by unfold dc_at; decide +kernel
theorem dX1_putUp_10 : dc_at mX1_putUp 10 (.iastore) 1 := by unfold dc_at; decide +kernel
theorem dX1_putUp_11 : dc_at mX1_putUp 11 (.aload_n 0) 1 := by unfold dc_at; decide +kernel
theorem dX1_putUp_12 : dc_at mX1_putUp 12 (.getfield 21) 3 := by unfold dc_at; decide +kernel
theorem dX1_putUp_15 : dc_at mX1_putUp 15 (.iload_n 2) 1 := by unfold dc_at; decide +kernel
theorem dX1_putUp_16 : dc_at mX1_putUp 16 (.iload_n 1) 1 := by unfold dc_at; decide +kernel
theorem dX1_putUp_17 : dc_at mX1_putUp 17 (.invokestatic 24) 3 := by unfold dc_at; decide +kernel
theorem dX1_putUp_20 : dc_at mX1_putUp 20 (.iload_n 3) 1 := by unfold dc_at; decide +kernel
theorem dX1_putUp_21 : dc_at mX1_putUp 21 (.iastore) 1 := by unfold dc_at; decide +kernel
theorem dX1_putUp_22 : dc_at mX1_putUp 22 (.return_) 1 := by unfold dc_at; decide +kernel
theorem dX1_clear_0 : dc_at mX1_clear 0 (.aload_n 0) 1 := by unfold dc_at; decide +kernel
theorem dX1_clear_1 : dc_at mX1_clear 1 (.iconst 0) 1 := by unfold dc_at; decide +kernel
theorem dX1_clear_2 : dc_at mX1_clear 2 (.putfield 39) 3 := by unfold dc_at; decide +kernel
theorem dX1_clear_5 : dc_at mX1_clear 5 (.aload_n 0) 1 := by unfold dc_at; decide +kernel
theorem dX1_clear_6 : dc_at mX1_clear 6 (.getfield 9) 3 := by unfold dc_at; decide +kernel
theorem dX1_clear_9 : dc_at mX1_clear 9 (.iconst 0) 1 := by unfold dc_at; decide +kernel
theorem dX1_clear_10 : dc_at mX1_clear 10 (.invokestatic 43) 3 := by unfold dc_at; decide +kernel
theorem dX1_clear_13 : dc_at mX1_clear 13 (.aload_n 0) 1 := by unfold dc_at; decide +kernel
theorem dX1_clear_14 : dc_at mX1_clear 14 (.getfield 15) 3 := by unfold dc_at; decide +kernel
theorem dX1_clear_17 : dc_at mX1_clear 17 (.iconst 0) 1 := by unfold dc_at; decide +kernel
theorem dX1_clear_18 : dc_at mX1_clear 18 (.invokestatic 43) 3 := by unfold dc_at; decide +kernel
theorem dX1_clear_21 : dc_at mX1_clear 21 (.aload_n 0) 1 := by unfold dc_at; decide +kernel
theorem dX1_clear_22 : dc_at mX1_clear 22 (.getfield 18) 3 := by unfold dc_at; decide +kernel
theorem dX1_clear_25 : dc_at mX1_clear 25 (.iconst 0) 1 := by unfold dc_at; decide +kernel
theorem dX1_clear_26 : dc_at mX1_clear 26 (.invokestatic 43) 3 := by unfold dc_at; decide +kernel
theorem dX1_clear_29 : dc_at mX1_clear 29 (.aload_n 0) 1 := by unfold dc_at; decide +kernel
theorem dX1_clear_30 : dc_at mX1_clear 30 (.getfield 21) 3 := by unfold dc_at; decide +kernel
theorem dX1_clear_33 : dc_at mX1_clear 33 (.iconst 0) 1 := by unfold dc_at; decide +kernel
theorem dX1_clear_34 : dc_at mX1_clear 34 (.invokestatic 43) 3 := by unfold dc_at; decide +kernel
theorem dX1_clear_37 : dc_at mX1_clear 37 (.return_) 1 := by unfold dc_at; decide +kernel
theorem dX1_copyFrom_0 : dc_at mX1_copyFrom 0 (.aload_n 0) 1 := by unfold dc_at; decide +kernel
theorem dX1_copyFrom_1 : dc_at mX1_copyFrom 1 (.aload_n 1) 1 := by unfold dc_at; decide +kernel
theorem dX1_copyFrom_2 : dc_at mX1_copyFrom 2 (.getfield 39) 3 := by unfold dc_at; decide +kernel
theorem dX1_copyFrom_5 : dc_at mX1_copyFrom 5 (.putfield 39) 3 := by unfold dc_at; decide +kernel
theorem dX1_copyFrom_8 : dc_at mX1_copyFrom 8 (.aload_n 1) 1 := by unfold dc_at; decide +kernel
theorem dX1_copyFrom_9 : dc_at mX1_copyFrom 9 (.getfield 9) 3 := by unfold dc_at; decide +kernel
theorem dX1_copyFrom_12 : dc_at mX1_copyFrom 12 (.iconst 0) 1 := by unfold dc_at; decide +kernel
theorem dX1_copyFrom_13 : dc_at mX1_copyFrom 13 (.aload_n 0) 1 := by unfold dc_at; decide +kernel
theorem dX1_copyFrom_14 : dc_at mX1_copyFrom 14 (.getfield 9) 3 := by unfold dc_at; decide +kernel
theorem dX1_copyFrom_17 : dc_at mX1_copyFrom 17 (.iconst 0) 1 := by unfold dc_at; decide +kernel
theorem dX1_copyFrom_18 : dc_at mX1_copyFrom 18 (.bipush 64) 2 := by unfold dc_at; decide +kernel
theorem dX1_copyFrom_20 : dc_at mX1_copyFrom 20 (.invokestatic 49) 3 := by unfold dc_at; decide +kernel
theorem dX1_copyFrom_23 : dc_at mX1_copyFrom 23 (.aload_n 1) 1 := by unfold dc_at; decide +kernel
theorem dX1_copyFrom_24 : dc_at mX1_copyFrom 24 (.getfield 15) 3 := by unfold dc_at; decide +kernel
theorem dX1_copyFrom_27 : dc_at mX1_copyFrom 27 (.iconst 0) 1 := by unfold dc_at; decide +kernel
theorem dX1_copyFrom_28 : dc_at mX1_copyFrom 28 (.aload_n 0) 1 := by unfold dc_at; decide +kernel
theorem dX1_copyFrom_29 : dc_at mX1_copyFrom 29 (.getfield 15) 3 := by unfold dc_at; decide +kernel
theorem dX1_copyFrom_32 : dc_at mX1_copyFrom 32 (.iconst 0) 1 := by unfold dc_at; decide +kernel
theorem dX1_copyFrom_33 : dc_at mX1_copyFrom 33 (.bipush 64) 2 := by unfold dc_at; decide +kernel
theorem dX1_copyFrom_35 : dc_at mX1_copyFrom 35 (.invokestatic 49) 3 := by unfold dc_at; decide +kernel
theorem dX1_copyFrom_38 : dc_at mX1_copyFrom 38 (.aload_n 1) 1 := by unfold dc_at; decide +kernel
theorem dX1_copyFrom_39 : dc_at mX1_copyFrom 39 (.getfield 18) 3 := by unfold dc_at; decide +kernel
theorem dX1_copyFrom_42 : dc_at mX1_copyFrom 42 (.iconst 0) 1 := by unfold dc_at; decide +kernel
theorem dX1_copyFrom_43 : dc_at mX1_copyFrom 43 (.aload_n 0) 1 := by unfold dc_at; decide +kernel
theorem dX1_copyFrom_44 : dc_at mX1_copyFrom 44 (.getfield 18) 3 := by unfold dc_at; decide +kernel
theorem dX1_copyFrom_47 : dc_at mX1_copyFrom 47 (.iconst 0) 1 := by unfold dc_at; decide +kernel
theorem dX1_copyFrom_48 : dc_at mX1_copyFrom 48 (.bipush 64) 2 := by unfold dc_at; decide +kernel
theorem dX1_copyFrom_50 : dc_at mX1_copyFrom 50 (.invokestatic 49) 3 := by unfold dc_at; decide +kernel
theorem dX1_copyFrom_53 : dc_at mX1_copyFrom 53 (.aload_n 1) 1 := by unfold dc_at; decide +kernel
theorem dX1_copyFrom_54 : dc_at mX1_copyFrom 54 (.getfield 21) 3 := by unfold dc_at; decide +kernel
theorem dX1_copyFrom_57 : dc_at mX1_copyFrom 57 (.iconst 0) 1 := by unfold dc_at; decide +kernel
theorem dX1_copyFrom_58 : dc_at mX1_copyFrom 58 (.aload_n 0) 1 := by unfold dc_at; decide +kernel
theorem dX1_copyFrom_59 : dc_at mX1_copyFrom 59 (.getfield 21) 3 := by unfold dc_at; decide +kernel
theorem dX1_copyFrom_62 : dc_at mX1_copyFrom 62 (.iconst 0) 1 := by unfold dc_at; decide +kernel
theorem dX1_copyFrom_63 : dc_at mX1_copyFrom 63 (.bipush 64) 2 := by unfold dc_at; decide +kernel
theorem dX1_copyFrom_65 : dc_at mX1_copyFrom 65 (.invokestatic 49) 3 := by unfold dc_at; decide +kernel
theorem dX1_copyFrom_68 : dc_at mX1_copyFrom 68 (.return_) 1 := by unfold dc_at; decide +kernel
theorem dX2_init_0 : dc_at mX2_init 0 (.aload_n 0) 1 := by unfold dc_at; decide +kernel
theorem dX2_init_1 : dc_at mX2_init 1 (.invokespecial 3) 3 := by unfold dc_at; decide +kernel
theorem dX2_init_4 : dc_at mX2_init 4 (.aload_n 0) 1 := by unfold dc_at; decide +kernel
theorem dX2_init_5 : dc_at mX2_init 5 (.new 9) 3 := by unfold dc_at; decide +kernel
theorem dX2_init_8 : dc_at mX2_init 8 (.dup) 1 := by unfold dc_at; decide +kernel
theorem dX2_init_9 : dc_at mX2_init 9 (.invokespecial 11) 3 := by unfold dc_at; decide +kernel
theorem dX2_init_12 : dc_at mX2_init 12 (.putfield 12) 3 := by unfold dc_at; decide +kernel
theorem dX2_init_15 : dc_at mX2_init 15 (.aload_n 0) 1 := by unfold dc_at; decide +kernel
theorem dX2_init_16 : dc_at mX2_init 16 (.new 18) 3 := by unfold dc_at; decide +kernel
theorem dX2_init_19 : dc_at mX2_init 19 (.dup) 1 := by unfold dc_at; decide +kernel
theorem dX2_init_20 : dc_at mX2_init 20 (.invokespecial 20) 3 := by unfold dc_at; decide +kernel
theorem dX2_init_23 : dc_at mX2_init 23 (.putfield 21) 3 := by unfold dc_at; decide +kernel
theorem dX2_init_26 : dc_at mX2_init 26 (.aload_n 0) 1 := by unfold dc_at; decide +kernel
theorem dX2_init_27 : dc_at mX2_init 27 (.new 25) 3 := by unfold dc_at; decide +kernel
theorem dX2_init_30 : dc_at mX2_init 30 (.dup) 1 := by unfold dc_at; decide +kernel
theorem dX2_init_31 : dc_at mX2_init 31 (.invokespecial 27) 3 := by unfold dc_at; decide +kernel
theorem dX2_init_34 : dc_at mX2_init 34 (.putfield 28) 3 := by unfold dc_at; decide +kernel
theorem dX2_init_37 : dc_at mX2_init 37 (.aload_n 0) 1 := by unfold dc_at; decide +kernel
theorem dX2_init_38 : dc_at mX2_init 38 (.new 32) 3 := by unfold dc_at; decide +kernel
theorem dX2_init_41 : dc_at mX2_init 41 (.dup) 1 := by unfold dc_at; decide +kernel
theorem dX2_init_42 : dc_at mX2_init 42 (.invokespecial 34) 3 := by unfold dc_at; decide +kernel
theorem dX2_init_45 : dc_at mX2_init 45 (.putfield 35) 3 := by unfold dc_at; decide +kernel
theorem dX2_init_48 : dc_at mX2_init 48 (.aload_n 0) 1 := by unfold dc_at; decide +kernel
theorem dX2_init_49 : dc_at mX2_init 49 (.bipush 64) 2 := by unfold dc_at; decide +kernel
theorem dX2_init_51 : dc_at mX2_init 51 (.newarray .int) 2 := by unfold dc_at; decide +kernel
theorem dX2_init_53 : dc_at mX2_init 53 (.putfield 39) 3 := by unfold dc_at; decide +kernel
theorem dX2_init_56 : dc_at mX2_init 56 (.return_) 1 := by unfold dc_at; decide +kernel
theorem dX2_startAnew_0 : dc_at mX2_startAnew 0 (.aload_n 0) 1 := by unfold dc_at; decide +kernel
theorem dX2_startAnew_1 : dc_at mX2_startAnew 1 (.iload_n 1) 1 := by unfold dc_at; decide +kernel
theorem dX2_startAnew_2 : dc_at mX2_startAnew 2 (.putfield 43) 3 := by unfold dc_at; decide +kernel
theorem dX2_startAnew_5 : dc_at mX2_startAnew 5 (.aload_n 0) 1 := by unfold dc_at; decide +kernel
theorem dX2_startAnew_6 : dc_at mX2_startAnew 6 (.iconst 0) 1 := by unfold dc_at; decide +kernel
theorem dX2_startAnew_7 : dc_at mX2_startAnew 7 (.putfield 47) 3 := by unfold dc_at; decide +kernel
theorem dX2_startAnew_10 : dc_at mX2_startAnew 10 (.aload_n 0) 1 := by unfold dc_at; decide +kernel
theorem dX2_startAnew_11 : dc_at mX2_startAnew 11 (.iconst 0) 1 := by unfold dc_at; decide +kernel
theorem dX2_startAnew_12 : dc_at mX2_startAnew 12 (.putfield 50) 3 := by unfold dc_at; decide +kernel
theorem dX2_startAnew_15 : dc_at mX2_startAnew 15 (.aload_n 0) 1 := by unfold dc_at; decide +kernel
theorem dX2_startAnew_16 : dc_at mX2_startAnew 16 (.getfield 12) 3 := by unfold dc_at; decide +kernel
theorem dX2_startAnew_19 : dc_at mX2_startAnew 19 (.invokevirtual 53) 3 := by unfold dc_at; decide +kernel
theorem dX2_startAnew_22 : dc_at mX2_startAnew 22 (.aload_n 0) 1 := by unfold dc_at; decide +kernel
theorem dX2_startAnew_23 : dc_at mX2_startAnew 23 (.getfield 21) 3 := by unfold dc_at; decide +kernel
theorem dX2_startAnew_26 : dc_at mX2_startAnew 26 (.invokevirtual 56) 3 := by unfold dc_at; decide +kernel
theorem dX2_startAnew_29 : dc_at mX2_startAnew 29 (.aload_n 0) 1 := by unfold dc_at; decide +kernel
theorem dX2_startAnew_30 : dc_at mX2_startAnew 30 (.getfield 28) 3 := by unfold dc_at; decide +kernel
theorem dX2_startAnew_33 : dc_at mX2_startAnew 33 (.invokevirtual 57) 3 := by unfold dc_at; decide +kernel
theorem dX2_startAnew_36 : dc_at mX2_startAnew 36 (.aload_n 0) 1 := by unfold dc_at; decide +kernel
theorem dX2_startAnew_37 : dc_at mX2_startAnew 37 (.getfield 35) 3 := by unfold dc_at; decide +kernel
theorem dX2_startAnew_40 : dc_at mX2_startAnew 40 (.invokevirtual 58) 3 := by unfold dc_at; decide +kernel
theorem dX2_startAnew_43 : dc_at mX2_startAnew 43 (.aload_n 0) 1 := by unfold dc_at; decide +kernel
theorem dX2_startAnew_44 : dc_at mX2_startAnew 44 (.getfield 39) 3 := by unfold dc_at; decide +kernel
theorem dX2_startAnew_47 : dc_at mX2_startAnew 47 (.iconst (-1)) 1 := by unfold dc_at; decide +kernel
theorem dX2_startAnew_48 : dc_at mX2_startAnew 48 (.invokestatic 59) 3 := by unfold dc_at; decide +kernel
theorem dX2_startAnew_51 : dc_at mX2_startAnew 51 (.return_) 1 := by unfold dc_at; decide +kernel
theorem dX2_copyFrom_0 : dc_at mX2_copyFrom 0 (.aload_n 0) 1 := by unfold dc_at; decide +kernel
theorem dX2_copyFrom_1 : dc_at mX2_copyFrom 1 (.aload_n 1) 1 := by unfold dc_at; decide +kernel
theorem dX2_copyFrom_2 : dc_at mX2_copyFrom 2 (.getfield 43) 3 := by unfold dc_at; decide +kernel
theorem dX2_copyFrom_5 : dc_at mX2_copyFrom 5 (.putfield 43) 3 := by unfold dc_at; decide +kernel
theorem dX2_copyFrom_8 : dc_at mX2_copyFrom 8 (.aload_n 0) 1 := by unfold dc_at; decide +kernel
theorem dX2_copyFrom_9 : dc_at mX2_copyFrom 9 (.aload_n 1) 1 := by unfold dc_at; decide +kernel
theorem dX2_copyFrom_10 : dc_at mX2_copyFrom 10 (.getfield 47) 3 := by unfold dc_at; decide +kernel
theorem dX2_copyFrom_13 : dc_at mX2_copyFrom 13 (.putfield 47) 3 := by unfold dc_at; decide +kernel
theorem dX2_copyFrom_16 : dc_at mX2_copyFrom 16 (.aload_n 0) 1 := by unfold dc_at; decide +kernel
theorem dX2_copyFrom_17 : dc_at mX2_copyFrom 17 (.aload_n 1) 1 := by unfold dc_at; decide +kernel
theorem dX2_copyFrom_18 : dc_at mX2_copyFrom 18 (.getfield 50) 3 := by unfold dc_at; decide +kernel
theorem dX2_copyFrom_21 : dc_at mX2_copyFrom 21 (.putfield 50) 3 := by unfold dc_at; decide +kernel
theorem dX2_copyFrom_24 : dc_at mX2_copyFrom 24 (.aload_n 0) 1 := by unfold dc_at; decide +kernel
theorem dX2_copyFrom_25 : dc_at mX2_copyFrom 25 (.getfield 12) 3 := by unfold dc_at; decide +kernel
theorem dX2_copyFrom_28 : dc_at mX2_copyFrom 28 (.aload_n 1) 1 := by unfold dc_at; decide +kernel
theorem dX2_copyFrom_29 : dc_at mX2_copyFrom 29 (.getfield 12) 3 := by unfold dc_at; decide +kernel
theorem dX2_copyFrom_32 : dc_at mX2_copyFrom 32 (.invokevirtual 65) 3 := by unfold dc_at; decide +kernel
theorem dX2_copyFrom_35 : dc_at mX2_copyFrom 35 (.aload_n 0) 1 := by unfold dc_at; decide +kernel
theorem dX2_copyFrom_36 : dc_at mX2_copyFrom 36 (.getfield 21) 3 := by unfold dc_at; decide +kernel
theorem dX2_copyFrom_39 : dc_at mX2_copyFrom 39 (.aload_n 1) 1 := by unfold dc_at; decide +kernel
theorem dX2_copyFrom_40 : dc_at mX2_copyFrom 40 (.getfield 21) 3 := by unfold dc_at; decide +kernel
theorem dX2_copyFrom_43 : dc_at mX2_copyFrom 43 (.invokevirtual 69) 3 := by unfold dc_at; decide +kernel
theorem dX2_copyFrom_46 : dc_at mX2_copyFrom 46 (.aload_n 0) 1 := by unfold dc_at; decide +kernel
theorem dX2_copyFrom_47 : dc_at mX2_copyFrom 47 (.getfield 28) 3 := by unfold dc_at; decide +kernel
theorem dX2_copyFrom_50 : dc_at mX2_copyFrom 50 (.aload_n 1) 1 := by unfold dc_at; decide +kernel
theorem dX2_copyFrom_51 : dc_at mX2_copyFrom 51 (.getfield 28) 3 := by unfold dc_at; decide +kernel
theorem dX2_copyFrom_54 : dc_at mX2_copyFrom 54 (.invokevirtual 72) 3 := by unfold dc_at; decide +kernel
theorem dX2_copyFrom_57 : dc_at mX2_copyFrom 57 (.aload_n 0) 1 := by unfold dc_at; decide +kernel
theorem dX2_copyFrom_58 : dc_at mX2_copyFrom 58 (.getfield 35) 3 := by unfold dc_at; decide +kernel
theorem dX2_copyFrom_61 : dc_at mX2_copyFrom 61 (.aload_n 1) 1 := by unfold dc_at; decide +kernel
theorem dX2_copyFrom_62 : dc_at mX2_copyFrom 62 (.getfield 35) 3 := by unfold dc_at; decide +kernel
theorem dX2_copyFrom_65 : dc_at mX2_copyFrom 65 (.invokevirtual 75) 3 := by unfold dc_at; decide +kernel
theorem dX2_copyFrom_68 : dc_at mX2_copyFrom 68 (.aload_n 1) 1 := by unfold dc_at; decide +kernel
theorem dX2_copyFrom_69 : dc_at mX2_copyFrom 69 (.getfield 39) 3 := by unfold dc_at; decide +kernel
theorem dX2_copyFrom_72 : dc_at mX2_copyFrom 72 (.iconst 0) 1 := by unfold dc_at; decide +kernel
theorem dX2_copyFrom_73 : dc_at mX2_copyFrom 73 (.aload_n 0) 1 := by unfold dc_at; decide +kernel
theorem dX2_copyFrom_74 : dc_at mX2_copyFrom 74 (.getfield 39) 3 := by unfold dc_at; decide +kernel
theorem dX2_copyFrom_77 : dc_at mX2_copyFrom 77 (.iconst 0) 1 := by unfold dc_at; decide +kernel
theorem dX2_copyFrom_78 : dc_at mX2_copyFrom 78 (.bipush 64) 2 := by unfold dc_at; decide +kernel
theorem dX2_copyFrom_80 : dc_at mX2_copyFrom 80 (.invokestatic 78) 3 := by unfold dc_at; decide +kernel
theorem dX2_copyFrom_83 : dc_at mX2_copyFrom 83 (.return_) 1 := by unfold dc_at; decide +kernel
theorem dX2_isUsable_0 : dc_at mX2_isUsable 0 (.aload_n 0) 1 := by unfold dc_at; decide +kernel
theorem dX2_isUsable_1 : dc_at mX2_isUsable 1 (.getfield 12) 3 := by unfold dc_at; decide +kernel
theorem dX2_isUsable_4 : dc_at mX2_isUsable 4 (.iload_n 1) 1 := by unfold dc_at; decide +kernel
theorem dX2_isUsable_5 : dc_at mX2_isUsable 5 (.iload_n 3) 1 := by unfold dc_at; decide +kernel
theorem dX2_isUsable_6 : dc_at mX2_isUsable 6 (.invokevirtual 84) 3 := by unfold dc_at; decide +kernel
theorem dX2_isUsable_9 : dc_at mX2_isUsable 9 (.ifCond .eq 29) 3 := by unfold dc_at; decide +kernel
theorem dX2_isUsable_12 : dc_at mX2_isUsable 12 (.aload_n 0) 1 := by unfold dc_at; decide +kernel
theorem dX2_isUsable_13 : dc_at mX2_isUsable 13 (.getfield 21) 3 := by unfold dc_at; decide +kernel
theorem dX2_isUsable_16 : dc_at mX2_isUsable 16 (.iload_n 1) 1 := by unfold dc_at; decide +kernel
theorem dX2_isUsable_17 : dc_at mX2_isUsable 17 (.iload_n 2) 1 := by unfold dc_at; decide +kernel
theorem dX2_isUsable_18 : dc_at mX2_isUsable 18 (.iload_n 3) 1 := by unfold dc_at; decide +kernel
theorem dX2_isUsable_19 : dc_at mX2_isUsable 19 (.invokestatic 88) 3 := by unfold dc_at; decide +kernel
theorem dX2_isUsable_22 : dc_at mX2_isUsable 22 (.aload_n 0) 1 := by unfold dc_at; decide +kernel
theorem dX2_isUsable_23 : dc_at mX2_isUsable 23 (.getfield 47) 3 := by unfold dc_at; decide +kernel
theorem dX2_isUsable_26 : dc_at mX2_isUsable 26 (.iload 4) 2 := by unfold dc_at; decide +kernel
theorem dX2_isUsable_28 : dc_at mX2_isUsable 28 (.invokevirtual 92) 3 := by unfold dc_at; decide +kernel
theorem dX2_isUsable_31 : dc_at mX2_isUsable 31 (.ifCond .eq 7) 3 := by unfold dc_at; decide +kernel
theorem dX2_isUsable_34 : dc_at mX2_isUsable 34 (.iconst 1) 1 := by unfold dc_at; decide +kernel
theorem dX2_isUsable_35 : dc_at mX2_isUsable 35 (.goto 4) 3 := by unfold dc_at; decide +kernel
theorem dX2_isUsable_38 : dc_at mX2_isUsable 38 (.iconst 0) 1 := by unfold dc_at; decide +kernel
theorem dX2_isUsable_39 : dc_at mX2_isUsable 39 (.ireturn) 1 := by unfold dc_at; decide +kernel
theorem dX2_isDominated_0 : dc_at mX2_isDominated 0 (.aload_n 0) 1 := by unfold dc_at; decide +kernel
theorem dX2_isDominated_1 : dc_at mX2_isDominated 1 (.iload_n 1) 1 := by unfold dc_at; decide +kernel
theorem dX2_isDominated_2 : dc_at mX2_isDominated 2 (.iload_n 2) 1 := by unfold dc_at; decide +kernel
theorem dX2_isDominated_3 : dc_at mX2_isDominated 3 (.iload_n 3) 1 := by unfold dc_at; decide +kernel
theorem dX2_isDominated_4 : dc_at mX2_isDominated 4 (.iload 4) 2 := by unfold dc_at; decide +kernel
theorem dX2_isDominated_6 : dc_at mX2_isDominated 6 (.invokevirtual 96) 3 := by unfold dc_at; decide +kernel
theorem dX2_isDominated_9 : dc_at mX2_isDominated 9 (.ifCond .ne 5) 3 := by unfold dc_at; decide +kernel
theorem dX2_isDominated_12 : dc_at mX2_isDominated 12 (.iconst 0) 1 := by unfold dc_at; decide +kernel
theorem dX2_isDominated_13 : dc_at mX2_isDominated 13 (.ireturn) 1 := by unfold dc_at; decide +kernel
theorem dX2_isDominated_14 : dc_at mX2_isDominated 14 (.iconst 0) 1 := by unfold dc_at; decide +kernel
theorem dX2_isDominated_15 : dc_at mX2_isDominated 15 (.istore 5) 2 := by unfold dc_at; decide +kernel
theorem dX2_isDominated_17 : dc_at mX2_isDominated 17 (.iload 5) 2 := by unfold dc_at; decide +kernel
theorem dX2_isDominated_19 : dc_at mX2_isDominated 19 (.aload_n 0) 1 := by unfold dc_at; decide +kernel
theorem dX2_isDominated_20 : dc_at mX2_isDominated 20 (.getfield 43) 3 := by unfold dc_at; decide +kernel
theorem dX2_isDominated_23 : dc_at mX2_isDominated 23 (.if_icmp .ge 53) 3 := by unfold dc_at; decide +kernel
theorem dX2_isDominated_26 : dc_at mX2_isDominated 26 (.iload 5) 2 := by unfold dc_at; decide +kernel
theorem dX2_isDominated_28 : dc_at mX2_isDominated 28 (.iload_n 3) 1 := by unfold dc_at; decide +kernel
theorem dX2_isDominated_29 : dc_at mX2_isDominated 29 (.if_icmp .eq 41) 3 := by unfold dc_at; decide +kernel
theorem dX2_isDominated_32 : dc_at mX2_isDominated 32 (.aload_n 0) 1 := by unfold dc_at; decide +kernel
theorem dX2_isDominated_33 : dc_at mX2_isDominated 33 (.iload_n 1) 1 := by unfold dc_at; decide +kernel
theorem dX2_isDominated_34 : dc_at mX2_isDominated 34 (.iload_n 2) 1 := by unfold dc_at; decide +kernel
theorem dX2_isDominated_35 : dc_at mX2_isDominated 35 (.iload 5) 2 := by unfold dc_at; decide +kernel
theorem dX2_isDominated_37 : dc_at mX2_isDominated 37 (.iload 4) 2 := by unfold dc_at; decide +kernel
theorem dX2_isDominated_39 : dc_at mX2_isDominated 39 (.invokevirtual 96) 3 := by unfold dc_at; decide +kernel
theorem dX2_isDominated_42 : dc_at mX2_isDominated 42 (.ifCond .eq 28) 3 := by unfold dc_at; decide +kernel
theorem dX2_isDominated_45 : dc_at mX2_isDominated 45 (.aload_n 0) 1 := by unfold dc_at; decide +kernel
theorem dX2_isDominated_46 : dc_at mX2_isDominated 46 (.getfield 21) 3 := by unfold dc_at; decide +kernel
theorem dX2_isDominated_49 : dc_at mX2_isDominated 49 (.iload_n 1) 1 := by unfold dc_at; decide +kernel
theorem dX2_isDominated_50 : dc_at mX2_isDominated 50 (.iload_n 2) 1 := by unfold dc_at; decide +kernel
theorem dX2_isDominated_51 : dc_at mX2_isDominated 51 (.iload 5) 2 := by unfold dc_at; decide +kernel
theorem dX2_isDominated_53 : dc_at mX2_isDominated 53 (.invokestatic 88) 3 := by unfold dc_at; decide +kernel
theorem dX2_isDominated_56 : dc_at mX2_isDominated 56 (.iload_n 1) 1 := by unfold dc_at; decide +kernel
theorem dX2_isDominated_57 : dc_at mX2_isDominated 57 (.iload_n 2) 1 := by unfold dc_at; decide +kernel
theorem dX2_isDominated_58 : dc_at mX2_isDominated 58 (.iload_n 3) 1 := by unfold dc_at; decide +kernel
theorem dX2_isDominated_59 : dc_at mX2_isDominated 59 (.invokestatic 88) 3 := by unfold dc_at; decide +kernel
theorem dX2_isDominated_62 : dc_at mX2_isDominated 62 (.invokevirtual 100) 3 := by unfold dc_at; decide +kernel
theorem dX2_isDominated_65 : dc_at mX2_isDominated 65 (.ifCond .eq 5) 3 := by unfold dc_at; decide +kernel
theorem dX2_isDominated_68 : dc_at mX2_isDominated 68 (.iconst 1) 1 := by unfold dc_at; decide +kernel
theorem dX2_isDominated_69 : dc_at mX2_isDominated 69 (.ireturn) 1 := by unfold dc_at; decide +kernel
theorem dX2_isDominated_70 : dc_at mX2_isDominated 70 (.iinc 5 1) 3 := by unfold dc_at; decide +kernel
theorem dX2_isDominated_73 : dc_at mX2_isDominated 73 (.goto (-56)) 3 := by unfold dc_at; decide +kernel
theorem dX2_isDominated_76 : dc_at mX2_isDominated 76 (.iconst 0) 1 := by unfold dc_at; decide +kernel
theorem dX2_isDominated_77 : dc_at mX2_isDominated 77 (.ireturn) 1 := by unfold dc_at; decide +kernel
theorem dX3_init_0 : dc_at mX3_init 0 (.aload_n 0) 1 := by unfold dc_at; decide +kernel
theorem dX3_init_1 : dc_at mX3_init 1 (.invokespecial 3) 3 := by unfold dc_at; decide +kernel
theorem dX3_init_4 : dc_at mX3_init 4 (.aload_n 0) 1 := by unfold dc_at; decide +kernel
theorem dX3_init_5 : dc_at mX3_init 5 (.bipush 64) 2 := by unfold dc_at; decide +kernel
theorem dX3_init_7 : dc_at mX3_init 7 (.newarray .int) 2 := by unfold dc_at; decide +kernel
theorem dX3_init_9 : dc_at mX3_init 9 (.putfield 9) 3 := by unfold dc_at; decide +kernel
theorem dX3_init_12 : dc_at mX3_init 12 (.aload_n 0) 1 := by unfold dc_at; decide +kernel
theorem dX3_init_13 : dc_at mX3_init 13 (.bipush 64) 2 := by unfold dc_at; decide +kernel
theorem dX3_init_15 : dc_at mX3_init 15 (.newarray .int) 2 := by unfold dc_at; decide +kernel
theorem dX3_init_17 : dc_at mX3_init 17 (.putfield 15) 3 := by unfold dc_at; decide +kernel
theorem dX3_init_20 : dc_at mX3_init 20 (.aload_n 0) 1 := by unfold dc_at; decide +kernel
theorem dX3_init_21 : dc_at mX3_init 21 (.bipush 64) 2 := by unfold dc_at; decide +kernel
theorem dX3_init_23 : dc_at mX3_init 23 (.newarray .int) 2 := by unfold dc_at; decide +kernel
theorem dX3_init_25 : dc_at mX3_init 25 (.putfield 18) 3 := by unfold dc_at; decide +kernel
theorem dX3_init_28 : dc_at mX3_init 28 (.aload_n 0) 1 := by unfold dc_at; decide +kernel
theorem dX3_init_29 : dc_at mX3_init 29 (.bipush 8) 2 := by unfold dc_at; decide +kernel
theorem dX3_init_31 : dc_at mX3_init 31 (.newarray .int) 2 := by unfold dc_at; decide +kernel
theorem dX3_init_33 : dc_at mX3_init 33 (.putfield 21) 3 := by unfold dc_at; decide +kernel
theorem dX3_init_36 : dc_at mX3_init 36 (.aload_n 0) 1 := by unfold dc_at; decide +kernel
theorem dX3_init_37 : dc_at mX3_init 37 (.bipush 8) 2 := by unfold dc_at; decide +kernel
theorem dX3_init_39 : dc_at mX3_init 39 (.newarray .int) 2 := by unfold dc_at; decide +kernel
theorem dX3_init_41 : dc_at mX3_init 41 (.putfield 24) 3 := by unfold dc_at; decide +kernel
theorem dX3_init_44 : dc_at mX3_init 44 (.aload_n 0) 1 := by unfold dc_at; decide +kernel
theorem dX3_init_45 : dc_at mX3_init 45 (.bipush 8) 2 := by unfold dc_at; decide +kernel
theorem dX3_init_47 : dc_at mX3_init 47 (.newarray .int) 2 := by unfold dc_at; decide +kernel
theorem dX3_init_49 : dc_at mX3_init 49 (.putfield 27) 3 := by unfold dc_at; decide +kernel
theorem dX3_init_52 : dc_at mX3_init 52 (.aload_n 0) 1 := by unfold dc_at; decide +kernel
theorem dX3_init_53 : dc_at mX3_init 53 (.bipush 8) 2 := by unfold dc_at; decide +kernel
theorem dX3_init_55 : dc_at mX3_init 55 (.newarray .int) 2 := by unfold dc_at; decide +kernel
theorem dX3_init_57 : dc_at mX3_init 57 (.putfield 30) 3 := by unfold dc_at; decide +kernel
theorem dX3_init_60 : dc_at mX3_init 60 (.aload_n 0) 1 := by unfold dc_at; decide +kernel
theorem dX3_init_61 : dc_at mX3_init 61 (.bipush 8) 2 := by unfold dc_at; decide +kernel
theorem dX3_init_63 : dc_at mX3_init 63 (.newarray .int) 2 := by unfold dc_at; decide +kernel
theorem dX3_init_65 : dc_at mX3_init 65 (.putfield 33) 3 := by unfold dc_at; decide +kernel
theorem dX3_init_68 : dc_at mX3_init 68 (.aload_n 0) 1 := by unfold dc_at; decide +kernel
theorem dX3_init_69 : dc_at mX3_init 69 (.bipush 8) 2 := by unfold dc_at; decide +kernel
theorem dX3_init_71 : dc_at mX3_init 71 (.newarray .int) 2 := by unfold dc_at; decide +kernel
theorem dX3_init_73 : dc_at mX3_init 73 (.putfield 36) 3 := by unfold dc_at; decide +kernel
theorem dX3_init_76 : dc_at mX3_init 76 (.return_) 1 := by unfold dc_at; decide +kernel
theorem dX3_reaches_0 : dc_at mX3_reaches 0 (.aload_n 0) 1 := by unfold dc_at; decide +kernel
theorem dX3_reaches_1 : dc_at mX3_reaches 1 (.getfield 15) 3 := by unfold dc_at; decide +kernel
theorem dX3_reaches_4 : dc_at mX3_reaches 4 (.iload_n 1) 1 := by unfold dc_at; decide +kernel
theorem dX3_reaches_5 : dc_at mX3_reaches 5 (.iaload) 1 := by unfold dc_at; decide +kernel
theorem dX3_reaches_6 : dc_at mX3_reaches 6 (.iconst (-1)) 1 := by unfold dc_at; decide +kernel
theorem dX3_reaches_7 : dc_at mX3_reaches 7 (.if_icmp .eq 7) 3 := by unfold dc_at; decide +kernel
theorem dX3_reaches_10 : dc_at mX3_reaches 10 (.iconst 1) 1 := by unfold dc_at; decide +kernel
theorem dX3_reaches_11 : dc_at mX3_reaches 11 (.goto 4) 3 := by unfold dc_at; decide +kernel
theorem dX3_reaches_14 : dc_at mX3_reaches 14 (.iconst 0) 1 := by unfold dc_at; decide +kernel
theorem dX3_reaches_15 : dc_at mX3_reaches 15 (.ireturn) 1 := by unfold dc_at; decide +kernel
theorem dX3_take_0 : dc_at mX3_take 0 (.iconst 0) 1 := by unfold dc_at; decide +kernel
theorem dX3_take_1 : dc_at mX3_take 1 (.istore_n 3) 1 := by unfold dc_at; decide +kernel
theorem dX3_take_2 : dc_at mX3_take 2 (.iload_n 3) 1 := by unfold dc_at; decide +kernel
theorem dX3_take_3 : dc_at mX3_take 3 (.aload_n 1) 1 := by unfold dc_at; decide +kernel
theorem dX3_take_4 : dc_at mX3_take 4 (.getfield 39) 3 := by unfold dc_at; decide +kernel
theorem dX3_take_7 : dc_at mX3_take 7 (.if_icmp .ge 42) 3 := by unfold dc_at; decide +kernel
theorem dX3_take_10 : dc_at mX3_take 10 (.aload_n 0) 1 := by unfold dc_at; decide +kernel
theorem dX3_take_11 : dc_at mX3_take 11 (.aload_n 1) 1 := by unfold dc_at; decide +kernel
theorem dX3_take_12 : dc_at mX3_take 12 (.iload_n 3) 1 := by unfold dc_at; decide +kernel
theorem dX3_take_13 : dc_at mX3_take 13 (.invokevirtual 45) 3 := by unfold dc_at; decide +kernel
theorem dX3_take_16 : dc_at mX3_take 16 (.iconst 0) 1 := by unfold dc_at; decide +kernel
theorem dX3_take_17 : dc_at mX3_take 17 (.istore 4) 2 := by unfold dc_at; decide +kernel
theorem dX3_take_19 : dc_at mX3_take 19 (.iload 4) 2 := by unfold dc_at; decide +kernel
theorem dX3_take_21 : dc_at mX3_take 21 (.aload_n 1) 1 := by unfold dc_at; decide +kernel
theorem dX3_take_22 : dc_at mX3_take 22 (.getfield 39) 3 := by unfold dc_at; decide +kernel
theorem dX3_take_25 : dc_at mX3_take 25 (.if_icmp .ge 18) 3 := by unfold dc_at; decide +kernel
theorem dX3_take_28 : dc_at mX3_take 28 (.aload_n 0) 1 := by unfold dc_at; decide +kernel
theorem dX3_take_29 : dc_at mX3_take 29 (.aload_n 1) 1 := by unfold dc_at; decide +kernel
theorem dX3_take_30 : dc_at mX3_take 30 (.aload_n 2) 1 := by unfold dc_at; decide +kernel
theorem dX3_take_31 : dc_at mX3_take 31 (.iload_n 3) 1 := by unfold dc_at; decide +kernel
theorem dX3_take_32 : dc_at mX3_take 32 (.iload 4) 2 := by unfold dc_at; decide +kernel
theorem dX3_take_34 : dc_at mX3_take 34 (.invokevirtual 49) 3 := by unfold dc_at; decide +kernel
theorem dX3_take_37 : dc_at mX3_take 37 (.iinc 4 1) 3 := by unfold dc_at; decide +kernel
theorem dX3_take_40 : dc_at mX3_take 40 (.goto (-21)) 3 := by unfold dc_at; decide +kernel
theorem dX3_take_43 : dc_at mX3_take 43 (.iinc 3 1) 3 := by unfold dc_at; decide +kernel
theorem dX3_take_46 : dc_at mX3_take 46 (.goto (-44)) 3 := by unfold dc_at; decide +kernel
theorem dX3_take_49 : dc_at mX3_take 49 (.return_) 1 := by unfold dc_at; decide +kernel
theorem dX3_takeOne_0 : dc_at mX3_takeOne 0 (.aload_n 0) 1 := by unfold dc_at; decide +kernel
theorem dX3_takeOne_1 : dc_at mX3_takeOne 1 (.aload_n 1) 1 := by unfold dc_at; decide +kernel
theorem dX3_takeOne_2 : dc_at mX3_takeOne 2 (.iload_n 3) 1 := by unfold dc_at; decide +kernel
theorem dX3_takeOne_3 : dc_at mX3_takeOne 3 (.invokevirtual 45) 3 := by unfold dc_at; decide +kernel
theorem dX3_takeOne_6 : dc_at mX3_takeOne 6 (.aload_n 0) 1 := by unfold dc_at; decide +kernel
theorem dX3_takeOne_7 : dc_at mX3_takeOne 7 (.aload_n 1) 1 := by unfold dc_at; decide +kernel
theorem dX3_takeOne_8 : dc_at mX3_takeOne 8 (.aload_n 2) 1 := by unfold dc_at; decide +kernel
theorem dX3_takeOne_9 : dc_at mX3_takeOne 9 (.iload_n 3) 1 := by unfold dc_at; decide +kernel
theorem dX3_takeOne_10 : dc_at mX3_takeOne 10 (.iload 4) 2 := by unfold dc_at; decide +kernel
theorem dX3_takeOne_12 : dc_at mX3_takeOne 12 (.invokevirtual 49) 3 := by unfold dc_at; decide +kernel
theorem dX3_takeOne_15 : dc_at mX3_takeOne 15 (.return_) 1 := by unfold dc_at; decide +kernel
theorem dX3_findNeighbours_0 : dc_at mX3_findNeighbours 0 (.aload_n 0) 1 := by unfold dc_at; decide +kernel
theorem dX3_findNeighbours_1 : dc_at mX3_findNeighbours 1 (.iconst 0) 1 := by unfold dc_at; decide +kernel
theorem dX3_findNeighbours_2 : dc_at mX3_findNeighbours 2 (.putfield 53) 3 := by unfold dc_at; decide +kernel
theorem dX3_findNeighbours_5 : dc_at mX3_findNeighbours 5 (.iconst 0) 1 := by unfold dc_at; decide +kernel
theorem dX3_findNeighbours_6 : dc_at mX3_findNeighbours 6 (.istore_n 3) 1 := by unfold dc_at; decide +kernel
theorem dX3_findNeighbours_7 : dc_at mX3_findNeighbours 7 (.iload_n 3) 1 := by unfold dc_at; decide +kernel
theorem dX3_findNeighbours_8 : dc_at mX3_findNeighbours 8 (.aload_n 1) 1 := by unfold dc_at; decide +kernel
theorem dX3_findNeighbours_9 : dc_at mX3_findNeighbours 9 (.getfield 39) 3 := by unfold dc_at; decide +kernel
theorem dX3_findNeighbours_12 : dc_at mX3_findNeighbours 12 (.if_icmp .ge 41) 3 := by unfold dc_at; decide +kernel
theorem dX3_findNeighbours_15 : dc_at mX3_findNeighbours 15 (.aload_n 1) 1 := by unfold dc_at; decide +kernel
theorem dX3_findNeighbours_16 : dc_at mX3_findNeighbours 16 (.getfield 56) 3 := by unfold dc_at; decide +kernel
theorem dX3_findNeighbours_19 : dc_at mX3_findNeighbours 19 (.iload_n 2) 1 := by unfold dc_at; decide +kernel
theorem dX3_findNeighbours_20 : dc_at mX3_findNeighbours 20 (.iload_n 3) 1 := by unfold dc_at; decide +kernel
theorem dX3_findNeighbours_21 : dc_at mX3_findNeighbours 21 (.invokevirtual 60) 3 := by unfold dc_at; decide +kernel
theorem dX3_findNeighbours_24 : dc_at mX3_findNeighbours 24 (.ifCond .eq 23) 3 := by unfold dc_at; decide +kernel
theorem dX3_findNeighbours_27 : dc_at mX3_findNeighbours 27 (.aload_n 0) 1 := by unfold dc_at; decide +kernel
theorem dX3_findNeighbours_28 : dc_at mX3_findNeighbours 28 (.getfield 21) 3 := by unfold dc_at; decide +kernel
theorem dX3_findNeighbours_31 : dc_at mX3_findNeighbours 31 (.aload_n 0) 1 := by unfold dc_at; decide +kernel
theorem dX3_findNeighbours_32 : dc_at mX3_findNeighbours 32 (.getfield 53) 3 := by unfold dc_at; decide +kernel
theorem dX3_findNeighbours_35 : dc_at mX3_findNeighbours 35 (.iload_n 3) 1 := by unfold dc_at; decide +kernel
theorem dX3_findNeighbours_36 : dc_at mX3_findNeighbours 36 (.iastore) 1 := by unfold dc_at; decide +kernel
theorem dX3_findNeighbours_37 : dc_at mX3_findNeighbours 37 (.aload_n 0) 1 := by unfold dc_at; decide +kernel
theorem dX3_findNeighbours_38 : dc_at mX3_findNeighbours 38 (.dup) 1 := by unfold dc_at; decide +kernel
theorem dX3_findNeighbours_39 : dc_at mX3_findNeighbours 39 (.getfield 53) 3 := by unfold dc_at; decide +kernel
theorem dX3_findNeighbours_42 : dc_at mX3_findNeighbours 42 (.iconst 1) 1 := by unfold dc_at; decide +kernel
theorem dX3_findNeighbours_43 : dc_at mX3_findNeighbours 43 (.iadd) 1 := by unfold dc_at; decide +kernel
theorem dX3_findNeighbours_44 : dc_at mX3_findNeighbours 44 (.putfield 53) 3 := by unfold dc_at; decide +kernel
theorem dX3_findNeighbours_47 : dc_at mX3_findNeighbours 47 (.iinc 3 1) 3 := by unfold dc_at; decide +kernel
theorem dX3_findNeighbours_50 : dc_at mX3_findNeighbours 50 (.goto (-43)) 3 := by unfold dc_at; decide +kernel
theorem dX3_findNeighbours_53 : dc_at mX3_findNeighbours 53 (.return_) 1 := by unfold dc_at; decide +kernel
theorem dX3_look_0 : dc_at mX3_look 0 (.iload_n 3) 1 := by unfold dc_at; decide +kernel
theorem dX3_look_1 : dc_at mX3_look 1 (.iload 4) 2 := by unfold dc_at; decide +kernel
theorem dX3_look_3 : dc_at mX3_look 3 (.invokestatic 66) 3 := by unfold dc_at; decide +kernel
theorem dX3_look_6 : dc_at mX3_look 6 (.istore 5) 2 := by unfold dc_at; decide +kernel
theorem dX3_look_8 : dc_at mX3_look 8 (.aload_n 0) 1 := by unfold dc_at; decide +kernel
theorem dX3_look_9 : dc_at mX3_look 9 (.aload_n 1) 1 := by unfold dc_at; decide +kernel
theorem dX3_look_10 : dc_at mX3_look 10 (.iload_n 3) 1 := by unfold dc_at; decide +kernel
theorem dX3_look_11 : dc_at mX3_look 11 (.iload 4) 2 := by unfold dc_at; decide +kernel
theorem dX3_look_13 : dc_at mX3_look 13 (.aload_n 2) 1 := by unfold dc_at; decide +kernel
theorem dX3_look_14 : dc_at mX3_look 14 (.bipush 6) 2 := by unfold dc_at; decide +kernel
theorem dX3_look_16 : dc_at mX3_look 16 (.iaload) 1 := by unfold dc_at; decide +kernel
theorem dX3_look_17 : dc_at mX3_look 17 (.invokevirtual 70) 3 := by unfold dc_at; decide +kernel
theorem dX3_look_20 : dc_at mX3_look 20 (.aload_n 0) 1 := by unfold dc_at; decide +kernel
theorem dX3_look_21 : dc_at mX3_look 21 (.iload 5) 2 := by unfold dc_at; decide +kernel
theorem dX3_look_23 : dc_at mX3_look 23 (.iload_n 3) 1 := by unfold dc_at; decide +kernel
theorem dX3_look_24 : dc_at mX3_look 24 (.iload 4) 2 := by unfold dc_at; decide +kernel
theorem dX3_look_26 : dc_at mX3_look 26 (.if_icmp .ne 7) 3 := by unfold dc_at; decide +kernel
theorem dX3_look_29 : dc_at mX3_look 29 (.iconst 1) 1 := by unfold dc_at; decide +kernel
theorem dX3_look_30 : dc_at mX3_look 30 (.goto 4) 3 := by unfold dc_at; decide +kernel
theorem dX3_look_33 : dc_at mX3_look 33 (.iconst 0) 1 := by unfold dc_at; decide +kernel
theorem dX3_look_34 : dc_at mX3_look 34 (.invokevirtual 74) 3 := by unfold dc_at; decide +kernel
theorem dX3_look_37 : dc_at mX3_look 37 (.aload_n 0) 1 := by unfold dc_at; decide +kernel
theorem dX3_look_38 : dc_at mX3_look 38 (.aload_n 2) 1 := by unfold dc_at; decide +kernel
theorem dX3_look_39 : dc_at mX3_look 39 (.iconst 2) 1 := by unfold dc_at; decide +kernel
theorem dX3_look_40 : dc_at mX3_look 40 (.iaload) 1 := by unfold dc_at; decide +kernel
theorem dX3_look_41 : dc_at mX3_look 41 (.invokevirtual 78) 3 := by unfold dc_at; decide +kernel
theorem dX3_look_44 : dc_at mX3_look 44 (.aload_n 0) 1 := by unfold dc_at; decide +kernel
theorem dX3_look_45 : dc_at mX3_look 45 (.getfield 18) 3 := by unfold dc_at; decide +kernel
theorem dX3_look_48 : dc_at mX3_look 48 (.iload 5) 2 := by unfold dc_at; decide +kernel
theorem dX3_look_50 : dc_at mX3_look 50 (.aload_n 0) 1 := by unfold dc_at; decide +kernel
theorem dX3_look_51 : dc_at mX3_look 51 (.invokevirtual 82) 3 := by unfold dc_at; decide +kernel
theorem dX3_look_54 : dc_at mX3_look 54 (.iastore) 1 := by unfold dc_at; decide +kernel
theorem dX3_look_55 : dc_at mX3_look 55 (.return_) 1 := by unfold dc_at; decide +kernel
theorem dX3_gather_0 : dc_at mX3_gather 0 (.aload_n 0) 1 := by unfold dc_at; decide +kernel
theorem dX3_gather_1 : dc_at mX3_gather 1 (.iconst 0) 1 := by unfold dc_at; decide +kernel
theorem dX3_gather_2 : dc_at mX3_gather 2 (.putfield 86) 3 := by unfold dc_at; decide +kernel
theorem dX3_gather_5 : dc_at mX3_gather 5 (.iconst 0) 1 := by unfold dc_at; decide +kernel
theorem dX3_gather_6 : dc_at mX3_gather 6 (.istore 5) 2 := by unfold dc_at; decide +kernel
theorem dX3_gather_8 : dc_at mX3_gather 8 (.iload 5) 2 := by unfold dc_at; decide +kernel
theorem dX3_gather_10 : dc_at mX3_gather 10 (.aload_n 0) 1 := by unfold dc_at; decide +kernel
theorem dX3_gather_11 : dc_at mX3_gather 11 (.getfield 53) 3 := by unfold dc_at; decide +kernel
theorem dX3_gather_14 : dc_at mX3_gather 14 (.if_icmp .ge 105) 3 := by unfold dc_at; decide +kernel
theorem dX3_gather_17 : dc_at mX3_gather 17 (.iload_n 2) 1 := by unfold dc_at; decide +kernel
theorem dX3_gather_18 : dc_at mX3_gather 18 (.iload_n 3) 1 := by unfold dc_at; decide +kernel
theorem dX3_gather_19 : dc_at mX3_gather 19 (.aload_n 0) 1 := by unfold dc_at; decide +kernel
theorem dX3_gather_20 : dc_at mX3_gather 20 (.getfield 21) 3 := by unfold dc_at; decide +kernel
theorem dX3_gather_23 : dc_at mX3_gather 23 (.iload 5) 2 := by unfold dc_at; decide +kernel
theorem dX3_gather_25 : dc_at mX3_gather 25 (.iaload) 1 := by unfold dc_at; decide +kernel
theorem dX3_gather_26 : dc_at mX3_gather 26 (.invokestatic 89) 3 := by unfold dc_at; decide +kernel
theorem dX3_gather_29 : dc_at mX3_gather 29 (.istore 6) 2 := by unfold dc_at; decide +kernel
theorem dX3_gather_31 : dc_at mX3_gather 31 (.aload_n 1) 1 := by unfold dc_at; decide +kernel
theorem dX3_gather_32 : dc_at mX3_gather 32 (.getfield 93) 3 := by unfold dc_at; decide +kernel
theorem dX3_gather_35 : dc_at mX3_gather 35 (.iload 6) 2 := by unfold dc_at; decide +kernel
theorem dX3_gather_37 : dc_at mX3_gather 37 (.aload_n 1) 1 := by unfold dc_at; decide +kernel
theorem dX3_gather_38 : dc_at mX3_gather 38 (.getfield 97) 3 := by unfold dc_at; decide +kernel
theorem dX3_gather_41 : dc_at mX3_gather 41 (.iload 4) 2 := by unfold dc_at; decide +kernel
theorem dX3_gather_43 : dc_at mX3_gather 43 (.invokevirtual 100) 3 := by unfold dc_at; decide +kernel
theorem dX3_gather_46 : dc_at mX3_gather 46 (.ifCond .eq 67) 3 := by unfold dc_at; decide +kernel
theorem dX3_gather_49 : dc_at mX3_gather 49 (.aload_n 0) 1 := by unfold dc_at; decide +kernel
theorem dX3_gather_50 : dc_at mX3_gather 50 (.getfield 24) 3 := by unfold dc_at; decide +kernel
theorem dX3_gather_53 : dc_at mX3_gather 53 (.aload_n 0) 1 := by unfold dc_at; decide +kernel
theorem dX3_gather_54 : dc_at mX3_gather 54 (.getfield 86) 3 := by unfold dc_at; decide +kernel
theorem dX3_gather_57 : dc_at mX3_gather 57 (.aload_n 0) 1 := by unfold dc_at; decide +kernel
theorem dX3_gather_58 : dc_at mX3_gather 58 (.getfield 21) 3 := by unfold dc_at; decide +kernel
theorem dX3_gather_61 : dc_at mX3_gather 61 (.iload 5) 2 := by unfold dc_at; decide +kernel
theorem dX3_gather_63 : dc_at mX3_gather 63 (.iaload) 1 := by unfold dc_at; decide +kernel
theorem dX3_gather_64 : dc_at mX3_gather 64 (.iastore) 1 := by unfold dc_at; decide +kernel
theorem dX3_gather_65 : dc_at mX3_gather 65 (.aload_n 0) 1 := by unfold dc_at; decide +kernel
theorem dX3_gather_66 : dc_at mX3_gather 66 (.getfield 27) 3 := by unfold dc_at; decide +kernel
theorem dX3_gather_69 : dc_at mX3_gather 69 (.aload_n 0) 1 := by unfold dc_at; decide +kernel
theorem dX3_gather_70 : dc_at mX3_gather 70 (.getfield 86) 3 := by unfold dc_at; decide +kernel
theorem dX3_gather_73 : dc_at mX3_gather 73 (.aload_n 1) 1 := by unfold dc_at; decide +kernel
theorem dX3_gather_74 : dc_at mX3_gather 74 (.getfield 93) 3 := by unfold dc_at; decide +kernel
theorem dX3_gather_77 : dc_at mX3_gather 77 (.getfield 106) 3 := by unfold dc_at; decide +kernel
theorem dX3_gather_80 : dc_at mX3_gather 80 (.iload 6) 2 := by unfold dc_at; decide +kernel
theorem dX3_gather_82 : dc_at mX3_gather 82 (.iaload) 1 := by unfold dc_at; decide +kernel
theorem dX3_gather_83 : dc_at mX3_gather 83 (.iastore) 1 := by unfold dc_at; decide +kernel
theorem dX3_gather_84 : dc_at mX3_gather 84 (.aload_n 0) 1 := by unfold dc_at; decide +kernel
theorem dX3_gather_85 : dc_at mX3_gather 85 (.getfield 30) 3 := by unfold dc_at; decide +kernel
theorem dX3_gather_88 : dc_at mX3_gather 88 (.aload_n 0) 1 := by unfold dc_at; decide +kernel
theorem dX3_gather_89 : dc_at mX3_gather 89 (.getfield 86) 3 := by unfold dc_at; decide +kernel
theorem dX3_gather_92 : dc_at mX3_gather 92 (.aload_n 1) 1 := by unfold dc_at; decide +kernel
theorem dX3_gather_93 : dc_at mX3_gather 93 (.getfield 93) 3 := by unfold dc_at; decide +kernel
theorem dX3_gather_96 : dc_at mX3_gather 96 (.getfield 107) 3 := by unfold dc_at; decide +kernel
theorem dX3_gather_99 : dc_at mX3_gather 99 (.iload 6) 2 := by unfold dc_at; decide +kernel
theorem dX3_gather_101 : dc_at mX3_gather 101 (.iaload) 1 := by unfold dc_at; decide +kernel
theorem dX3_gather_102 : dc_at mX3_gather 102 (.iastore) 1 := by unfold dc_at; decide +kernel
theorem dX3_gather_103 : dc_at mX3_gather 103 (.aload_n 0) 1 := by unfold dc_at; decide +kernel
theorem dX3_gather_104 : dc_at mX3_gather 104 (.dup) 1 := by unfold dc_at; decide +kernel
theorem dX3_gather_105 : dc_at mX3_gather 105 (.getfield 86) 3 := by unfold dc_at; decide +kernel
theorem dX3_gather_108 : dc_at mX3_gather 108 (.iconst 1) 1 := by unfold dc_at; decide +kernel
theorem dX3_gather_109 : dc_at mX3_gather 109 (.iadd) 1 := by unfold dc_at; decide +kernel
theorem dX3_gather_110 : dc_at mX3_gather 110 (.putfield 86) 3 := by unfold dc_at; decide +kernel
theorem dX3_gather_113 : dc_at mX3_gather 113 (.iinc 5 1) 3 := by unfold dc_at; decide +kernel
theorem dX3_gather_116 : dc_at mX3_gather 116 (.goto (-108)) 3 := by unfold dc_at; decide +kernel
theorem dX3_gather_119 : dc_at mX3_gather 119 (.return_) 1 := by unfold dc_at; decide +kernel
theorem dX3_putDistance_0 : dc_at mX3_putDistance 0 (.iload_n 2) 1 := by unfold dc_at; decide +kernel
theorem dX3_putDistance_1 : dc_at mX3_putDistance 1 (.ifCond .eq 7) 3 := by unfold dc_at; decide +kernel
theorem dX3_putDistance_4 : dc_at mX3_putDistance 4 (.iconst 0) 1 := by unfold dc_at; decide +kernel
theorem dX3_putDistance_5 : dc_at mX3_putDistance 5 (.goto 4) 3 := by unfold dc_at; decide +kernel
theorem dX3_putDistance_8 : dc_at mX3_putDistance 8 (.iconst (-1)) 1 := by unfold dc_at; decide +kernel
theorem dX3_putDistance_9 : dc_at mX3_putDistance 9 (.istore_n 3) 1 := by unfold dc_at; decide +kernel
theorem dX3_putDistance_10 : dc_at mX3_putDistance 10 (.iload_n 2) 1 := by unfold dc_at; decide +kernel
theorem dX3_putDistance_11 : dc_at mX3_putDistance 11 (.ifCond .eq 7) 3 := by unfold dc_at; decide +kernel
theorem dX3_putDistance_14 : dc_at mX3_putDistance 14 (.iconst 0) 1 := by unfold dc_at; decide +kernel
theorem dX3_putDistance_15 : dc_at mX3_putDistance 15 (.goto 4) 3 := by unfold dc_at; decide +kernel
theorem dX3_putDistance_18 : dc_at mX3_putDistance 18 (.iconst (-1)) 1 := by unfold dc_at; decide +kernel
theorem dX3_putDistance_19 : dc_at mX3_putDistance 19 (.istore 4) 2 := by unfold dc_at; decide +kernel
theorem dX3_putDistance_21 : dc_at mX3_putDistance 21 (.iconst 0) 1 := by unfold dc_at; decide +kernel
theorem dX3_putDistance_22 : dc_at mX3_putDistance 22 (.istore 5) 2 := by unfold dc_at; decide +kernel
theorem dX3_putDistance_24 : dc_at mX3_putDistance 24 (.iload 5) 2 := by unfold dc_at; decide +kernel
theorem dX3_putDistance_26 : dc_at mX3_putDistance 26 (.aload_n 0) 1 := by unfold dc_at; decide +kernel
theorem dX3_putDistance_27 : dc_at mX3_putDistance 27 (.getfield 86) 3 := by unfold dc_at; decide +kernel
theorem dX3_putDistance_30 : dc_at mX3_putDistance 30 (.if_icmp .ge 65) 3 := by unfold dc_at; decide +kernel
theorem dX3_putDistance_33 : dc_at mX3_putDistance 33 (.iload 5) 2 := by unfold dc_at; decide +kernel
theorem dX3_putDistance_35 : dc_at mX3_putDistance 35 (.ifCond .ne 13) 3 := by unfold dc_at; decide +kernel
theorem dX3_putDistance_38 : dc_at mX3_putDistance 38 (.aload_n 0) 1 := by unfold dc_at; decide +kernel
theorem dX3_putDistance_39 : dc_at mX3_putDistance 39 (.getfield 27) 3 := by unfold dc_at; decide +kernel
theorem dX3_putDistance_42 : dc_at mX3_putDistance 42 (.iload 5) 2 := by unfold dc_at; decide +kernel
theorem dX3_putDistance_44 : dc_at mX3_putDistance 44 (.iaload) 1 := by unfold dc_at; decide +kernel
theorem dX3_putDistance_45 : dc_at mX3_putDistance 45 (.goto 14) 3 := by unfold dc_at; decide +kernel
theorem dX3_putDistance_48 : dc_at mX3_putDistance 48 (.iload_n 3) 1 := by unfold dc_at; decide +kernel
theorem dX3_putDistance_49 : dc_at mX3_putDistance 49 (.aload_n 0) 1 := by unfold dc_at; decide +kernel
theorem dX3_putDistance_50 : dc_at mX3_putDistance 50 (.getfield 27) 3 := by unfold dc_at; decide +kernel
theorem dX3_putDistance_53 : dc_at mX3_putDistance 53 (.iload 5) 2 := by unfold dc_at; decide +kernel
theorem dX3_putDistance_55 : dc_at mX3_putDistance 55 (.iaload) 1 := by unfold dc_at; decide +kernel
theorem dX3_putDistance_56 : dc_at mX3_putDistance 56 (.invokestatic 108) 3 := by unfold dc_at; decide +kernel
theorem dX3_putDistance_59 : dc_at mX3_putDistance 59 (.istore_n 3) 1 := by unfold dc_at; decide +kernel
theorem dX3_putDistance_60 : dc_at mX3_putDistance 60 (.iload 5) 2 := by unfold dc_at; decide +kernel
theorem dX3_putDistance_62 : dc_at mX3_putDistance 62 (.ifCond .ne 13) 3 := by unfold dc_at; decide +kernel
theorem dX3_putDistance_65 : dc_at mX3_putDistance 65 (.aload_n 0) 1 := by unfold dc_at; decide +kernel
theorem dX3_putDistance_66 : dc_at mX3_putDistance 66 (.getfield 30) 3 := by unfold dc_at; decide +kernel
theorem dX3_putDistance_69 : dc_at mX3_putDistance 69 (.iload 5) 2 := by unfold dc_at; decide +kernel
theorem dX3_putDistance_71 : dc_at mX3_putDistance 71 (.iaload) 1 := by unfold dc_at; decide +kernel
theorem dX3_putDistance_72 : dc_at mX3_putDistance 72 (.goto 15) 3 := by unfold dc_at; decide +kernel
theorem dX3_putDistance_75 : dc_at mX3_putDistance 75 (.iload 4) 2 := by unfold dc_at; decide +kernel
theorem dX3_putDistance_77 : dc_at mX3_putDistance 77 (.aload_n 0) 1 := by unfold dc_at; decide +kernel
theorem dX3_putDistance_78 : dc_at mX3_putDistance 78 (.getfield 30) 3 := by unfold dc_at; decide +kernel
theorem dX3_putDistance_81 : dc_at mX3_putDistance 81 (.iload 5) 2 := by unfold dc_at; decide +kernel
theorem dX3_putDistance_83 : dc_at mX3_putDistance 83 (.iaload) 1 := by unfold dc_at; decide +kernel
theorem dX3_putDistance_84 : dc_at mX3_putDistance 84 (.invokestatic 108) 3 := by unfold dc_at; decide +kernel
theorem dX3_putDistance_87 : dc_at mX3_putDistance 87 (.istore 4) 2 := by unfold dc_at; decide +kernel
theorem dX3_putDistance_89 : dc_at mX3_putDistance 89 (.iinc 5 1) 3 := by unfold dc_at; decide +kernel
theorem dX3_putDistance_92 : dc_at mX3_putDistance 92 (.goto (-68)) 3 := by unfold dc_at; decide +kernel
theorem dX3_putDistance_95 : dc_at mX3_putDistance 95 (.aload_n 0) 1 := by unfold dc_at; decide +kernel
theorem dX3_putDistance_96 : dc_at mX3_putDistance 96 (.getfield 9) 3 := by unfold dc_at; decide +kernel
theorem dX3_putDistance_99 : dc_at mX3_putDistance 99 (.iload_n 1) 1 := by unfold dc_at; decide +kernel
theorem dX3_putDistance_100 : dc_at mX3_putDistance 100 (.iload_n 3) 1 := by unfold dc_at; decide +kernel
theorem dX3_putDistance_101 : dc_at mX3_putDistance 101 (.iastore) 1 := by unfold dc_at; decide +kernel
theorem dX3_putDistance_102 : dc_at mX3_putDistance 102 (.aload_n 0) 1 := by unfold dc_at; decide +kernel
theorem dX3_putDistance_103 : dc_at mX3_putDistance 103 (.getfield 15) 3 := by unfold dc_at; decide +kernel
theorem dX3_putDistance_106 : dc_at mX3_putDistance 106 (.iload_n 1) 1 := by unfold dc_at; decide +kernel
theorem dX3_putDistance_107 : dc_at mX3_putDistance 107 (.iload 4) 2 := by unfold dc_at; decide +kernel
theorem dX3_putDistance_109 : dc_at mX3_putDistance 109 (.iastore) 1 := by unfold dc_at; decide +kernel
theorem dX3_putDistance_110 : dc_at mX3_putDistance 110 (.return_) 1 := by unfold dc_at; decide +kernel
theorem dX3_rankAll_0 : dc_at mX3_rankAll 0 (.iconst 0) 1 := by unfold dc_at; decide +kernel
theorem dX3_rankAll_1 : dc_at mX3_rankAll 1 (.istore_n 2) 1 := by unfold dc_at; decide +kernel
theorem dX3_rankAll_2 : dc_at mX3_rankAll 2 (.iload_n 2) 1 := by unfold dc_at; decide +kernel
theorem dX3_rankAll_3 : dc_at mX3_rankAll 3 (.aload_n 0) 1 := by unfold dc_at; decide +kernel
theorem dX3_rankAll_4 : dc_at mX3_rankAll 4 (.getfield 86) 3 := by unfold dc_at; decide +kernel
theorem dX3_rankAll_7 : dc_at mX3_rankAll 7 (.if_icmp .ge 96) 3 := by unfold dc_at; decide +kernel
theorem dX3_rankAll_10 : dc_at mX3_rankAll 10 (.iload_n 1) 1 := by unfold dc_at; decide +kernel
theorem dX3_rankAll_11 : dc_at mX3_rankAll 11 (.iconst 1) 1 := by unfold dc_at; decide +kernel
theorem dX3_rankAll_12 : dc_at mX3_rankAll 12 (.if_icmp .ne 29) 3 := by unfold dc_at; decide +kernel
theorem dX3_rankAll_15 : dc_at mX3_rankAll 15 (.aload_n 0) 1 := by unfold dc_at; decide +kernel
theorem dX3_rankAll_16 : dc_at mX3_rankAll 16 (.getfield 33) 3 := by unfold dc_at; decide +kernel
theorem dX3_rankAll_19 : dc_at mX3_rankAll 19 (.iload_n 2) 1 := by unfold dc_at; decide +kernel
theorem dX3_rankAll_20 : dc_at mX3_rankAll 20 (.aload_n 0) 1 := by unfold dc_at; decide +kernel
theorem dX3_rankAll_21 : dc_at mX3_rankAll 21 (.iload_n 2) 1 := by unfold dc_at; decide +kernel
theorem dX3_rankAll_22 : dc_at mX3_rankAll 22 (.invokevirtual 113) 3 := by unfold dc_at; decide +kernel
theorem dX3_rankAll_25 : dc_at mX3_rankAll 25 (.iastore) 1 := by unfold dc_at; decide +kernel
theorem dX3_rankAll_26 : dc_at mX3_rankAll 26 (.aload_n 0) 1 := by unfold dc_at; decide +kernel
theorem dX3_rankAll_27 : dc_at mX3_rankAll 27 (.getfield 36) 3 := by unfold dc_at; decide +kernel
theorem dX3_rankAll_30 : dc_at mX3_rankAll 30 (.iload_n 2) 1 := by unfold dc_at; decide +kernel
theorem dX3_rankAll_31 : dc_at mX3_rankAll 31 (.aload_n 0) 1 := by unfold dc_at; decide +kernel
theorem dX3_rankAll_32 : dc_at mX3_rankAll 32 (.getfield 30) 3 := by unfold dc_at; decide +kernel
theorem dX3_rankAll_35 : dc_at mX3_rankAll 35 (.iload_n 2) 1 := by unfold dc_at; decide +kernel
theorem dX3_rankAll_36 : dc_at mX3_rankAll 36 (.iaload) 1 := by unfold dc_at; decide +kernel
theorem dX3_rankAll_37 : dc_at mX3_rankAll 37 (.iastore) 1 := by unfold dc_at; decide +kernel
theorem dX3_rankAll_38 : dc_at mX3_rankAll 38 (.goto 59) 3 := by unfold dc_at; decide +kernel
theorem dX3_rankAll_41 : dc_at mX3_rankAll 41 (.iload_n 1) 1 := by unfold dc_at; decide +kernel
theorem dX3_rankAll_42 : dc_at mX3_rankAll 42 (.iconst 2) 1 := by unfold dc_at; decide +kernel
theorem dX3_rankAll_43 : dc_at mX3_rankAll 43 (.if_icmp .ne 30) 3 := by unfold dc_at; decide +kernel
theorem dX3_rankAll_46 : dc_at mX3_rankAll 46 (.aload_n 0) 1 := by unfold dc_at; decide +kernel
theorem dX3_rankAll_47 : dc_at mX3_rankAll 47 (.getfield 33) 3 := by unfold dc_at; decide +kernel
theorem dX3_rankAll_50 : dc_at mX3_rankAll 50 (.iload_n 2) 1 := by unfold dc_at; decide +kernel
theorem dX3_rankAll_51 : dc_at mX3_rankAll 51 (.aload_n 0) 1 := by unfold dc_at; decide +kernel
theorem dX3_rankAll_52 : dc_at mX3_rankAll 52 (.getfield 27) 3 := by unfold dc_at; decide +kernel
theorem dX3_rankAll_55 : dc_at mX3_rankAll 55 (.iload_n 2) 1 := by unfold dc_at; decide +kernel
theorem dX3_rankAll_56 : dc_at mX3_rankAll 56 (.iaload) 1 := by unfold dc_at; decide +kernel
theorem dX3_rankAll_57 : dc_at mX3_rankAll 57 (.iastore) 1 := by unfold dc_at; decide +kernel
theorem dX3_rankAll_58 : dc_at mX3_rankAll 58 (.aload_n 0) 1 := by unfold dc_at; decide +kernel
theorem dX3_rankAll_59 : dc_at mX3_rankAll 59 (.getfield 36) 3 := by unfold dc_at; decide +kernel
theorem dX3_rankAll_62 : dc_at mX3_rankAll 62 (.iload_n 2) 1 := by unfold dc_at; decide +kernel
theorem dX3_rankAll_63 : dc_at mX3_rankAll 63 (.aload_n 0) 1 := by unfold dc_at; decide +kernel
theorem dX3_rankAll_64 : dc_at mX3_rankAll 64 (.getfield 30) 3 := by unfold dc_at; decide +kernel
theorem dX3_rankAll_67 : dc_at mX3_rankAll 67 (.iload_n 2) 1 := by unfold dc_at; decide +kernel
theorem dX3_rankAll_68 : dc_at mX3_rankAll 68 (.iaload) 1 := by unfold dc_at; decide +kernel
theorem dX3_rankAll_69 : dc_at mX3_rankAll 69 (.iastore) 1 := by unfold dc_at; decide +kernel
theorem dX3_rankAll_70 : dc_at mX3_rankAll 70 (.goto 27) 3 := by unfold dc_at; decide +kernel
theorem dX3_rankAll_73 : dc_at mX3_rankAll 73 (.aload_n 0) 1 := by unfold dc_at; decide +kernel
theorem dX3_rankAll_74 : dc_at mX3_rankAll 74 (.getfield 33) 3 := by unfold dc_at; decide +kernel
theorem dX3_rankAll_77 : dc_at mX3_rankAll 77 (.iload_n 2) 1 := by unfold dc_at; decide +kernel
theorem dX3_rankAll_78 : dc_at mX3_rankAll 78 (.aload_n 0) 1 := by unfold dc_at; decide +kernel
theorem dX3_rankAll_79 : dc_at mX3_rankAll 79 (.getfield 30) 3 := by unfold dc_at; decide +kernel
theorem dX3_rankAll_82 : dc_at mX3_rankAll 82 (.iload_n 2) 1 := by unfold dc_at; decide +kernel
theorem dX3_rankAll_83 : dc_at mX3_rankAll 83 (.iaload) 1 := by unfold dc_at; decide +kernel
theorem dX3_rankAll_84 : dc_at mX3_rankAll 84 (.iastore) 1 := by unfold dc_at; decide +kernel
theorem dX3_rankAll_85 : dc_at mX3_rankAll 85 (.aload_n 0) 1 := by unfold dc_at; decide +kernel
theorem dX3_rankAll_86 : dc_at mX3_rankAll 86 (.getfield 36) 3 := by unfold dc_at; decide +kernel
theorem dX3_rankAll_89 : dc_at mX3_rankAll 89 (.iload_n 2) 1 := by unfold dc_at; decide +kernel
theorem dX3_rankAll_90 : dc_at mX3_rankAll 90 (.aload_n 0) 1 := by unfold dc_at; decide +kernel
theorem dX3_rankAll_91 : dc_at mX3_rankAll 91 (.getfield 27) 3 := by unfold dc_at; decide +kernel
theorem dX3_rankAll_94 : dc_at mX3_rankAll 94 (.iload_n 2) 1 := by unfold dc_at; decide +kernel
theorem dX3_rankAll_95 : dc_at mX3_rankAll 95 (.iaload) 1 := by unfold dc_at; decide +kernel
theorem dX3_rankAll_96 : dc_at mX3_rankAll 96 (.iastore) 1 := by unfold dc_at; decide +kernel
theorem dX3_rankAll_97 : dc_at mX3_rankAll 97 (.iinc 2 1) 3 := by unfold dc_at; decide +kernel
theorem dX3_rankAll_100 : dc_at mX3_rankAll 100 (.goto (-98)) 3 := by unfold dc_at; decide +kernel
theorem dX3_rankAll_103 : dc_at mX3_rankAll 103 (.return_) 1 := by unfold dc_at; decide +kernel
theorem dX3_choose_0 : dc_at mX3_choose 0 (.iconst (-1)) 1 := by unfold dc_at; decide +kernel
theorem dX3_choose_1 : dc_at mX3_choose 1 (.istore_n 1) 1 := by unfold dc_at; decide +kernel
theorem dX3_choose_2 : dc_at mX3_choose 2 (.iconst 0) 1 := by unfold dc_at; decide +kernel
theorem dX3_choose_3 : dc_at mX3_choose 3 (.istore_n 2) 1 := by unfold dc_at; decide +kernel
theorem dX3_choose_4 : dc_at mX3_choose 4 (.iload_n 2) 1 := by unfold dc_at; decide +kernel
theorem dX3_choose_5 : dc_at mX3_choose 5 (.aload_n 0) 1 := by unfold dc_at; decide +kernel
theorem dX3_choose_6 : dc_at mX3_choose 6 (.getfield 86) 3 := by unfold dc_at; decide +kernel
theorem dX3_choose_9 : dc_at mX3_choose 9 (.if_icmp .ge 25) 3 := by unfold dc_at; decide +kernel
theorem dX3_choose_12 : dc_at mX3_choose 12 (.iload_n 1) 1 := by unfold dc_at; decide +kernel
theorem dX3_choose_13 : dc_at mX3_choose 13 (.iconst (-1)) 1 := by unfold dc_at; decide +kernel
theorem dX3_choose_14 : dc_at mX3_choose 14 (.if_icmp .eq 12) 3 := by unfold dc_at; decide +kernel
theorem dX3_choose_17 : dc_at mX3_choose 17 (.aload_n 0) 1 := by unfold dc_at; decide +kernel
theorem dX3_choose_18 : dc_at mX3_choose 18 (.iload_n 2) 1 := by unfold dc_at; decide +kernel
theorem dX3_choose_19 : dc_at mX3_choose 19 (.iload_n 1) 1 := by unfold dc_at; decide +kernel
theorem dX3_choose_20 : dc_at mX3_choose 20 (.invokevirtual 117) 3 := by unfold dc_at; decide +kernel
theorem dX3_choose_23 : dc_at mX3_choose 23 (.ifCond .eq 5) 3 := by unfold dc_at; decide +kernel
theorem dX3_choose_26 : dc_at mX3_choose 26 (.iload_n 2) 1 := by unfold dc_at; decide +kernel
theorem dX3_choose_27 : dc_at mX3_choose 27 (.istore_n 1) 1 := by unfold dc_at; decide +kernel
theorem dX3_choose_28 : dc_at mX3_choose 28 (.iinc 2 1) 3 := by unfold dc_at; decide +kernel
theorem dX3_choose_31 : dc_at mX3_choose 31 (.goto (-27)) 3 := by unfold dc_at; decide +kernel
theorem dX3_choose_34 : dc_at mX3_choose 34 (.iload_n 1) 1 := by unfold dc_at; decide +kernel
theorem dX3_choose_35 : dc_at mX3_choose 35 (.iconst (-1)) 1 := by unfold dc_at; decide +kernel
theorem dX3_choose_36 : dc_at mX3_choose 36 (.if_icmp .ne 7) 3 := by unfold dc_at; decide +kernel
theorem dX3_choose_39 : dc_at mX3_choose 39 (.iconst (-1)) 1 := by unfold dc_at; decide +kernel
theorem dX3_choose_40 : dc_at mX3_choose 40 (.goto 9) 3 := by unfold dc_at; decide +kernel
theorem dX3_choose_43 : dc_at mX3_choose 43 (.aload_n 0) 1 := by unfold dc_at; decide +kernel
theorem dX3_choose_44 : dc_at mX3_choose 44 (.getfield 24) 3 := by unfold dc_at; decide +kernel
theorem dX3_choose_47 : dc_at mX3_choose 47 (.iload_n 1) 1 := by unfold dc_at; decide +kernel
theorem dX3_choose_48 : dc_at mX3_choose 48 (.iaload) 1 := by unfold dc_at; decide +kernel
theorem dX3_choose_49 : dc_at mX3_choose 49 (.ireturn) 1 := by unfold dc_at; decide +kernel
theorem dX3_isBetter_0 : dc_at mX3_isBetter 0 (.aload_n 0) 1 := by unfold dc_at; decide +kernel
theorem dX3_isBetter_1 : dc_at mX3_isBetter 1 (.getfield 33) 3 := by unfold dc_at; decide +kernel
theorem dX3_isBetter_4 : dc_at mX3_isBetter 4 (.iload_n 1) 1 := by unfold dc_at; decide +kernel
theorem dX3_isBetter_5 : dc_at mX3_isBetter 5 (.iaload) 1 := by unfold dc_at; decide +kernel
theorem dX3_isBetter_6 : dc_at mX3_isBetter 6 (.aload_n 0) 1 := by unfold dc_at; decide +kernel
theorem dX3_isBetter_7 : dc_at mX3_isBetter 7 (.getfield 33) 3 := by unfold dc_at; decide +kernel
theorem dX3_isBetter_10 : dc_at mX3_isBetter 10 (.iload_n 2) 1 := by unfold dc_at; decide +kernel
theorem dX3_isBetter_11 : dc_at mX3_isBetter 11 (.iaload) 1 := by unfold dc_at; decide +kernel
theorem dX3_isBetter_12 : dc_at mX3_isBetter 12 (.if_icmp .lt 33) 3 := by unfold dc_at; decide +kernel
theorem dX3_isBetter_15 : dc_at mX3_isBetter 15 (.aload_n 0) 1 := by unfold dc_at; decide +kernel
theorem dX3_isBetter_16 : dc_at mX3_isBetter 16 (.getfield 33) 3 := by unfold dc_at; decide +kernel
theorem dX3_isBetter_19 : dc_at mX3_isBetter 19 (.iload_n 1) 1 := by unfold dc_at; decide +kernel
theorem dX3_isBetter_20 : dc_at mX3_isBetter 20 (.iaload) 1 := by unfold dc_at; decide +kernel
theorem dX3_isBetter_21 : dc_at mX3_isBetter 21 (.aload_n 0) 1 := by unfold dc_at; decide +kernel
theorem dX3_isBetter_22 : dc_at mX3_isBetter 22 (.getfield 33) 3 := by unfold dc_at; decide +kernel
theorem dX3_isBetter_25 : dc_at mX3_isBetter 25 (.iload_n 2) 1 := by unfold dc_at; decide +kernel
theorem dX3_isBetter_26 : dc_at mX3_isBetter 26 (.iaload) 1 := by unfold dc_at; decide +kernel
theorem dX3_isBetter_27 : dc_at mX3_isBetter 27 (.if_icmp .ne 22) 3 := by unfold dc_at; decide +kernel
theorem dX3_isBetter_30 : dc_at mX3_isBetter 30 (.aload_n 0) 1 := by unfold dc_at; decide +kernel
theorem dX3_isBetter_31 : dc_at mX3_isBetter 31 (.getfield 36) 3 := by unfold dc_at; decide +kernel
theorem dX3_isBetter_34 : dc_at mX3_isBetter 34 (.iload_n 1) 1 := by unfold dc_at; decide +kernel
theorem dX3_isBetter_35 : dc_at mX3_isBetter 35 (.iaload) 1 := by unfold dc_at; decide +kernel
theorem dX3_isBetter_36 : dc_at mX3_isBetter 36 (.aload_n 0) 1 := by unfold dc_at; decide +kernel
theorem dX3_isBetter_37 : dc_at mX3_isBetter 37 (.getfield 36) 3 := by unfold dc_at; decide +kernel
theorem dX3_isBetter_40 : dc_at mX3_isBetter 40 (.iload_n 2) 1 := by unfold dc_at; decide +kernel
theorem dX3_isBetter_41 : dc_at mX3_isBetter 41 (.iaload) 1 := by unfold dc_at; decide +kernel
theorem dX3_isBetter_42 : dc_at mX3_isBetter 42 (.if_icmp .ge 7) 3 := by unfold dc_at; decide +kernel
theorem dX3_isBetter_45 : dc_at mX3_isBetter 45 (.iconst 1) 1 := by unfold dc_at; decide +kernel
theorem dX3_isBetter_46 : dc_at mX3_isBetter 46 (.goto 4) 3 := by unfold dc_at; decide +kernel
theorem dX3_isBetter_49 : dc_at mX3_isBetter 49 (.iconst 0) 1 := by unfold dc_at; decide +kernel
theorem dX3_isBetter_50 : dc_at mX3_isBetter 50 (.ireturn) 1 := by unfold dc_at; decide +kernel
theorem dX3_regret_0 : dc_at mX3_regret 0 (.iconst 0) 1 := by unfold dc_at; decide +kernel
theorem dX3_regret_1 : dc_at mX3_regret 1 (.istore_n 2) 1 := by unfold dc_at; decide +kernel
theorem dX3_regret_2 : dc_at mX3_regret 2 (.iconst 0) 1 := by unfold dc_at; decide +kernel
theorem dX3_regret_3 : dc_at mX3_regret 3 (.istore_n 3) 1 := by unfold dc_at; decide +kernel
theorem dX3_regret_4 : dc_at mX3_regret 4 (.iload_n 3) 1 := by unfold dc_at; decide +kernel
theorem dX3_regret_5 : dc_at mX3_regret 5 (.aload_n 0) 1 := by unfold dc_at; decide +kernel
theorem dX3_regret_6 : dc_at mX3_regret 6 (.getfield 86) 3 := by unfold dc_at; decide +kernel
theorem dX3_regret_9 : dc_at mX3_regret 9 (.if_icmp .ge 32) 3 := by unfold dc_at; decide +kernel
theorem dX3_regret_12 : dc_at mX3_regret 12 (.iload_n 3) 1 := by unfold dc_at; decide +kernel
theorem dX3_regret_13 : dc_at mX3_regret 13 (.iload_n 1) 1 := by unfold dc_at; decide +kernel
theorem dX3_regret_14 : dc_at mX3_regret 14 (.if_icmp .eq 21) 3 := by unfold dc_at; decide +kernel
theorem dX3_regret_17 : dc_at mX3_regret 17 (.iload_n 2) 1 := by unfold dc_at; decide +kernel
theorem dX3_regret_18 : dc_at mX3_regret 18 (.aload_n 0) 1 := by unfold dc_at; decide +kernel
theorem dX3_regret_19 : dc_at mX3_regret 19 (.getfield 30) 3 := by unfold dc_at; decide +kernel
theorem dX3_regret_22 : dc_at mX3_regret 22 (.iload_n 1) 1 := by unfold dc_at; decide +kernel
theorem dX3_regret_23 : dc_at mX3_regret 23 (.iaload) 1 := by unfold dc_at; decide +kernel
theorem dX3_regret_24 : dc_at mX3_regret 24 (.aload_n 0) 1 := by unfold dc_at; decide +kernel
theorem dX3_regret_25 : dc_at mX3_regret 25 (.getfield 27) 3 := by unfold dc_at; decide +kernel
theorem dX3_regret_28 : dc_at mX3_regret 28 (.iload_n 3) 1 := by unfold dc_at; decide +kernel
theorem dX3_regret_29 : dc_at mX3_regret 29 (.iaload) 1 := by unfold dc_at; decide +kernel
theorem dX3_regret_30 : dc_at mX3_regret 30 (.isub) 1 := by unfold dc_at; decide +kernel
theorem dX3_regret_31 : dc_at mX3_regret 31 (.invokestatic 120) 3 := by unfold dc_at; decide +kernel
theorem dX3_regret_34 : dc_at mX3_regret 34 (.istore_n 2) 1 := by unfold dc_at; decide +kernel
theorem dX3_regret_35 : dc_at mX3_regret 35 (.iinc 3 1) 3 := by unfold dc_at; decide +kernel
theorem dX3_regret_38 : dc_at mX3_regret 38 (.goto (-34)) 3 := by unfold dc_at; decide +kernel
theorem dX3_regret_41 : dc_at mX3_regret 41 (.iload_n 2) 1 := by unfold dc_at; decide +kernel
theorem dX3_regret_42 : dc_at mX3_regret 42 (.ireturn) 1 := by unfold dc_at; decide +kernel
theorem dX3_walk_0 : dc_at mX3_walk 0 (.iload_n 1) 1 := by unfold dc_at; decide +kernel
theorem dX3_walk_1 : dc_at mX3_walk 1 (.istore_n 3) 1 := by unfold dc_at; decide +kernel
theorem dX3_walk_2 : dc_at mX3_walk 2 (.iconst 1) 1 := by unfold dc_at; decide +kernel
theorem dX3_walk_3 : dc_at mX3_walk 3 (.iload_n 1) 1 := by unfold dc_at; decide +kernel
theorem dX3_walk_4 : dc_at mX3_walk 4 (.ishl) 1 := by unfold dc_at; decide +kernel
theorem dX3_walk_5 : dc_at mX3_walk 5 (.istore 4) 2 := by unfold dc_at; decide +kernel
theorem dX3_walk_7 : dc_at mX3_walk 7 (.iconst 0) 1 := by unfold dc_at; decide +kernel
theorem dX3_walk_8 : dc_at mX3_walk 8 (.istore 5) 2 := by unfold dc_at; decide +kernel
theorem dX3_walk_10 : dc_at mX3_walk 10 (.iload 5) 2 := by unfold dc_at; decide +kernel
theorem dX3_walk_12 : dc_at mX3_walk 12 (.bipush 8) 2 := by unfold dc_at; decide +kernel
theorem dX3_walk_14 : dc_at mX3_walk 14 (.if_icmp .ge 77) 3 := by unfold dc_at; decide +kernel
theorem dX3_walk_17 : dc_at mX3_walk 17 (.aload_n 0) 1 := by unfold dc_at; decide +kernel
theorem dX3_walk_18 : dc_at mX3_walk 18 (.getfield 18) 3 := by unfold dc_at; decide +kernel
theorem dX3_walk_21 : dc_at mX3_walk 21 (.iload_n 3) 1 := by unfold dc_at; decide +kernel
theorem dX3_walk_22 : dc_at mX3_walk 22 (.iload_n 2) 1 := by unfold dc_at; decide +kernel
theorem dX3_walk_23 : dc_at mX3_walk 23 (.invokestatic 66) 3 := by unfold dc_at; decide +kernel
theorem dX3_walk_26 : dc_at mX3_walk 26 (.iaload) 1 := by unfold dc_at; decide +kernel
theorem dX3_walk_27 : dc_at mX3_walk 27 (.istore 6) 2 := by unfold dc_at; decide +kernel
theorem dX3_walk_29 : dc_at mX3_walk 29 (.iload 6) 2 := by unfold dc_at; decide +kernel
theorem dX3_walk_31 : dc_at mX3_walk 31 (.iconst (-1)) 1 := by unfold dc_at; decide +kernel
theorem dX3_walk_32 : dc_at mX3_walk 32 (.if_icmp .ne 10) 3 := by unfold dc_at; decide +kernel
theorem dX3_walk_35 : dc_at mX3_walk 35 (.sipush (-2000)) 3 := by unfold dc_at; decide +kernel
theorem dX3_walk_38 : dc_at mX3_walk 38 (.iload 5) 2 := by unfold dc_at; decide +kernel
theorem dX3_walk_40 : dc_at mX3_walk 40 (.isub) 1 := by unfold dc_at; decide +kernel
theorem dX3_walk_41 : dc_at mX3_walk 41 (.ireturn) 1 := by unfold dc_at; decide +kernel
theorem dX3_walk_42 : dc_at mX3_walk 42 (.iload 6) 2 := by unfold dc_at; decide +kernel
theorem dX3_walk_44 : dc_at mX3_walk 44 (.iload_n 2) 1 := by unfold dc_at; decide +kernel
theorem dX3_walk_45 : dc_at mX3_walk 45 (.if_icmp .ne 8) 3 := by unfold dc_at; decide +kernel
theorem dX3_walk_48 : dc_at mX3_walk 48 (.iload 5) 2 := by unfold dc_at; decide +kernel
theorem dX3_walk_50 : dc_at mX3_walk 50 (.iconst 1) 1 := by unfold dc_at; decide +kernel
theorem dX3_walk_51 : dc_at mX3_walk 51 (.iadd) 1 := by unfold dc_at; decide +kernel
theorem dX3_walk_52 : dc_at mX3_walk 52 (.ireturn) 1 := by unfold dc_at; decide +kernel
theorem dX3_walk_53 : dc_at mX3_walk 53 (.iload 4) 2 := by unfold dc_at; decide +kernel
theorem dX3_walk_55 : dc_at mX3_walk 55 (.iload 6) 2 := by unfold dc_at; decide +kernel
theorem dX3_walk_57 : dc_at mX3_walk 57 (.ishr) 1 := by unfold dc_at; decide +kernel
theorem dX3_walk_58 : dc_at mX3_walk 58 (.iconst 1) 1 := by unfold dc_at; decide +kernel
theorem dX3_walk_59 : dc_at mX3_walk 59 (.iand) 1 := by unfold dc_at; decide +kernel
theorem dX3_walk_60 : dc_at mX3_walk 60 (.iconst 1) 1 := by unfold dc_at; decide +kernel
theorem dX3_walk_61 : dc_at mX3_walk 61 (.if_icmp .ne 12) 3 := by unfold dc_at; decide +kernel
theorem dX3_walk_64 : dc_at mX3_walk 64 (.sipush (-1000)) 3 := by unfold dc_at; decide +kernel
theorem dX3_walk_67 : dc_at mX3_walk 67 (.iload 5) 2 := by unfold dc_at; decide +kernel
theorem dX3_walk_69 : dc_at mX3_walk 69 (.isub) 1 := by unfold dc_at; decide +kernel
theorem dX3_walk_70 : dc_at mX3_walk 70 (.iconst 1) 1 := by unfold dc_at; decide +kernel
theorem dX3_walk_71 : dc_at mX3_walk 71 (.isub) 1 := by unfold dc_at; decide +kernel
theorem dX3_walk_72 : dc_at mX3_walk 72 (.ireturn) 1 := by unfold dc_at; decide +kernel
theorem dX3_walk_73 : dc_at mX3_walk 73 (.iload 4) 2 := by unfold dc_at; decide +kernel
theorem dX3_walk_75 : dc_at mX3_walk 75 (.iconst 1) 1 := by unfold dc_at; decide +kernel
theorem dX3_walk_76 : dc_at mX3_walk 76 (.iload 6) 2 := by unfold dc_at; decide +kernel
theorem dX3_walk_78 : dc_at mX3_walk 78 (.ishl) 1 := by unfold dc_at; decide +kernel
theorem dX3_walk_79 : dc_at mX3_walk 79 (.ior) 1 := by unfold dc_at; decide +kernel
theorem dX3_walk_80 : dc_at mX3_walk 80 (.istore 4) 2 := by unfold dc_at; decide +kernel
theorem dX3_walk_82 : dc_at mX3_walk 82 (.iload 6) 2 := by unfold dc_at; decide +kernel
theorem dX3_walk_84 : dc_at mX3_walk 84 (.istore_n 3) 1 := by unfold dc_at; decide +kernel
theorem dX3_walk_85 : dc_at mX3_walk 85 (.iinc 5 1) 3 := by unfold dc_at; decide +kernel
theorem dX3_walk_88 : dc_at mX3_walk 88 (.goto (-78)) 3 := by unfold dc_at; decide +kernel
theorem dX3_walk_91 : dc_at mX3_walk 91 (.sipush (-1008)) 3 := by unfold dc_at; decide +kernel
theorem dX3_walk_94 : dc_at mX3_walk 94 (.ireturn) 1 := by unfold dc_at; decide +kernel
theorem dX3_countLoops_0 : dc_at mX3_countLoops 0 (.iconst 0) 1 := by unfold dc_at; decide +kernel
theorem dX3_countLoops_1 : dc_at mX3_countLoops 1 (.istore_n 2) 1 := by unfold dc_at; decide +kernel
theorem dX3_countLoops_2 : dc_at mX3_countLoops 2 (.iconst 0) 1 := by unfold dc_at; decide +kernel
theorem dX3_countLoops_3 : dc_at mX3_countLoops 3 (.istore_n 3) 1 := by unfold dc_at; decide +kernel
theorem dX3_countLoops_4 : dc_at mX3_countLoops 4 (.iload_n 3) 1 := by unfold dc_at; decide +kernel
theorem dX3_countLoops_5 : dc_at mX3_countLoops 5 (.iload_n 1) 1 := by unfold dc_at; decide +kernel
theorem dX3_countLoops_6 : dc_at mX3_countLoops 6 (.if_icmp .ge 59) 3 := by unfold dc_at; decide +kernel
theorem dX3_countLoops_9 : dc_at mX3_countLoops 9 (.iconst 0) 1 := by unfold dc_at; decide +kernel
theorem dX3_countLoops_10 : dc_at mX3_countLoops 10 (.istore 4) 2 := by unfold dc_at; decide +kernel
theorem dX3_countLoops_12 : dc_at mX3_countLoops 12 (.iload 4) 2 := by unfold dc_at; decide +kernel
theorem dX3_countLoops_14 : dc_at mX3_countLoops 14 (.iload_n 1) 1 := by unfold dc_at; decide +kernel
theorem dX3_countLoops_15 : dc_at mX3_countLoops 15 (.if_icmp .ge 44) 3 := by unfold dc_at; decide +kernel
theorem dX3_countLoops_18 : dc_at mX3_countLoops 18 (.iload_n 3) 1 := by unfold dc_at; decide +kernel
theorem dX3_countLoops_19 : dc_at mX3_countLoops 19 (.iload 4) 2 := by unfold dc_at; decide +kernel
theorem dX3_countLoops_21 : dc_at mX3_countLoops 21 (.if_icmp .ne 7) 3 := by unfold dc_at; decide +kernel
theorem dX3_countLoops_24 : dc_at mX3_countLoops 24 (.iconst 0) 1 := by unfold dc_at; decide +kernel
theorem dX3_countLoops_25 : dc_at mX3_countLoops 25 (.goto 10) 3 := by unfold dc_at; decide +kernel
theorem dX3_countLoops_28 : dc_at mX3_countLoops 28 (.aload_n 0) 1 := by unfold dc_at; decide +kernel
theorem dX3_countLoops_29 : dc_at mX3_countLoops 29 (.iload_n 3) 1 := by unfold dc_at; decide +kernel
theorem dX3_countLoops_30 : dc_at mX3_countLoops 30 (.iload 4) 2 := by unfold dc_at; decide +kernel
theorem dX3_countLoops_32 : dc_at mX3_countLoops 32 (.invokevirtual 123) 3 := by unfold dc_at; decide +kernel
theorem dX3_countLoops_35 : dc_at mX3_countLoops 35 (.istore 5) 2 := by unfold dc_at; decide +kernel
theorem dX3_countLoops_37 : dc_at mX3_countLoops 37 (.iload 5) 2 := by unfold dc_at; decide +kernel
theorem dX3_countLoops_39 : dc_at mX3_countLoops 39 (.ifCond .ge 14) 3 := by unfold dc_at; decide +kernel
theorem dX3_countLoops_42 : dc_at mX3_countLoops 42 (.iload 5) 2 := by unfold dc_at; decide +kernel
theorem dX3_countLoops_44 : dc_at mX3_countLoops 44 (.sipush (-2000)) 3 := by unfold dc_at; decide +kernel
theorem dX3_countLoops_47 : dc_at mX3_countLoops 47 (.if_icmp .le 6) 3 := by unfold dc_at; decide +kernel
theorem dX3_countLoops_50 : dc_at mX3_countLoops 50 (.iinc 2 1) 3 := by unfold dc_at; decide +kernel
theorem dX3_countLoops_53 : dc_at mX3_countLoops 53 (.iinc 4 1) 3 := by unfold dc_at; decide +kernel
theorem dX3_countLoops_56 : dc_at mX3_countLoops 56 (.goto (-44)) 3 := by unfold dc_at; decide +kernel
theorem dX3_countLoops_59 : dc_at mX3_countLoops 59 (.iinc 3 1) 3 := by unfold dc_at; decide +kernel
theorem dX3_countLoops_62 : dc_at mX3_countLoops 62 (.goto (-58)) 3 := by unfold dc_at; decide +kernel
theorem dX3_countLoops_65 : dc_at mX3_countLoops 65 (.iload_n 2) 1 := by unfold dc_at; decide +kernel
theorem dX3_countLoops_66 : dc_at mX3_countLoops 66 (.ireturn) 1 := by unfold dc_at; decide +kernel
theorem dX4_init_0 : dc_at mX4_init 0 (.aload_n 0) 1 := by unfold dc_at; decide +kernel
theorem dX4_init_1 : dc_at mX4_init 1 (.invokespecial 3) 3 := by unfold dc_at; decide +kernel
theorem dX4_init_4 : dc_at mX4_init 4 (.aload_n 0) 1 := by unfold dc_at; decide +kernel
theorem dX4_init_5 : dc_at mX4_init 5 (.sipush 512) 3 := by unfold dc_at; decide +kernel
theorem dX4_init_8 : dc_at mX4_init 8 (.newarray .int) 2 := by unfold dc_at; decide +kernel
theorem dX4_init_10 : dc_at mX4_init 10 (.putfield 9) 3 := by unfold dc_at; decide +kernel
theorem dX4_init_13 : dc_at mX4_init 13 (.aload_n 0) 1 := by unfold dc_at; decide +kernel
theorem dX4_init_14 : dc_at mX4_init 14 (.sipush 512) 3 := by unfold dc_at; decide +kernel
theorem dX4_init_17 : dc_at mX4_init 17 (.newarray .int) 2 := by unfold dc_at; decide +kernel
theorem dX4_init_19 : dc_at mX4_init 19 (.putfield 15) 3 := by unfold dc_at; decide +kernel
theorem dX4_init_22 : dc_at mX4_init 22 (.aload_n 0) 1 := by unfold dc_at; decide +kernel
theorem dX4_init_23 : dc_at mX4_init 23 (.sipush 512) 3 := by unfold dc_at; decide +kernel
theorem dX4_init_26 : dc_at mX4_init 26 (.newarray .int) 2 := by unfold dc_at; decide +kernel
theorem dX4_init_28 : dc_at mX4_init 28 (.putfield 18) 3 := by unfold dc_at; decide +kernel
theorem dX4_init_31 : dc_at mX4_init 31 (.aload_n 0) 1 := by unfold dc_at; decide +kernel
theorem dX4_init_32 : dc_at mX4_init 32 (.sipush 512) 3 := by unfold dc_at; decide +kernel
theorem dX4_init_35 : dc_at mX4_init 35 (.newarray .int) 2 := by unfold dc_at; decide +kernel
theorem dX4_init_37 : dc_at mX4_init 37 (.putfield 21) 3 := by unfold dc_at; decide +kernel
theorem dX4_init_40 : dc_at mX4_init 40 (.aload_n 0) 1 := by unfold dc_at; decide +kernel
theorem dX4_init_41 : dc_at mX4_init 41 (.sipush 512) 3 := by unfold dc_at; decide +kernel
theorem dX4_init_44 : dc_at mX4_init 44 (.newarray .int) 2 := by unfold dc_at; decide +kernel
theorem dX4_init_46 : dc_at mX4_init 46 (.putfield 24) 3 := by unfold dc_at; decide +kernel
theorem dX4_init_49 : dc_at mX4_init 49 (.return_) 1 := by unfold dc_at; decide +kernel
theorem dX4_has_0 : dc_at mX4_has 0 (.aload_n 0) 1 := by unfold dc_at; decide +kernel
theorem dX4_has_1 : dc_at mX4_has 1 (.getfield 18) 3 := by unfold dc_at; decide +kernel
theorem dX4_has_4 : dc_at mX4_has 4 (.iload_n 1) 1 := by unfold dc_at; decide +kernel
theorem dX4_has_5 : dc_at mX4_has 5 (.iaload) 1 := by unfold dc_at; decide +kernel
theorem dX4_has_6 : dc_at mX4_has 6 (.ifCond .le 7) 3 := by unfold dc_at; decide +kernel
theorem dX4_has_9 : dc_at mX4_has 9 (.iconst 1) 1 := by unfold dc_at; decide +kernel
theorem dX4_has_10 : dc_at mX4_has 10 (.goto 4) 3 := by unfold dc_at; decide +kernel
theorem dX4_has_13 : dc_at mX4_has 13 (.iconst 0) 1 := by unfold dc_at; decide +kernel
theorem dX4_has_14 : dc_at mX4_has 14 (.ireturn) 1 := by unfold dc_at; decide +kernel
theorem dX4_isOpen_0 : dc_at mX4_isOpen 0 (.aload_n 0) 1 := by unfold dc_at; decide +kernel
theorem dX4_isOpen_1 : dc_at mX4_isOpen 1 (.iload_n 1) 1 := by unfold dc_at; decide +kernel
theorem dX4_isOpen_2 : dc_at mX4_isOpen 2 (.invokevirtual 27) 3 := by unfold dc_at; decide +kernel
theorem dX4_isOpen_5 : dc_at mX4_isOpen 5 (.ifCond .eq 37) 3 := by unfold dc_at; decide +kernel
theorem dX4_isOpen_8 : dc_at mX4_isOpen 8 (.aload_n 0) 1 := by unfold dc_at; decide +kernel
theorem dX4_isOpen_9 : dc_at mX4_isOpen 9 (.getfield 18) 3 := by unfold dc_at; decide +kernel
theorem dX4_isOpen_12 : dc_at mX4_isOpen 12 (.iload_n 1) 1 := by unfold dc_at; decide +kernel
theorem dX4_isOpen_13 : dc_at mX4_isOpen 13 (.iaload) 1 := by unfold dc_at; decide +kernel
theorem dX4_isOpen_14 : dc_at mX4_isOpen 14 (.iload_n 2) 1 := by unfold dc_at; decide +kernel
theorem dX4_isOpen_15 : dc_at mX4_isOpen 15 (.if_icmp .lt 27) 3 := by unfold dc_at; decide +kernel
theorem dX4_isOpen_18 : dc_at mX4_isOpen 18 (.aload_n 0) 1 := by unfold dc_at; decide +kernel
theorem dX4_isOpen_19 : dc_at mX4_isOpen 19 (.getfield 15) 3 := by unfold dc_at; decide +kernel
theorem dX4_isOpen_22 : dc_at mX4_isOpen 22 (.iload_n 1) 1 := by unfold dc_at; decide +kernel
theorem dX4_isOpen_23 : dc_at mX4_isOpen 23 (.iaload) 1 := by unfold dc_at; decide +kernel
theorem dX4_isOpen_24 : dc_at mX4_isOpen 24 (.iload_n 3) 1 := by unfold dc_at; decide +kernel
theorem dX4_isOpen_25 : dc_at mX4_isOpen 25 (.if_icmp .ge 17) 3 := by unfold dc_at; decide +kernel
theorem dX4_isOpen_28 : dc_at mX4_isOpen 28 (.iload_n 2) 1 := by unfold dc_at; decide +kernel
theorem dX4_isOpen_29 : dc_at mX4_isOpen 29 (.aload_n 0) 1 := by unfold dc_at; decide +kernel
theorem dX4_isOpen_30 : dc_at mX4_isOpen 30 (.getfield 24) 3 := by unfold dc_at; decide +kernel
theorem dX4_isOpen_33 : dc_at mX4_isOpen 33 (.iload_n 1) 1 := by unfold dc_at; decide +kernel
theorem dX4_isOpen_34 : dc_at mX4_isOpen 34 (.iaload) 1 := by unfold dc_at; decide +kernel
theorem dX4_isOpen_35 : dc_at mX4_isOpen 35 (.if_icmp .le 7) 3 := by unfold dc_at; decide +kernel
theorem dX4_isOpen_38 : dc_at mX4_isOpen 38 (.iconst 1) 1 := by unfold dc_at; decide +kernel
theorem dX4_isOpen_39 : dc_at mX4_isOpen 39 (.goto 4) 3 := by unfold dc_at; decide +kernel
theorem dX4_isOpen_42 : dc_at mX4_isOpen 42 (.iconst 0) 1 := by unfold dc_at; decide +kernel
theorem dX4_isOpen_43 : dc_at mX4_isOpen 43 (.ireturn) 1 := by unfold dc_at; decide +kernel
theorem dX4_dominates_0 : dc_at mX4_dominates 0 (.aload_n 0) 1 := by unfold dc_at; decide +kernel
theorem dX4_dominates_1 : dc_at mX4_dominates 1 (.getfield 15) 3 := by unfold dc_at; decide +kernel
theorem dX4_dominates_4 : dc_at mX4_dominates 4 (.iload_n 1) 1 := by unfold dc_at; decide +kernel
theorem dX4_dominates_5 : dc_at mX4_dominates 5 (.iaload) 1 := by unfold dc_at; decide +kernel
theorem dX4_dominates_6 : dc_at mX4_dominates 6 (.aload_n 0) 1 := by unfold dc_at; decide +kernel
theorem dX4_dominates_7 : dc_at mX4_dominates 7 (.getfield 9) 3 := by unfold dc_at; decide +kernel
theorem dX4_dominates_10 : dc_at mX4_dominates 10 (.iload_n 2) 1 := by unfold dc_at; decide +kernel
theorem dX4_dominates_11 : dc_at mX4_dominates 11 (.iaload) 1 := by unfold dc_at; decide +kernel
theorem dX4_dominates_12 : dc_at mX4_dominates 12 (.if_icmp .le 5) 3 := by unfold dc_at; decide +kernel
theorem dX4_dominates_15 : dc_at mX4_dominates 15 (.iconst 0) 1 := by unfold dc_at; decide +kernel
theorem dX4_dominates_16 : dc_at mX4_dominates 16 (.ireturn) 1 := by unfold dc_at; decide +kernel
theorem dX4_dominates_17 : dc_at mX4_dominates 17 (.aload_n 0) 1 := by unfold dc_at; decide +kernel
theorem dX4_dominates_18 : dc_at mX4_dominates 18 (.getfield 15) 3 := by unfold dc_at; decide +kernel
theorem dX4_dominates_21 : dc_at mX4_dominates 21 (.iload_n 2) 1 := by unfold dc_at; decide +kernel
theorem dX4_dominates_22 : dc_at mX4_dominates 22 (.iaload) 1 := by unfold dc_at; decide +kernel
theorem dX4_dominates_23 : dc_at mX4_dominates 23 (.aload_n 0) 1 := by unfold dc_at; decide +kernel
theorem dX4_dominates_24 : dc_at mX4_dominates 24 (.getfield 9) 3 := by unfold dc_at; decide +kernel
theorem dX4_dominates_27 : dc_at mX4_dominates 27 (.iload_n 1) 1 := by unfold dc_at; decide +kernel
theorem dX4_dominates_28 : dc_at mX4_dominates 28 (.iaload) 1 := by unfold dc_at; decide +kernel
theorem dX4_dominates_29 : dc_at mX4_dominates 29 (.if_icmp .gt 7) 3 := by unfold dc_at; decide +kernel
theorem dX4_dominates_32 : dc_at mX4_dominates 32 (.iconst 1) 1 := by unfold dc_at; decide +kernel
theorem dX4_dominates_33 : dc_at mX4_dominates 33 (.goto 4) 3 := by unfold dc_at; decide +kernel
theorem dX4_dominates_36 : dc_at mX4_dominates 36 (.iconst 0) 1 := by unfold dc_at; decide +kernel
theorem dX4_dominates_37 : dc_at mX4_dominates 37 (.istore_n 3) 1 := by unfold dc_at; decide +kernel
theorem dX4_dominates_38 : dc_at mX4_dominates 38 (.iload_n 3) 1 := by unfold dc_at; decide +kernel
theorem dX4_dominates_39 : dc_at mX4_dominates 39 (.ifCond .eq 8) 3 := by unfold dc_at; decide +kernel
theorem dX4_dominates_42 : dc_at mX4_dominates 42 (.iload_n 1) 1 := by unfold dc_at; decide +kernel
theorem dX4_dominates_43 : dc_at mX4_dominates 43 (.iload_n 2) 1 := by unfold dc_at; decide +kernel
theorem dX4_dominates_44 : dc_at mX4_dominates 44 (.if_icmp .ge 7) 3 := by unfold dc_at; decide +kernel
theorem dX4_dominates_47 : dc_at mX4_dominates 47 (.iconst 1) 1 := by unfold dc_at; decide +kernel
theorem dX4_dominates_48 : dc_at mX4_dominates 48 (.goto 4) 3 := by unfold dc_at; decide +kernel
theorem dX4_dominates_51 : dc_at mX4_dominates 51 (.iconst 0) 1 := by unfold dc_at; decide +kernel
theorem dX4_dominates_52 : dc_at mX4_dominates 52 (.ireturn) 1 := by unfold dc_at; decide +kernel
theorem dX4_receive_0 : dc_at mX4_receive 0 (.aload_n 0) 1 := by unfold dc_at; decide +kernel
theorem dX4_receive_1 : dc_at mX4_receive 1 (.getfield 18) 3 := by unfold dc_at; decide +kernel
theorem dX4_receive_4 : dc_at mX4_receive 4 (.iload_n 1) 1 := by unfold dc_at; decide +kernel
theorem dX4_receive_5 : dc_at mX4_receive 5 (.iaload) 1 := by unfold dc_at; decide +kernel
theorem dX4_receive_6 : dc_at mX4_receive 6 (.iload 4) 2 := by unfold dc_at; decide +kernel
theorem dX4_receive_8 : dc_at mX4_receive 8 (.if_icmp .ge 20) 3 := by unfold dc_at; decide +kernel
theorem dX4_receive_11 : dc_at mX4_receive 11 (.aload_n 0) 1 := by unfold dc_at; decide +kernel
theorem dX4_receive_12 : dc_at mX4_receive 12 (.getfield 21) 3 := by unfold dc_at; decide +kernel
theorem dX4_receive_15 : dc_at mX4_receive 15 (.iload_n 1) 1 := by unfold dc_at; decide +kernel
theorem dX4_receive_16 : dc_at mX4_receive 16 (.iconst 0) 1 := by unfold dc_at; decide +kernel
theorem dX4_receive_17 : dc_at mX4_receive 17 (.iastore) 1 := by unfold dc_at; decide +kernel
theorem dX4_receive_18 : dc_at mX4_receive 18 (.aload_n 0) 1 := by unfold dc_at; decide +kernel
theorem dX4_receive_19 : dc_at mX4_receive 19 (.getfield 24) 3 := by unfold dc_at; decide +kernel
theorem dX4_receive_22 : dc_at mX4_receive 22 (.iload_n 1) 1 := by unfold dc_at; decide +kernel
theorem dX4_receive_23 : dc_at mX4_receive 23 (.iconst 0) 1 := by unfold dc_at; decide +kernel
theorem dX4_receive_24 : dc_at mX4_receive 24 (.iastore) 1 := by unfold dc_at; decide +kernel
theorem dX4_receive_25 : dc_at mX4_receive 25 (.goto 44) 3 := by unfold dc_at; decide +kernel
theorem dX4_receive_28 : dc_at mX4_receive 28 (.aload_n 0) 1 := by unfold dc_at; decide +kernel
theorem dX4_receive_29 : dc_at mX4_receive 29 (.iload_n 1) 1 := by unfold dc_at; decide +kernel
theorem dX4_receive_30 : dc_at mX4_receive 30 (.iload_n 3) 1 := by unfold dc_at; decide +kernel
theorem dX4_receive_31 : dc_at mX4_receive 31 (.invokevirtual 31) 3 := by unfold dc_at; decide +kernel
theorem dX4_receive_34 : dc_at mX4_receive 34 (.aload_n 0) 1 := by unfold dc_at; decide +kernel
theorem dX4_receive_35 : dc_at mX4_receive 35 (.getfield 21) 3 := by unfold dc_at; decide +kernel
theorem dX4_receive_38 : dc_at mX4_receive 38 (.iload_n 1) 1 := by unfold dc_at; decide +kernel
theorem dX4_receive_39 : dc_at mX4_receive 39 (.iaload) 1 := by unfold dc_at; decide +kernel
theorem dX4_receive_40 : dc_at mX4_receive 40 (.aload 5) 2 := by unfold dc_at; decide +kernel
theorem dX4_receive_42 : dc_at mX4_receive 42 (.bipush 8) 2 := by unfold dc_at; decide +kernel
theorem dX4_receive_44 : dc_at mX4_receive 44 (.iaload) 1 := by unfold dc_at; decide +kernel
theorem dX4_receive_45 : dc_at mX4_receive 45 (.if_icmp .lt 24) 3 := by unfold dc_at; decide +kernel
theorem dX4_receive_48 : dc_at mX4_receive 48 (.aload_n 0) 1 := by unfold dc_at; decide +kernel
theorem dX4_receive_49 : dc_at mX4_receive 49 (.getfield 24) 3 := by unfold dc_at; decide +kernel
theorem dX4_receive_52 : dc_at mX4_receive 52 (.iload_n 1) 1 := by unfold dc_at; decide +kernel
theorem dX4_receive_53 : dc_at mX4_receive 53 (.iload 4) 2 := by unfold dc_at; decide +kernel
theorem dX4_receive_55 : dc_at mX4_receive 55 (.aload 5) 2 := by unfold dc_at; decide +kernel
theorem dX4_receive_57 : dc_at mX4_receive 57 (.bipush 9) 2 := by unfold dc_at; decide +kernel
theorem dX4_receive_59 : dc_at mX4_receive 59 (.iaload) 1 := by unfold dc_at; decide +kernel
theorem dX4_receive_60 : dc_at mX4_receive 60 (.iadd) 1 := by unfold dc_at; decide +kernel
theorem dX4_receive_61 : dc_at mX4_receive 61 (.iastore) 1 := by unfold dc_at; decide +kernel
theorem dX4_receive_62 : dc_at mX4_receive 62 (.aload_n 0) 1 := by unfold dc_at; decide +kernel
theorem dX4_receive_63 : dc_at mX4_receive 63 (.getfield 21) 3 := by unfold dc_at; decide +kernel
theorem dX4_receive_66 : dc_at mX4_receive 66 (.iload_n 1) 1 := by unfold dc_at; decide +kernel
theorem dX4_receive_67 : dc_at mX4_receive 67 (.iconst 0) 1 := by unfold dc_at; decide +kernel
theorem dX4_receive_68 : dc_at mX4_receive 68 (.iastore) 1 := by unfold dc_at; decide +kernel
theorem dX4_receive_69 : dc_at mX4_receive 69 (.aload_n 0) 1 := by unfold dc_at; decide +kernel
theorem dX4_receive_70 : dc_at mX4_receive 70 (.getfield 9) 3 := by unfold dc_at; decide +kernel
theorem dX4_receive_73 : dc_at mX4_receive 73 (.iload_n 1) 1 := by unfold dc_at; decide +kernel
theorem dX4_receive_74 : dc_at mX4_receive 74 (.iload_n 2) 1 := by unfold dc_at; decide +kernel
theorem dX4_receive_75 : dc_at mX4_receive 75 (.iastore) 1 := by unfold dc_at; decide +kernel
theorem dX4_receive_76 : dc_at mX4_receive 76 (.aload_n 0) 1 := by unfold dc_at; decide +kernel
theorem dX4_receive_77 : dc_at mX4_receive 77 (.getfield 15) 3 := by unfold dc_at; decide +kernel
theorem dX4_receive_80 : dc_at mX4_receive 80 (.iload_n 1) 1 := by unfold dc_at; decide +kernel
theorem dX4_receive_81 : dc_at mX4_receive 81 (.iload_n 3) 1 := by unfold dc_at; decide +kernel
theorem dX4_receive_82 : dc_at mX4_receive 82 (.iastore) 1 := by unfold dc_at; decide +kernel
theorem dX4_receive_83 : dc_at mX4_receive 83 (.aload_n 0) 1 := by unfold dc_at; decide +kernel
theorem dX4_receive_84 : dc_at mX4_receive 84 (.getfield 18) 3 := by unfold dc_at; decide +kernel
theorem dX4_receive_87 : dc_at mX4_receive 87 (.iload_n 1) 1 := by unfold dc_at; decide +kernel
theorem dX4_receive_88 : dc_at mX4_receive 88 (.iload 4) 2 := by unfold dc_at; decide +kernel
theorem dX4_receive_90 : dc_at mX4_receive 90 (.aload 5) 2 := by unfold dc_at; decide +kernel
theorem dX4_receive_92 : dc_at mX4_receive 92 (.iconst 1) 1 := by unfold dc_at; decide +kernel
theorem dX4_receive_93 : dc_at mX4_receive 93 (.iaload) 1 := by unfold dc_at; decide +kernel
theorem dX4_receive_94 : dc_at mX4_receive 94 (.iadd) 1 := by unfold dc_at; decide +kernel
theorem dX4_receive_95 : dc_at mX4_receive 95 (.iastore) 1 := by unfold dc_at; decide +kernel
theorem dX4_receive_96 : dc_at mX4_receive 96 (.return_) 1 := by unfold dc_at; decide +kernel
theorem dX4_countGrowth_0 : dc_at mX4_countGrowth 0 (.iload_n 2) 1 := by unfold dc_at; decide +kernel
theorem dX4_countGrowth_1 : dc_at mX4_countGrowth 1 (.aload_n 0) 1 := by unfold dc_at; decide +kernel
theorem dX4_countGrowth_2 : dc_at mX4_countGrowth 2 (.getfield 15) 3 := by unfold dc_at; decide +kernel
theorem dX4_countGrowth_5 : dc_at mX4_countGrowth 5 (.iload_n 1) 1 := by unfold dc_at; decide +kernel
theorem dX4_countGrowth_6 : dc_at mX4_countGrowth 6 (.iaload) 1 := by unfold dc_at; decide +kernel
theorem dX4_countGrowth_7 : dc_at mX4_countGrowth 7 (.if_icmp .le 16) 3 := by unfold dc_at; decide +kernel
theorem dX4_countGrowth_10 : dc_at mX4_countGrowth 10 (.aload_n 0) 1 := by unfold dc_at; decide +kernel
theorem dX4_countGrowth_11 : dc_at mX4_countGrowth 11 (.getfield 21) 3 := by unfold dc_at; decide +kernel
theorem dX4_countGrowth_14 : dc_at mX4_countGrowth 14 (.iload_n 1) 1 := by unfold dc_at; decide +kernel
theorem dX4_countGrowth_15 : dc_at mX4_countGrowth 15 (.dup2) 1 := by unfold dc_at; decide +kernel
theorem dX4_countGrowth_16 : dc_at mX4_countGrowth 16 (.iaload) 1 := by unfold dc_at; decide +kernel
theorem dX4_countGrowth_17 : dc_at mX4_countGrowth 17 (.iconst 1) 1 := by unfold dc_at; decide +kernel
theorem dX4_countGrowth_18 : dc_at mX4_countGrowth 18 (.iadd) 1 := by unfold dc_at; decide +kernel
theorem dX4_countGrowth_19 : dc_at mX4_countGrowth 19 (.iastore) 1 := by unfold dc_at; decide +kernel
theorem dX4_countGrowth_20 : dc_at mX4_countGrowth 20 (.goto 20) 3 := by unfold dc_at; decide +kernel
theorem dX4_countGrowth_23 : dc_at mX4_countGrowth 23 (.iload_n 2) 1 := by unfold dc_at; decide +kernel
theorem dX4_countGrowth_24 : dc_at mX4_countGrowth 24 (.aload_n 0) 1 := by unfold dc_at; decide +kernel
theorem dX4_countGrowth_25 : dc_at mX4_countGrowth 25 (.getfield 15) 3 := by unfold dc_at; decide +kernel
theorem dX4_countGrowth_28 : dc_at mX4_countGrowth 28 (.iload_n 1) 1 := by unfold dc_at; decide +kernel
theorem dX4_countGrowth_29 : dc_at mX4_countGrowth 29 (.iaload) 1 := by unfold dc_at; decide +kernel
theorem dX4_countGrowth_30 : dc_at mX4_countGrowth 30 (.if_icmp .ge 10) 3 := by unfold dc_at; decide +kernel
theorem dX4_countGrowth_33 : dc_at mX4_countGrowth 33 (.aload_n 0) 1 := by unfold dc_at; decide +kernel
theorem dX4_countGrowth_34 : dc_at mX4_countGrowth 34 (.getfield 21) 3 := by unfold dc_at; decide +kernel
theorem dX4_countGrowth_37 : dc_at mX4_countGrowth 37 (.iload_n 1) 1 := by unfold dc_at; decide +kernel
theorem dX4_countGrowth_38 : dc_at mX4_countGrowth 38 (.iconst 0) 1 := by unfold dc_at; decide +kernel
theorem dX4_countGrowth_39 : dc_at mX4_countGrowth 39 (.iastore) 1 := by unfold dc_at; decide +kernel
theorem dX4_countGrowth_40 : dc_at mX4_countGrowth 40 (.return_) 1 := by unfold dc_at; decide +kernel
theorem dX4_clear_0 : dc_at mX4_clear 0 (.aload_n 0) 1 := by unfold dc_at; decide +kernel
theorem dX4_clear_1 : dc_at mX4_clear 1 (.getfield 9) 3 := by unfold dc_at; decide +kernel
theorem dX4_clear_4 : dc_at mX4_clear 4 (.iconst 0) 1 := by unfold dc_at; decide +kernel
theorem dX4_clear_5 : dc_at mX4_clear 5 (.invokestatic 35) 3 := by unfold dc_at; decide +kernel
theorem dX4_clear_8 : dc_at mX4_clear 8 (.aload_n 0) 1 := by unfold dc_at; decide +kernel
theorem dX4_clear_9 : dc_at mX4_clear 9 (.getfield 15) 3 := by unfold dc_at; decide +kernel
theorem dX4_clear_12 : dc_at mX4_clear 12 (.iconst 0) 1 := by unfold dc_at; decide +kernel
theorem dX4_clear_13 : dc_at mX4_clear 13 (.invokestatic 35) 3 := by unfold dc_at; decide +kernel
theorem dX4_clear_16 : dc_at mX4_clear 16 (.aload_n 0) 1 := by unfold dc_at; decide +kernel
theorem dX4_clear_17 : dc_at mX4_clear 17 (.getfield 18) 3 := by unfold dc_at; decide +kernel
theorem dX4_clear_20 : dc_at mX4_clear 20 (.iconst 0) 1 := by unfold dc_at; decide +kernel
theorem dX4_clear_21 : dc_at mX4_clear 21 (.invokestatic 35) 3 := by unfold dc_at; decide +kernel
theorem dX4_clear_24 : dc_at mX4_clear 24 (.aload_n 0) 1 := by unfold dc_at; decide +kernel
theorem dX4_clear_25 : dc_at mX4_clear 25 (.getfield 21) 3 := by unfold dc_at; decide +kernel
theorem dX4_clear_28 : dc_at mX4_clear 28 (.iconst 0) 1 := by unfold dc_at; decide +kernel
theorem dX4_clear_29 : dc_at mX4_clear 29 (.invokestatic 35) 3 := by unfold dc_at; decide +kernel
theorem dX4_clear_32 : dc_at mX4_clear 32 (.aload_n 0) 1 := by unfold dc_at; decide +kernel
theorem dX4_clear_33 : dc_at mX4_clear 33 (.getfield 24) 3 := by unfold dc_at; decide +kernel
theorem dX4_clear_36 : dc_at mX4_clear 36 (.iconst 0) 1 := by unfold dc_at; decide +kernel
theorem dX4_clear_37 : dc_at mX4_clear 37 (.invokestatic 35) 3 := by unfold dc_at; decide +kernel
theorem dX4_clear_40 : dc_at mX4_clear 40 (.return_) 1 := by unfold dc_at; decide +kernel
theorem dX4_copyFrom_0 : dc_at mX4_copyFrom 0 (.aload_n 1) 1 := by unfold dc_at; decide +kernel
theorem dX4_copyFrom_1 : dc_at mX4_copyFrom 1 (.getfield 9) 3 := by unfold dc_at; decide +kernel
theorem dX4_copyFrom_4 : dc_at mX4_copyFrom 4 (.iconst 0) 1 := by unfold dc_at; decide +kernel
theorem dX4_copyFrom_5 : dc_at mX4_copyFrom 5 (.aload_n 0) 1 := by unfold dc_at; decide +kernel
theorem dX4_copyFrom_6 : dc_at mX4_copyFrom 6 (.getfield 9) 3 := by unfold dc_at; decide +kernel
theorem dX4_copyFrom_9 : dc_at mX4_copyFrom 9 (.iconst 0) 1 := by unfold dc_at; decide +kernel
theorem dX4_copyFrom_10 : dc_at mX4_copyFrom 10 (.sipush 512) 3 := by unfold dc_at; decide +kernel
theorem dX4_copyFrom_13 : dc_at mX4_copyFrom 13 (.invokestatic 41) 3 := by unfold dc_at; decide +kernel
theorem dX4_copyFrom_16 : dc_at mX4_copyFrom 16 (.aload_n 1) 1 := by unfold dc_at; decide +kernel
theorem dX4_copyFrom_17 : dc_at mX4_copyFrom 17 (.getfield 15) 3 := by unfold dc_at; decide +kernel
theorem dX4_copyFrom_20 : dc_at mX4_copyFrom 20 (.iconst 0) 1 := by unfold dc_at; decide +kernel
theorem dX4_copyFrom_21 : dc_at mX4_copyFrom 21 (.aload_n 0) 1 := by unfold dc_at; decide +kernel
theorem dX4_copyFrom_22 : dc_at mX4_copyFrom 22 (.getfield 15) 3 := by unfold dc_at; decide +kernel
theorem dX4_copyFrom_25 : dc_at mX4_copyFrom 25 (.iconst 0) 1 := by unfold dc_at; decide +kernel
theorem dX4_copyFrom_26 : dc_at mX4_copyFrom 26 (.sipush 512) 3 := by unfold dc_at; decide +kernel
theorem dX4_copyFrom_29 : dc_at mX4_copyFrom 29 (.invokestatic 41) 3 := by unfold dc_at; decide +kernel
theorem dX4_copyFrom_32 : dc_at mX4_copyFrom 32 (.aload_n 1) 1 := by unfold dc_at; decide +kernel
theorem dX4_copyFrom_33 : dc_at mX4_copyFrom 33 (.getfield 18) 3 := by unfold dc_at; decide +kernel
theorem dX4_copyFrom_36 : dc_at mX4_copyFrom 36 (.iconst 0) 1 := by unfold dc_at; decide +kernel
theorem dX4_copyFrom_37 : dc_at mX4_copyFrom 37 (.aload_n 0) 1 := by unfold dc_at; decide +kernel
theorem dX4_copyFrom_38 : dc_at mX4_copyFrom 38 (.getfield 18) 3 := by unfold dc_at; decide +kernel
theorem dX4_copyFrom_41 : dc_at mX4_copyFrom 41 (.iconst 0) 1 := by unfold dc_at; decide +kernel
theorem dX4_copyFrom_42 : dc_at mX4_copyFrom 42 (.sipush 512) 3 := by unfold dc_at; decide +kernel
theorem dX4_copyFrom_45 : dc_at mX4_copyFrom 45 (.invokestatic 41) 3 := by unfold dc_at; decide +kernel
theorem dX4_copyFrom_48 : dc_at mX4_copyFrom 48 (.aload_n 1) 1 := by unfold dc_at; decide +kernel
theorem dX4_copyFrom_49 : dc_at mX4_copyFrom 49 (.getfield 21) 3 := by unfold dc_at; decide +kernel
theorem dX4_copyFrom_52 : dc_at mX4_copyFrom 52 (.iconst 0) 1 := by unfold dc_at; decide +kernel
theorem dX4_copyFrom_53 : dc_at mX4_copyFrom 53 (.aload_n 0) 1 := by unfold dc_at; decide +kernel
theorem dX4_copyFrom_54 : dc_at mX4_copyFrom 54 (.getfield 21) 3 := by unfold dc_at; decide +kernel
theorem dX4_copyFrom_57 : dc_at mX4_copyFrom 57 (.iconst 0) 1 := by unfold dc_at; decide +kernel
theorem dX4_copyFrom_58 : dc_at mX4_copyFrom 58 (.sipush 512) 3 := by unfold dc_at; decide +kernel
theorem dX4_copyFrom_61 : dc_at mX4_copyFrom 61 (.invokestatic 41) 3 := by unfold dc_at; decide +kernel
theorem dX4_copyFrom_64 : dc_at mX4_copyFrom 64 (.aload_n 1) 1 := by unfold dc_at; decide +kernel
theorem dX4_copyFrom_65 : dc_at mX4_copyFrom 65 (.getfield 24) 3 := by unfold dc_at; decide +kernel
theorem dX4_copyFrom_68 : dc_at mX4_copyFrom 68 (.iconst 0) 1 := by unfold dc_at; decide +kernel
theorem dX4_copyFrom_69 : dc_at mX4_copyFrom 69 (.aload_n 0) 1 := by unfold dc_at; decide +kernel
theorem dX4_copyFrom_70 : dc_at mX4_copyFrom 70 (.getfield 24) 3 := by unfold dc_at; decide +kernel
theorem dX4_copyFrom_73 : dc_at mX4_copyFrom 73 (.iconst 0) 1 := by unfold dc_at; decide +kernel
theorem dX4_copyFrom_74 : dc_at mX4_copyFrom 74 (.sipush 512) 3 := by unfold dc_at; decide +kernel
theorem dX4_copyFrom_77 : dc_at mX4_copyFrom 77 (.invokestatic 41) 3 := by unfold dc_at; decide +kernel
theorem dX4_copyFrom_80 : dc_at mX4_copyFrom 80 (.return_) 1 := by unfold dc_at; decide +kernel
theorem dX5_init_0 : dc_at mX5_init 0 (.aload_n 0) 1 := by unfold dc_at; decide +kernel
theorem dX5_init_1 : dc_at mX5_init 1 (.invokespecial 3) 3 := by unfold dc_at; decide +kernel
theorem dX5_init_4 : dc_at mX5_init 4 (.aload_n 0) 1 := by unfold dc_at; decide +kernel
theorem dX5_init_5 : dc_at mX5_init 5 (.bipush 64) 2 := by unfold dc_at; decide +kernel
theorem dX5_init_7 : dc_at mX5_init 7 (.newarray .int) 2 := by unfold dc_at; decide +kernel
theorem dX5_init_9 : dc_at mX5_init 9 (.putfield 9) 3 := by unfold dc_at; decide +kernel
theorem dX5_init_12 : dc_at mX5_init 12 (.aload_n 0) 1 := by unfold dc_at; decide +kernel
theorem dX5_init_13 : dc_at mX5_init 13 (.bipush 64) 2 := by unfold dc_at; decide +kernel
theorem dX5_init_15 : dc_at mX5_init 15 (.newarray .int) 2 := by unfold dc_at; decide +kernel
theorem dX5_init_17 : dc_at mX5_init 17 (.putfield 15) 3 := by unfold dc_at; decide +kernel
theorem dX5_init_20 : dc_at mX5_init 20 (.return_) 1 := by unfold dc_at; decide +kernel
theorem dX5_differs_0 : dc_at mX5_differs 0 (.iconst 0) 1 := by unfold dc_at; decide +kernel
theorem dX5_differs_1 : dc_at mX5_differs 1 (.istore 4) 2 := by unfold dc_at; decide +kernel
theorem dX5_differs_3 : dc_at mX5_differs 3 (.iload 4) 2 := by unfold dc_at; decide +kernel
theorem dX5_differs_5 : dc_at mX5_differs 5 (.iload_n 2) 1 := by unfold dc_at; decide +kernel
theorem dX5_differs_6 : dc_at mX5_differs 6 (.if_icmp .ge 53) 3 := by unfold dc_at; decide +kernel
theorem dX5_differs_9 : dc_at mX5_differs 9 (.iload_n 1) 1 := by unfold dc_at; decide +kernel
theorem dX5_differs_10 : dc_at mX5_differs 10 (.iload 4) 2 := by unfold dc_at; decide +kernel
theorem dX5_differs_12 : dc_at mX5_differs 12 (.invokestatic 18) 3 := by unfold dc_at; decide +kernel
theorem dX5_differs_15 : dc_at mX5_differs 15 (.istore 5) 2 := by unfold dc_at; decide +kernel
theorem dX5_differs_17 : dc_at mX5_differs 17 (.aload_n 0) 1 := by unfold dc_at; decide +kernel
theorem dX5_differs_18 : dc_at mX5_differs 18 (.getfield 9) 3 := by unfold dc_at; decide +kernel
theorem dX5_differs_21 : dc_at mX5_differs 21 (.iload 5) 2 := by unfold dc_at; decide +kernel
theorem dX5_differs_23 : dc_at mX5_differs 23 (.iaload) 1 := by unfold dc_at; decide +kernel
theorem dX5_differs_24 : dc_at mX5_differs 24 (.aload_n 3) 1 := by unfold dc_at; decide +kernel
theorem dX5_differs_25 : dc_at mX5_differs 25 (.getfield 22) 3 := by unfold dc_at; decide +kernel
theorem dX5_differs_28 : dc_at mX5_differs 28 (.iload 5) 2 := by unfold dc_at; decide +kernel
theorem dX5_differs_30 : dc_at mX5_differs 30 (.iaload) 1 := by unfold dc_at; decide +kernel
theorem dX5_differs_31 : dc_at mX5_differs 31 (.if_icmp .ne 20) 3 := by unfold dc_at; decide +kernel
theorem dX5_differs_34 : dc_at mX5_differs 34 (.aload_n 0) 1 := by unfold dc_at; decide +kernel
theorem dX5_differs_35 : dc_at mX5_differs 35 (.getfield 15) 3 := by unfold dc_at; decide +kernel
theorem dX5_differs_38 : dc_at mX5_differs 38 (.iload 5) 2 := by unfold dc_at; decide +kernel
theorem dX5_differs_40 : dc_at mX5_differs 40 (.iaload) 1 := by unfold dc_at; decide +kernel
theorem dX5_differs_41 : dc_at mX5_differs 41 (.aload_n 3) 1 := by unfold dc_at; decide +kernel
theorem dX5_differs_42 : dc_at mX5_differs 42 (.getfield 25) 3 := by unfold dc_at; decide +kernel
theorem dX5_differs_45 : dc_at mX5_differs 45 (.iload 5) 2 := by unfold dc_at; decide +kernel
theorem dX5_differs_47 : dc_at mX5_differs 47 (.iaload) 1 := by unfold dc_at; decide +kernel
theorem dX5_differs_48 : dc_at mX5_differs 48 (.if_icmp .eq 5) 3 := by unfold dc_at; decide +kernel
theorem dX5_differs_51 : dc_at mX5_differs 51 (.iconst 1) 1 := by unfold dc_at; decide +kernel
theorem dX5_differs_52 : dc_at mX5_differs 52 (.ireturn) 1 := by unfold dc_at; decide +kernel
theorem dX5_differs_53 : dc_at mX5_differs 53 (.iinc 4 1) 3 := by unfold dc_at; decide +kernel
theorem dX5_differs_56 : dc_at mX5_differs 56 (.goto (-53)) 3 := by unfold dc_at; decide +kernel
theorem dX5_differs_59 : dc_at mX5_differs 59 (.iconst 0) 1 := by unfold dc_at; decide +kernel
theorem dX5_differs_60 : dc_at mX5_differs 60 (.ireturn) 1 := by unfold dc_at; decide +kernel
theorem dX5_keep_0 : dc_at mX5_keep 0 (.iconst 0) 1 := by unfold dc_at; decide +kernel
theorem dX5_keep_1 : dc_at mX5_keep 1 (.istore 4) 2 := by unfold dc_at; decide +kernel
theorem dX5_keep_3 : dc_at mX5_keep 3 (.iload 4) 2 := by unfold dc_at; decide +kernel
theorem dX5_keep_5 : dc_at mX5_keep 5 (.iload_n 2) 1 := by unfold dc_at; decide +kernel
theorem dX5_keep_6 : dc_at mX5_keep 6 (.if_icmp .ge 45) 3 := by unfold dc_at; decide +kernel
theorem dX5_keep_9 : dc_at mX5_keep 9 (.iload_n 1) 1 := by unfold dc_at; decide +kernel
theorem dX5_keep_10 : dc_at mX5_keep 10 (.iload 4) 2 := by unfold dc_at; decide +kernel
theorem dX5_keep_12 : dc_at mX5_keep 12 (.invokestatic 18) 3 := by unfold dc_at; decide +kernel
theorem dX5_keep_15 : dc_at mX5_keep 15 (.istore 5) 2 := by unfold dc_at; decide +kernel
theorem dX5_keep_17 : dc_at mX5_keep 17 (.aload_n 0) 1 := by unfold dc_at; decide +kernel
theorem dX5_keep_18 : dc_at mX5_keep 18 (.getfield 9) 3 := by unfold dc_at; decide +kernel
theorem dX5_keep_21 : dc_at mX5_keep 21 (.iload 5) 2 := by unfold dc_at; decide +kernel
theorem dX5_keep_23 : dc_at mX5_keep 23 (.aload_n 3) 1 := by unfold dc_at; decide +kernel
theorem dX5_keep_24 : dc_at mX5_keep 24 (.getfield 22) 3 := by unfold dc_at; decide +kernel
theorem dX5_keep_27 : dc_at mX5_keep 27 (.iload 5) 2 := by unfold dc_at; decide +kernel
theorem dX5_keep_29 : dc_at mX5_keep 29 (.iaload) 1 := by unfold dc_at; decide +kernel
theorem dX5_keep_30 : dc_at mX5_keep 30 (.iastore) 1 := by unfold dc_at; decide +kernel
theorem dX5_keep_31 : dc_at mX5_keep 31 (.aload_n 0) 1 := by unfold dc_at; decide +kernel
theorem dX5_keep_32 : dc_at mX5_keep 32 (.getfield 15) 3 := by unfold dc_at; decide +kernel
theorem dX5_keep_35 : dc_at mX5_keep 35 (.iload 5) 2 := by unfold dc_at; decide +kernel
theorem dX5_keep_37 : dc_at mX5_keep 37 (.aload_n 3) 1 := by unfold dc_at; decide +kernel
theorem dX5_keep_38 : dc_at mX5_keep 38 (.getfield 25) 3 := by unfold dc_at; decide +kernel
theorem dX5_keep_41 : dc_at mX5_keep 41 (.iload 5) 2 := by unfold dc_at; decide +kernel
theorem dX5_keep_43 : dc_at mX5_keep 43 (.iaload) 1 := by unfold dc_at; decide +kernel
theorem dX5_keep_44 : dc_at mX5_keep 44 (.iastore) 1 := by unfold dc_at; decide +kernel
theorem dX5_keep_45 : dc_at mX5_keep 45 (.iinc 4 1) 3 := by unfold dc_at; decide +kernel
theorem dX5_keep_48 : dc_at mX5_keep 48 (.goto (-45)) 3 := by unfold dc_at; decide +kernel
theorem dX5_keep_51 : dc_at mX5_keep 51 (.return_) 1 := by unfold dc_at; decide +kernel
theorem dX5_clear_0 : dc_at mX5_clear 0 (.aload_n 0) 1 := by unfold dc_at; decide +kernel
theorem dX5_clear_1 : dc_at mX5_clear 1 (.getfield 9) 3 := by unfold dc_at; decide +kernel
theorem dX5_clear_4 : dc_at mX5_clear 4 (.bipush (-2)) 2 := by unfold dc_at; decide +kernel
theorem dX5_clear_6 : dc_at mX5_clear 6 (.invokestatic 26) 3 := by unfold dc_at; decide +kernel
theorem dX5_clear_9 : dc_at mX5_clear 9 (.aload_n 0) 1 := by unfold dc_at; decide +kernel
theorem dX5_clear_10 : dc_at mX5_clear 10 (.getfield 15) 3 := by unfold dc_at; decide +kernel
theorem dX5_clear_13 : dc_at mX5_clear 13 (.bipush (-2)) 2 := by unfold dc_at; decide +kernel
theorem dX5_clear_15 : dc_at mX5_clear 15 (.invokestatic 26) 3 := by unfold dc_at; decide +kernel
theorem dX5_clear_18 : dc_at mX5_clear 18 (.return_) 1 := by unfold dc_at; decide +kernel
theorem dX5_copyFrom_0 : dc_at mX5_copyFrom 0 (.aload_n 1) 1 := by unfold dc_at; decide +kernel
theorem dX5_copyFrom_1 : dc_at mX5_copyFrom 1 (.getfield 9) 3 := by unfold dc_at; decide +kernel
theorem dX5_copyFrom_4 : dc_at mX5_copyFrom 4 (.iconst 0) 1 := by unfold dc_at; decide +kernel
theorem dX5_copyFrom_5 : dc_at mX5_copyFrom 5 (.aload_n 0) 1 := by unfold dc_at; decide +kernel
theorem dX5_copyFrom_6 : dc_at mX5_copyFrom 6 (.getfield 9) 3 := by unfold dc_at; decide +kernel
theorem dX5_copyFrom_9 : dc_at mX5_copyFrom 9 (.iconst 0) 1 := by unfold dc_at; decide +kernel
theorem dX5_copyFrom_10 : dc_at mX5_copyFrom 10 (.bipush 64) 2 := by unfold dc_at; decide +kernel
theorem dX5_copyFrom_12 : dc_at mX5_copyFrom 12 (.invokestatic 32) 3 := by unfold dc_at; decide +kernel
theorem dX5_copyFrom_15 : dc_at mX5_copyFrom 15 (.aload_n 1) 1 := by unfold dc_at; decide +kernel
theorem dX5_copyFrom_16 : dc_at mX5_copyFrom 16 (.getfield 15) 3 := by unfold dc_at; decide +kernel
theorem dX5_copyFrom_19 : dc_at mX5_copyFrom 19 (.iconst 0) 1 := by unfold dc_at; decide +kernel
theorem dX5_copyFrom_20 : dc_at mX5_copyFrom 20 (.aload_n 0) 1 := by unfold dc_at; decide +kernel
theorem dX5_copyFrom_21 : dc_at mX5_copyFrom 21 (.getfield 15) 3 := by unfold dc_at; decide +kernel
theorem dX5_copyFrom_24 : dc_at mX5_copyFrom 24 (.iconst 0) 1 := by unfold dc_at; decide +kernel
theorem dX5_copyFrom_25 : dc_at mX5_copyFrom 25 (.bipush 64) 2 := by unfold dc_at; decide +kernel
theorem dX5_copyFrom_27 : dc_at mX5_copyFrom 27 (.invokestatic 32) 3 := by unfold dc_at; decide +kernel
theorem dX5_copyFrom_30 : dc_at mX5_copyFrom 30 (.return_) 1 := by unfold dc_at; decide +kernel
theorem dX6_init_0 : dc_at mX6_init 0 (.aload_n 0) 1 := by unfold dc_at; decide +kernel
theorem dX6_init_1 : dc_at mX6_init 1 (.invokespecial 3) 3 := by unfold dc_at; decide +kernel
theorem dX6_init_4 : dc_at mX6_init 4 (.aload_n 0) 1 := by unfold dc_at; decide +kernel
theorem dX6_init_5 : dc_at mX6_init 5 (.bipush 64) 2 := by unfold dc_at; decide +kernel
theorem dX6_init_7 : dc_at mX6_init 7 (.newarray .int) 2 := by unfold dc_at; decide +kernel
theorem dX6_init_9 : dc_at mX6_init 9 (.putfield 9) 3 := by unfold dc_at; decide +kernel
theorem dX6_init_12 : dc_at mX6_init 12 (.return_) 1 := by unfold dc_at; decide +kernel
theorem dX6_exists_0 : dc_at mX6_exists 0 (.aload_n 0) 1 := by unfold dc_at; decide +kernel
theorem dX6_exists_1 : dc_at mX6_exists 1 (.getfield 9) 3 := by unfold dc_at; decide +kernel
theorem dX6_exists_4 : dc_at mX6_exists 4 (.iload_n 1) 1 := by unfold dc_at; decide +kernel
theorem dX6_exists_5 : dc_at mX6_exists 5 (.iaload) 1 := by unfold dc_at; decide +kernel
theorem dX6_exists_6 : dc_at mX6_exists 6 (.ldc 15) 2 := by unfold dc_at; decide +kernel
theorem dX6_exists_8 : dc_at mX6_exists 8 (.if_icmp .ge 7) 3 := by unfold dc_at; decide +kernel
theorem dX6_exists_11 : dc_at mX6_exists 11 (.iconst 1) 1 := by unfold dc_at; decide +kernel
theorem dX6_exists_12 : dc_at mX6_exists 12 (.goto 4) 3 := by unfold dc_at; decide +kernel
theorem dX6_exists_15 : dc_at mX6_exists 15 (.iconst 0) 1 := by unfold dc_at; decide +kernel
theorem dX6_exists_16 : dc_at mX6_exists 16 (.ireturn) 1 := by unfold dc_at; decide +kernel
theorem dX6_measure_0 : dc_at mX6_measure 0 (.iconst 0) 1 := by unfold dc_at; decide +kernel
theorem dX6_measure_1 : dc_at mX6_measure 1 (.istore_n 3) 1 := by unfold dc_at; decide +kernel
theorem dX6_measure_2 : dc_at mX6_measure 2 (.iload_n 3) 1 := by unfold dc_at; decide +kernel
theorem dX6_measure_3 : dc_at mX6_measure 3 (.iload_n 2) 1 := by unfold dc_at; decide +kernel
theorem dX6_measure_4 : dc_at mX6_measure 4 (.if_icmp .ge 75) 3 := by unfold dc_at; decide +kernel
theorem dX6_measure_7 : dc_at mX6_measure 7 (.iconst 0) 1 := by unfold dc_at; decide +kernel
theorem dX6_measure_8 : dc_at mX6_measure 8 (.istore 4) 2 := by unfold dc_at; decide +kernel
theorem dX6_measure_10 : dc_at mX6_measure 10 (.iload 4) 2 := by unfold dc_at; decide +kernel
theorem dX6_measure_12 : dc_at mX6_measure 12 (.iload_n 2) 1 := by unfold dc_at; decide +kernel
theorem dX6_measure_13 : dc_at mX6_measure 13 (.if_icmp .ge 60) 3 := by unfold dc_at; decide +kernel
theorem dX6_measure_16 : dc_at mX6_measure 16 (.iload_n 3) 1 := by unfold dc_at; decide +kernel
theorem dX6_measure_17 : dc_at mX6_measure 17 (.iload 4) 2 := by unfold dc_at; decide +kernel
theorem dX6_measure_19 : dc_at mX6_measure 19 (.invokestatic 16) 3 := by unfold dc_at; decide +kernel
theorem dX6_measure_22 : dc_at mX6_measure 22 (.istore 5) 2 := by unfold dc_at; decide +kernel
theorem dX6_measure_24 : dc_at mX6_measure 24 (.aload_n 1) 1 := by unfold dc_at; decide +kernel
theorem dX6_measure_25 : dc_at mX6_measure 25 (.iload_n 3) 1 := by unfold dc_at; decide +kernel
theorem dX6_measure_26 : dc_at mX6_measure 26 (.iload 4) 2 := by unfold dc_at; decide +kernel
theorem dX6_measure_28 : dc_at mX6_measure 28 (.invokevirtual 20) 3 := by unfold dc_at; decide +kernel
theorem dX6_measure_31 : dc_at mX6_measure 31 (.ifCond .eq 13) 3 := by unfold dc_at; decide +kernel
theorem dX6_measure_34 : dc_at mX6_measure 34 (.aload_n 1) 1 := by unfold dc_at; decide +kernel
theorem dX6_measure_35 : dc_at mX6_measure 35 (.getfield 26) 3 := by unfold dc_at; decide +kernel
theorem dX6_measure_38 : dc_at mX6_measure 38 (.iload 5) 2 := by unfold dc_at; decide +kernel
theorem dX6_measure_40 : dc_at mX6_measure 40 (.iaload) 1 := by unfold dc_at; decide +kernel
theorem dX6_measure_41 : dc_at mX6_measure 41 (.goto 5) 3 := by unfold dc_at; decide +kernel
theorem dX6_measure_44 : dc_at mX6_measure 44 (.ldc 15) 2 := by unfold dc_at; decide +kernel
theorem dX6_measure_46 : dc_at mX6_measure 46 (.istore 6) 2 := by unfold dc_at; decide +kernel
theorem dX6_measure_48 : dc_at mX6_measure 48 (.aload_n 0) 1 := by unfold dc_at; decide +kernel
theorem dX6_measure_49 : dc_at mX6_measure 49 (.getfield 9) 3 := by unfold dc_at; decide +kernel
theorem dX6_measure_52 : dc_at mX6_measure 52 (.iload 5) 2 := by unfold dc_at; decide +kernel
theorem dX6_measure_54 : dc_at mX6_measure 54 (.iload_n 3) 1 := by unfold dc_at; decide +kernel
theorem dX6_measure_55 : dc_at mX6_measure 55 (.iload 4) 2 := by unfold dc_at; decide +kernel
theorem dX6_measure_57 : dc_at mX6_measure 57 (.if_icmp .ne 7) 3 := by unfold dc_at; decide +kernel
theorem dX6_measure_60 : dc_at mX6_measure 60 (.iconst 0) 1 := by unfold dc_at; decide +kernel
theorem dX6_measure_61 : dc_at mX6_measure 61 (.goto 5) 3 := by unfold dc_at; decide +kernel
theorem dX6_measure_64 : dc_at mX6_measure 64 (.iload 6) 2 := by unfold dc_at; decide +kernel
theorem dX6_measure_66 : dc_at mX6_measure 66 (.iastore) 1 := by unfold dc_at; decide +kernel
theorem dX6_measure_67 : dc_at mX6_measure 67 (.iinc 4 1) 3 := by unfold dc_at; decide +kernel
theorem dX6_measure_70 : dc_at mX6_measure 70 (.goto (-60)) 3 := by unfold dc_at; decide +kernel
theorem dX6_measure_73 : dc_at mX6_measure 73 (.iinc 3 1) 3 := by unfold dc_at; decide +kernel
theorem dX6_measure_76 : dc_at mX6_measure 76 (.goto (-74)) 3 := by unfold dc_at; decide +kernel
theorem dX6_measure_79 : dc_at mX6_measure 79 (.iconst 0) 1 := by unfold dc_at; decide +kernel
theorem dX6_measure_80 : dc_at mX6_measure 80 (.istore_n 3) 1 := by unfold dc_at; decide +kernel
theorem dX6_measure_81 : dc_at mX6_measure 81 (.iload_n 3) 1 := by unfold dc_at; decide +kernel
theorem dX6_measure_82 : dc_at mX6_measure 82 (.iload_n 2) 1 := by unfold dc_at; decide +kernel
theorem dX6_measure_83 : dc_at mX6_measure 83 (.if_icmp .ge 15) 3 := by unfold dc_at; decide +kernel
theorem dX6_measure_86 : dc_at mX6_measure 86 (.aload_n 0) 1 := by unfold dc_at; decide +kernel
theorem dX6_measure_87 : dc_at mX6_measure 87 (.iload_n 3) 1 := by unfold dc_at; decide +kernel
theorem dX6_measure_88 : dc_at mX6_measure 88 (.iload_n 2) 1 := by unfold dc_at; decide +kernel
theorem dX6_measure_89 : dc_at mX6_measure 89 (.invokevirtual 29) 3 := by unfold dc_at; decide +kernel
theorem dX6_measure_92 : dc_at mX6_measure 92 (.iinc 3 1) 3 := by unfold dc_at; decide +kernel
theorem dX6_measure_95 : dc_at mX6_measure 95 (.goto (-14)) 3 := by unfold dc_at; decide +kernel
theorem dX6_measure_98 : dc_at mX6_measure 98 (.return_) 1 := by unfold dc_at; decide +kernel
theorem dX6_shorten_0 : dc_at mX6_shorten 0 (.iconst 0) 1 := by unfold dc_at; decide +kernel
theorem dX6_shorten_1 : dc_at mX6_shorten 1 (.istore_n 3) 1 := by unfold dc_at; decide +kernel
theorem dX6_shorten_2 : dc_at mX6_shorten 2 (.iload_n 3) 1 := by unfold dc_at; decide +kernel
theorem dX6_shorten_3 : dc_at mX6_shorten 3 (.iload_n 2) 1 := by unfold dc_at; decide +kernel
theorem dX6_shorten_4 : dc_at mX6_shorten 4 (.if_icmp .ge 75) 3 := by unfold dc_at; decide +kernel
theorem dX6_shorten_7 : dc_at mX6_shorten 7 (.iconst 0) 1 := by unfold dc_at; decide +kernel
theorem dX6_shorten_8 : dc_at mX6_shorten 8 (.istore 4) 2 := by unfold dc_at; decide +kernel
theorem dX6_shorten_10 : dc_at mX6_shorten 10 (.iload 4) 2 := by unfold dc_at; decide +kernel
theorem dX6_shorten_12 : dc_at mX6_shorten 12 (.iload_n 2) 1 := by unfold dc_at; decide +kernel
theorem dX6_shorten_13 : dc_at mX6_shorten 13 (.if_icmp .ge 60) 3 := by unfold dc_at; decide +kernel
theorem dX6_shorten_16 : dc_at mX6_shorten 16 (.aload_n 0) 1 := by unfold dc_at; decide +kernel
theorem dX6_shorten_17 : dc_at mX6_shorten 17 (.getfield 9) 3 := by unfold dc_at; decide +kernel
theorem dX6_shorten_20 : dc_at mX6_shorten 20 (.iload_n 3) 1 := by unfold dc_at; decide +kernel
theorem dX6_shorten_21 : dc_at mX6_shorten 21 (.iload_n 1) 1 := by unfold dc_at; decide +kernel
theorem dX6_shorten_22 : dc_at mX6_shorten 22 (.invokestatic 16) 3 := by unfold dc_at; decide +kernel
theorem dX6_shorten_25 : dc_at mX6_shorten 25 (.iaload) 1 := by unfold dc_at; decide +kernel
theorem dX6_shorten_26 : dc_at mX6_shorten 26 (.aload_n 0) 1 := by unfold dc_at; decide +kernel
theorem dX6_shorten_27 : dc_at mX6_shorten 27 (.getfield 9) 3 := by unfold dc_at; decide +kernel
theorem dX6_shorten_30 : dc_at mX6_shorten 30 (.iload_n 1) 1 := by unfold dc_at; decide +kernel
theorem dX6_shorten_31 : dc_at mX6_shorten 31 (.iload 4) 2 := by unfold dc_at; decide +kernel
theorem dX6_shorten_33 : dc_at mX6_shorten 33 (.invokestatic 16) 3 := by unfold dc_at; decide +kernel
theorem dX6_shorten_36 : dc_at mX6_shorten 36 (.iaload) 1 := by unfold dc_at; decide +kernel
theorem dX6_shorten_37 : dc_at mX6_shorten 37 (.iadd) 1 := by unfold dc_at; decide +kernel
theorem dX6_shorten_38 : dc_at mX6_shorten 38 (.istore 5) 2 := by unfold dc_at; decide +kernel
theorem dX6_shorten_40 : dc_at mX6_shorten 40 (.aload_n 0) 1 := by unfold dc_at; decide +kernel
theorem dX6_shorten_41 : dc_at mX6_shorten 41 (.getfield 9) 3 := by unfold dc_at; decide +kernel
theorem dX6_shorten_44 : dc_at mX6_shorten 44 (.iload_n 3) 1 := by unfold dc_at; decide +kernel
theorem dX6_shorten_45 : dc_at mX6_shorten 45 (.iload 4) 2 := by unfold dc_at; decide +kernel
theorem dX6_shorten_47 : dc_at mX6_shorten 47 (.invokestatic 16) 3 := by unfold dc_at; decide +kernel
theorem dX6_shorten_50 : dc_at mX6_shorten 50 (.aload_n 0) 1 := by unfold dc_at; decide +kernel
theorem dX6_shorten_51 : dc_at mX6_shorten 51 (.getfield 9) 3 := by unfold dc_at; decide +kernel
theorem dX6_shorten_54 : dc_at mX6_shorten 54 (.iload_n 3) 1 := by unfold dc_at; decide +kernel
theorem dX6_shorten_55 : dc_at mX6_shorten 55 (.iload 4) 2 := by unfold dc_at; decide +kernel
theorem dX6_shorten_57 : dc_at mX6_shorten 57 (.invokestatic 16) 3 := by unfold dc_at; decide +kernel
theorem dX6_shorten_60 : dc_at mX6_shorten 60 (.iaload) 1 := by unfold dc_at; decide +kernel
theorem dX6_shorten_61 : dc_at mX6_shorten 61 (.iload 5) 2 := by unfold dc_at; decide +kernel
theorem dX6_shorten_63 : dc_at mX6_shorten 63 (.invokestatic 33) 3 := by unfold dc_at; decide +kernel
theorem dX6_shorten_66 : dc_at mX6_shorten 66 (.iastore) 1 := by unfold dc_at; decide +kernel
theorem dX6_shorten_67 : dc_at mX6_shorten 67 (.iinc 4 1) 3 := by unfold dc_at; decide +kernel
theorem dX6_shorten_70 : dc_at mX6_shorten 70 (.goto (-60)) 3 := by unfold dc_at; decide +kernel
theorem dX6_shorten_73 : dc_at mX6_shorten 73 (.iinc 3 1) 3 := by unfold dc_at; decide +kernel
theorem dX6_shorten_76 : dc_at mX6_shorten 76 (.goto (-74)) 3 := by unfold dc_at; decide +kernel
theorem dX6_shorten_79 : dc_at mX6_shorten 79 (.return_) 1 := by unfold dc_at; decide +kernel
theorem dX6_countPairs_0 : dc_at mX6_countPairs 0 (.iconst 0) 1 := by unfold dc_at; decide +kernel
theorem dX6_countPairs_1 : dc_at mX6_countPairs 1 (.istore_n 2) 1 := by unfold dc_at; decide +kernel
theorem dX6_countPairs_2 : dc_at mX6_countPairs 2 (.iconst 0) 1 := by unfold dc_at; decide +kernel
theorem dX6_countPairs_3 : dc_at mX6_countPairs 3 (.istore_n 3) 1 := by unfold dc_at; decide +kernel
theorem dX6_countPairs_4 : dc_at mX6_countPairs 4 (.iload_n 3) 1 := by unfold dc_at; decide +kernel
theorem dX6_countPairs_5 : dc_at mX6_countPairs 5 (.iload_n 1) 1 := by unfold dc_at; decide +kernel
theorem dX6_countPairs_6 : dc_at mX6_countPairs 6 (.if_icmp .ge 46) 3 := by unfold dc_at; decide +kernel
theorem dX6_countPairs_9 : dc_at mX6_countPairs 9 (.iconst 0) 1 := by unfold dc_at; decide +kernel
theorem dX6_countPairs_10 : dc_at mX6_countPairs 10 (.istore 4) 2 := by unfold dc_at; decide +kernel
theorem dX6_countPairs_12 : dc_at mX6_countPairs 12 (.iload 4) 2 := by unfold dc_at; decide +kernel
theorem dX6_countPairs_14 : dc_at mX6_countPairs 14 (.iload_n 1) 1 := by unfold dc_at; decide +kernel
theorem dX6_countPairs_15 : dc_at mX6_countPairs 15 (.if_icmp .ge 31) 3 := by unfold dc_at; decide +kernel
theorem dX6_countPairs_18 : dc_at mX6_countPairs 18 (.iload_n 3) 1 := by unfold dc_at; decide +kernel
theorem dX6_countPairs_19 : dc_at mX6_countPairs 19 (.iload 4) 2 := by unfold dc_at; decide +kernel
theorem dX6_countPairs_21 : dc_at mX6_countPairs 21 (.if_icmp .eq 19) 3 := by unfold dc_at; decide +kernel
theorem dX6_countPairs_24 : dc_at mX6_countPairs 24 (.aload_n 0) 1 := by unfold dc_at; decide +kernel
theorem dX6_countPairs_25 : dc_at mX6_countPairs 25 (.iload_n 3) 1 := by unfold dc_at; decide +kernel
theorem dX6_countPairs_26 : dc_at mX6_countPairs 26 (.iload 4) 2 := by unfold dc_at; decide +kernel
theorem dX6_countPairs_28 : dc_at mX6_countPairs 28 (.invokestatic 16) 3 := by unfold dc_at; decide +kernel
theorem dX6_countPairs_31 : dc_at mX6_countPairs 31 (.invokevirtual 38) 3 := by unfold dc_at; decide +kernel
theorem dX6_countPairs_34 : dc_at mX6_countPairs 34 (.ifCond .eq 6) 3 := by unfold dc_at; decide +kernel
theorem dX6_countPairs_37 : dc_at mX6_countPairs 37 (.iinc 2 1) 3 := by unfold dc_at; decide +kernel
theorem dX6_countPairs_40 : dc_at mX6_countPairs 40 (.iinc 4 1) 3 := by unfold dc_at; decide +kernel
theorem dX6_countPairs_43 : dc_at mX6_countPairs 43 (.goto (-31)) 3 := by unfold dc_at; decide +kernel
theorem dX6_countPairs_46 : dc_at mX6_countPairs 46 (.iinc 3 1) 3 := by unfold dc_at; decide +kernel
theorem dX6_countPairs_49 : dc_at mX6_countPairs 49 (.goto (-45)) 3 := by unfold dc_at; decide +kernel
theorem dX6_countPairs_52 : dc_at mX6_countPairs 52 (.iload_n 2) 1 := by unfold dc_at; decide +kernel
theorem dX6_countPairs_53 : dc_at mX6_countPairs 53 (.ireturn) 1 := by unfold dc_at; decide +kernel
theorem dJxf58ca_isNaN_12338_0 : dc_at mJxf58ca_isNaN_12338 0 (.fload_n 0) 1 := by unfold dc_at; decide +kernel
theorem dJxf58ca_isNaN_12338_1 : dc_at mJxf58ca_isNaN_12338 1 (.fload_n 0) 1 := by unfold dc_at; decide +kernel
theorem dJxf58ca_isNaN_12338_2 : dc_at mJxf58ca_isNaN_12338 2 (.fcmp .l) 1 := by unfold dc_at; decide +kernel
theorem dJxf58ca_isNaN_12338_3 : dc_at mJxf58ca_isNaN_12338 3 (.ifCond .eq 7) 3 := by unfold dc_at; decide +kernel
theorem dJxf58ca_isNaN_12338_6 : dc_at mJxf58ca_isNaN_12338 6 (.iconst 1) 1 := by unfold dc_at; decide +kernel
theorem dJxf58ca_isNaN_12338_7 : dc_at mJxf58ca_isNaN_12338 7 (.goto 4) 3 := by unfold dc_at; decide +kernel
theorem dJxf58ca_isNaN_12338_10 : dc_at mJxf58ca_isNaN_12338 10 (.iconst 0) 1 := by unfold dc_at; decide +kernel
theorem dJxf58ca_isNaN_12338_11 : dc_at mJxf58ca_isNaN_12338 11 (.ireturn) 1 := by unfold dc_at; decide +kernel
theorem dJxf58ca_floatToIntBits_5c35a_0 : dc_at mJxf58ca_floatToIntBits_5c35a 0 (.fload_n 0) 1 := by unfold dc_at; decide +kernel
theorem dJxf58ca_floatToIntBits_5c35a_1 : dc_at mJxf58ca_floatToIntBits_5c35a 1 (.invokestatic 59) 3 := by unfold dc_at; decide +kernel
theorem dJxf58ca_floatToIntBits_5c35a_4 : dc_at mJxf58ca_floatToIntBits_5c35a 4 (.ifCond .ne 8) 3 := by unfold dc_at; decide +kernel
theorem dJxf58ca_floatToIntBits_5c35a_7 : dc_at mJxf58ca_floatToIntBits_5c35a 7 (.fload_n 0) 1 := by unfold dc_at; decide +kernel
theorem dJxf58ca_floatToIntBits_5c35a_8 : dc_at mJxf58ca_floatToIntBits_5c35a 8 (.invokestatic 74) 3 := by unfold dc_at; decide +kernel
theorem dJxf58ca_floatToIntBits_5c35a_11 : dc_at mJxf58ca_floatToIntBits_5c35a 11 (.ireturn) 1 := by unfold dc_at; decide +kernel
theorem dJxf58ca_floatToIntBits_5c35a_12 : dc_at mJxf58ca_floatToIntBits_5c35a 12 (.ldc 77) 2 := by unfold dc_at; decide +kernel
theorem dJxf58ca_floatToIntBits_5c35a_14 : dc_at mJxf58ca_floatToIntBits_5c35a 14 (.ireturn) 1 := by unfold dc_at; decide +kernel
theorem dJ7_fill_53178_0 : dc_at mJ7_fill_53178 0 (.iconst 0) 1 := by unfold dc_at; decide +kernel
theorem dJ7_fill_53178_1 : dc_at mJ7_fill_53178 1 (.istore_n 2) 1 := by unfold dc_at; decide +kernel
theorem dJ7_fill_53178_2 : dc_at mJ7_fill_53178 2 (.aload_n 0) 1 := by unfold dc_at; decide +kernel
theorem dJ7_fill_53178_3 : dc_at mJ7_fill_53178 3 (.arraylength) 1 := by unfold dc_at; decide +kernel
theorem dJ7_fill_53178_4 : dc_at mJ7_fill_53178 4 (.istore_n 3) 1 := by unfold dc_at; decide +kernel
theorem dJ7_fill_53178_5 : dc_at mJ7_fill_53178 5 (.iload_n 2) 1 := by unfold dc_at; decide +kernel
theorem dJ7_fill_53178_6 : dc_at mJ7_fill_53178 6 (.iload_n 3) 1 := by unfold dc_at; decide +kernel
theorem dJ7_fill_53178_7 : dc_at mJ7_fill_53178 7 (.if_icmp .ge 13) 3 := by unfold dc_at; decide +kernel
theorem dJ7_fill_53178_10 : dc_at mJ7_fill_53178 10 (.aload_n 0) 1 := by unfold dc_at; decide +kernel
theorem dJ7_fill_53178_11 : dc_at mJ7_fill_53178 11 (.iload_n 2) 1 := by unfold dc_at; decide +kernel
theorem dJ7_fill_53178_12 : dc_at mJ7_fill_53178 12 (.iload_n 1) 1 := by unfold dc_at; decide +kernel
theorem dJ7_fill_53178_13 : dc_at mJ7_fill_53178 13 (.iastore) 1 := by unfold dc_at; decide +kernel
theorem dJ7_fill_53178_14 : dc_at mJ7_fill_53178 14 (.iinc 2 1) 3 := by unfold dc_at; decide +kernel
theorem dJ7_fill_53178_17 : dc_at mJ7_fill_53178 17 (.goto (-12)) 3 := by unfold dc_at; decide +kernel
theorem dJ7_fill_53178_20 : dc_at mJ7_fill_53178 20 (.return_) 1 := by unfold dc_at; decide +kernel
end
section
/-! decode rows: printed by wip/whole/names.py -/
theorem dX7_init_0 : dc_at mX7_init 0 (.aload_n 0) 1 := by unfold dc_at; decide +kernel
theorem dX7_init_1 : dc_at mX7_init 1 (.invokespecial 3) 3 := by unfold dc_at; decide +kernel
theorem dX7_init_4 : dc_at mX7_init 4 (.aload_n 0) 1 := by unfold dc_at; decide +kernel
theorem dX7_init_5 : dc_at mX7_init 5 (.getstatic 9) 3 := by unfold dc_at; decide +kernel
theorem dX7_init_8 : dc_at mX7_init 8 (.invokevirtual 13) 3 := by unfold dc_at; decide +kernel
theorem dX7_init_11 : dc_at mX7_init 11 (.checkcast 14) 3 := by unfold dc_at; decide +kernel
theorem dX7_init_14 : dc_at mX7_init 14 (.putfield 18) 3 := by unfold dc_at; decide +kernel
theorem dX7_init_17 : dc_at mX7_init 17 (.aload_n 0) 1 := by unfold dc_at; decide +kernel
theorem dX7_init_18 : dc_at mX7_init 18 (.new 21) 3 := by unfold dc_at; decide +kernel
theorem dX7_init_21 : dc_at mX7_init 21 (.dup) 1 := by unfold dc_at; decide +kernel
theorem dX7_init_22 : dc_at mX7_init 22 (.invokespecial 23) 3 := by unfold dc_at; decide +kernel
theorem dX7_init_25 : dc_at mX7_init 25 (.putfield 24) 3 := by unfold dc_at; decide +kernel
theorem dX7_init_28 : dc_at mX7_init 28 (.aload_n 0) 1 := by unfold dc_at; decide +kernel
theorem dX7_init_29 : dc_at mX7_init 29 (.new 21) 3 := by unfold dc_at; decide +kernel
theorem dX7_init_32 : dc_at mX7_init 32 (.dup) 1 := by unfold dc_at; decide +kernel
theorem dX7_init_33 : dc_at mX7_init 33 (.invokespecial 23) 3 := by unfold dc_at; decide +kernel
theorem dX7_init_36 : dc_at mX7_init 36 (.putfield 28) 3 := by unfold dc_at; decide +kernel
theorem dX7_init_39 : dc_at mX7_init 39 (.aload_n 0) 1 := by unfold dc_at; decide +kernel
theorem dX7_init_40 : dc_at mX7_init 40 (.new 21) 3 := by unfold dc_at; decide +kernel
theorem dX7_init_43 : dc_at mX7_init 43 (.dup) 1 := by unfold dc_at; decide +kernel
theorem dX7_init_44 : dc_at mX7_init 44 (.invokespecial 23) 3 := by unfold dc_at; decide +kernel
theorem dX7_init_47 : dc_at mX7_init 47 (.putfield 31) 3 := by unfold dc_at; decide +kernel
theorem dX7_init_50 : dc_at mX7_init 50 (.aload_n 0) 1 := by unfold dc_at; decide +kernel
theorem dX7_init_51 : dc_at mX7_init 51 (.new 34) 3 := by unfold dc_at; decide +kernel
theorem dX7_init_54 : dc_at mX7_init 54 (.dup) 1 := by unfold dc_at; decide +kernel
theorem dX7_init_55 : dc_at mX7_init 55 (.invokespecial 36) 3 := by unfold dc_at; decide +kernel
theorem dX7_init_58 : dc_at mX7_init 58 (.putfield 37) 3 := by unfold dc_at; decide +kernel
theorem dX7_init_61 : dc_at mX7_init 61 (.aload_n 0) 1 := by unfold dc_at; decide +kernel
theorem dX7_init_62 : dc_at mX7_init 62 (.new 41) 3 := by unfold dc_at; decide +kernel
theorem dX7_init_65 : dc_at mX7_init 65 (.dup) 1 := by unfold dc_at; decide +kernel
theorem dX7_init_66 : dc_at mX7_init 66 (.invokespecial 43) 3 := by unfold dc_at; decide +kernel
theorem dX7_init_69 : dc_at mX7_init 69 (.putfield 44) 3 := by unfold dc_at; decide +kernel
theorem dX7_init_72 : dc_at mX7_init 72 (.aload_n 0) 1 := by unfold dc_at; decide +kernel
theorem dX7_init_73 : dc_at mX7_init 73 (.bipush 8) 2 := by unfold dc_at; decide +kernel
theorem dX7_init_75 : dc_at mX7_init 75 (.newarray .boolean) 2 := by unfold dc_at; decide +kernel
theorem dX7_init_77 : dc_at mX7_init 77 (.putfield 48) 3 := by unfold dc_at; decide +kernel
theorem dX7_init_80 : dc_at mX7_init 80 (.aload_n 0) 1 := by unfold dc_at; decide +kernel
theorem dX7_init_81 : dc_at mX7_init 81 (.iconst 0) 1 := by unfold dc_at; decide +kernel
theorem dX7_init_82 : dc_at mX7_init 82 (.putfield 52) 3 := by unfold dc_at; decide +kernel
theorem dX7_init_85 : dc_at mX7_init 85 (.aload_n 0) 1 := by unfold dc_at; decide +kernel
theorem dX7_init_86 : dc_at mX7_init 86 (.getfield 24) 3 := by unfold dc_at; decide +kernel
theorem dX7_init_89 : dc_at mX7_init 89 (.iconst 4) 1 := by unfold dc_at; decide +kernel
theorem dX7_init_90 : dc_at mX7_init 90 (.invokevirtual 56) 3 := by unfold dc_at; decide +kernel
theorem dX7_init_93 : dc_at mX7_init 93 (.return_) 1 := by unfold dc_at; decide +kernel
theorem dX7_reset_0 : dc_at mX7_reset 0 (.iload_n 1) 1 := by unfold dc_at; decide +kernel
theorem dX7_reset_1 : dc_at mX7_reset 1 (.iconst 2) 1 := by unfold dc_at; decide +kernel
theorem dX7_reset_2 : dc_at mX7_reset 2 (.if_icmp .lt 9) 3 := by unfold dc_at; decide +kernel
theorem dX7_reset_5 : dc_at mX7_reset 5 (.iload_n 1) 1 := by unfold dc_at; decide +kernel
theorem dX7_reset_6 : dc_at mX7_reset 6 (.bipush 8) 2 := by unfold dc_at; decide +kernel
theorem dX7_reset_8 : dc_at mX7_reset 8 (.if_icmp .le 5) 3 := by unfold dc_at; decide +kernel
theorem dX7_reset_11 : dc_at mX7_reset 11 (.iconst (-1)) 1 := by unfold dc_at; decide +kernel
theorem dX7_reset_12 : dc_at mX7_reset 12 (.ireturn) 1 := by unfold dc_at; decide +kernel
theorem dX7_reset_13 : dc_at mX7_reset 13 (.aload_n 0) 1 := by unfold dc_at; decide +kernel
theorem dX7_reset_14 : dc_at mX7_reset 14 (.getfield 24) 3 := by unfold dc_at; decide +kernel
theorem dX7_reset_17 : dc_at mX7_reset 17 (.getfield 60) 3 := by unfold dc_at; decide +kernel
theorem dX7_reset_20 : dc_at mX7_reset 20 (.istore_n 2) 1 := by unfold dc_at; decide +kernel
theorem dX7_reset_21 : dc_at mX7_reset 21 (.aload_n 0) 1 := by unfold dc_at; decide +kernel
theorem dX7_reset_22 : dc_at mX7_reset 22 (.getfield 24) 3 := by unfold dc_at; decide +kernel
theorem dX7_reset_25 : dc_at mX7_reset 25 (.iload_n 1) 1 := by unfold dc_at; decide +kernel
theorem dX7_reset_26 : dc_at mX7_reset 26 (.invokevirtual 56) 3 := by unfold dc_at; decide +kernel
theorem dX7_reset_29 : dc_at mX7_reset 29 (.aload_n 0) 1 := by unfold dc_at; decide +kernel
theorem dX7_reset_30 : dc_at mX7_reset 30 (.iconst 0) 1 := by unfold dc_at; decide +kernel
theorem dX7_reset_31 : dc_at mX7_reset 31 (.putfield 52) 3 := by unfold dc_at; decide +kernel
theorem dX7_reset_34 : dc_at mX7_reset 34 (.iload_n 2) 1 := by unfold dc_at; decide +kernel
theorem dX7_reset_35 : dc_at mX7_reset 35 (.ireturn) 1 := by unfold dc_at; decide +kernel
theorem dX7_addLink_0 : dc_at mX7_addLink 0 (.aload_n 0) 1 := by unfold dc_at; decide +kernel
theorem dX7_addLink_1 : dc_at mX7_addLink 1 (.iload_n 1) 1 := by unfold dc_at; decide +kernel
theorem dX7_addLink_2 : dc_at mX7_addLink 2 (.iload_n 2) 1 := by unfold dc_at; decide +kernel
theorem dX7_addLink_3 : dc_at mX7_addLink 3 (.invokevirtual 64) 3 := by unfold dc_at; decide +kernel
theorem dX7_addLink_6 : dc_at mX7_addLink 6 (.ifCond .eq 22) 3 := by unfold dc_at; decide +kernel
theorem dX7_addLink_9 : dc_at mX7_addLink 9 (.iload_n 3) 1 := by unfold dc_at; decide +kernel
theorem dX7_addLink_10 : dc_at mX7_addLink 10 (.iconst 1) 1 := by unfold dc_at; decide +kernel
theorem dX7_addLink_11 : dc_at mX7_addLink 11 (.if_icmp .lt 17) 3 := by unfold dc_at; decide +kernel
theorem dX7_addLink_14 : dc_at mX7_addLink 14 (.iload 4) 2 := by unfold dc_at; decide +kernel
theorem dX7_addLink_16 : dc_at mX7_addLink 16 (.iload_n 3) 1 := by unfold dc_at; decide +kernel
theorem dX7_addLink_17 : dc_at mX7_addLink 17 (.if_icmp .lt 11) 3 := by unfold dc_at; decide +kernel
theorem dX7_addLink_20 : dc_at mX7_addLink 20 (.iload 4) 2 := by unfold dc_at; decide +kernel
theorem dX7_addLink_22 : dc_at mX7_addLink 22 (.sipush 500) 3 := by unfold dc_at; decide +kernel
theorem dX7_addLink_25 : dc_at mX7_addLink 25 (.if_icmp .le 5) 3 := by unfold dc_at; decide +kernel
theorem dX7_addLink_28 : dc_at mX7_addLink 28 (.iconst (-1)) 1 := by unfold dc_at; decide +kernel
theorem dX7_addLink_29 : dc_at mX7_addLink 29 (.ireturn) 1 := by unfold dc_at; decide +kernel
theorem dX7_addLink_30 : dc_at mX7_addLink 30 (.aload_n 0) 1 := by unfold dc_at; decide +kernel
theorem dX7_addLink_31 : dc_at mX7_addLink 31 (.getfield 24) 3 := by unfold dc_at; decide +kernel
theorem dX7_addLink_34 : dc_at mX7_addLink 34 (.getfield 68) 3 := by unfold dc_at; decide +kernel
theorem dX7_addLink_37 : dc_at mX7_addLink 37 (.iload_n 1) 1 := by unfold dc_at; decide +kernel
theorem dX7_addLink_38 : dc_at mX7_addLink 38 (.iload_n 2) 1 := by unfold dc_at; decide +kernel
theorem dX7_addLink_39 : dc_at mX7_addLink 39 (.invokevirtual 72) 3 := by unfold dc_at; decide +kernel
theorem dX7_addLink_42 : dc_at mX7_addLink 42 (.ifCond .eq 6) 3 := by unfold dc_at; decide +kernel
theorem dX7_addLink_45 : dc_at mX7_addLink 45 (.bipush (-2)) 2 := by unfold dc_at; decide +kernel
theorem dX7_addLink_47 : dc_at mX7_addLink 47 (.ireturn) 1 := by unfold dc_at; decide +kernel
theorem dX7_addLink_48 : dc_at mX7_addLink 48 (.aload_n 0) 1 := by unfold dc_at; decide +kernel
theorem dX7_addLink_49 : dc_at mX7_addLink 49 (.getfield 24) 3 := by unfold dc_at; decide +kernel
theorem dX7_addLink_52 : dc_at mX7_addLink 52 (.getfield 68) 3 := by unfold dc_at; decide +kernel
theorem dX7_addLink_55 : dc_at mX7_addLink 55 (.getfield 77) 3 := by unfold dc_at; decide +kernel
theorem dX7_addLink_58 : dc_at mX7_addLink 58 (.bipush 16) 2 := by unfold dc_at; decide +kernel
theorem dX7_addLink_60 : dc_at mX7_addLink 60 (.if_icmp .lt 6) 3 := by unfold dc_at; decide +kernel
theorem dX7_addLink_63 : dc_at mX7_addLink 63 (.bipush (-3)) 2 := by unfold dc_at; decide +kernel
theorem dX7_addLink_65 : dc_at mX7_addLink 65 (.ireturn) 1 := by unfold dc_at; decide +kernel
theorem dX7_addLink_66 : dc_at mX7_addLink 66 (.aload_n 0) 1 := by unfold dc_at; decide +kernel
theorem dX7_addLink_67 : dc_at mX7_addLink 67 (.getfield 24) 3 := by unfold dc_at; decide +kernel
theorem dX7_addLink_70 : dc_at mX7_addLink 70 (.getfield 68) 3 := by unfold dc_at; decide +kernel
theorem dX7_addLink_73 : dc_at mX7_addLink 73 (.iload_n 1) 1 := by unfold dc_at; decide +kernel
theorem dX7_addLink_74 : dc_at mX7_addLink 74 (.iload_n 2) 1 := by unfold dc_at; decide +kernel
theorem dX7_addLink_75 : dc_at mX7_addLink 75 (.iload_n 3) 1 := by unfold dc_at; decide +kernel
theorem dX7_addLink_76 : dc_at mX7_addLink 76 (.iload 4) 2 := by unfold dc_at; decide +kernel
theorem dX7_addLink_78 : dc_at mX7_addLink 78 (.invokevirtual 80) 3 := by unfold dc_at; decide +kernel
theorem dX7_addLink_81 : dc_at mX7_addLink 81 (.aload_n 0) 1 := by unfold dc_at; decide +kernel
theorem dX7_addLink_82 : dc_at mX7_addLink 82 (.getfield 24) 3 := by unfold dc_at; decide +kernel
theorem dX7_addLink_85 : dc_at mX7_addLink 85 (.getfield 68) 3 := by unfold dc_at; decide +kernel
theorem dX7_addLink_88 : dc_at mX7_addLink 88 (.getfield 77) 3 := by unfold dc_at; decide +kernel
theorem dX7_addLink_91 : dc_at mX7_addLink 91 (.ireturn) 1 := by unfold dc_at; decide +kernel
theorem dX7_removeLink_0 : dc_at mX7_removeLink 0 (.aload_n 0) 1 := by unfold dc_at; decide +kernel
theorem dX7_removeLink_1 : dc_at mX7_removeLink 1 (.iload_n 1) 1 := by unfold dc_at; decide +kernel
theorem dX7_removeLink_2 : dc_at mX7_removeLink 2 (.iload_n 2) 1 := by unfold dc_at; decide +kernel
theorem dX7_removeLink_3 : dc_at mX7_removeLink 3 (.invokevirtual 64) 3 := by unfold dc_at; decide +kernel
theorem dX7_removeLink_6 : dc_at mX7_removeLink 6 (.ifCond .ne 5) 3 := by unfold dc_at; decide +kernel
theorem dX7_removeLink_9 : dc_at mX7_removeLink 9 (.iconst (-1)) 1 := by unfold dc_at; decide +kernel
theorem dX7_removeLink_10 : dc_at mX7_removeLink 10 (.ireturn) 1 := by unfold dc_at; decide +kernel
theorem dX7_removeLink_11 : dc_at mX7_removeLink 11 (.aload_n 0) 1 := by unfold dc_at; decide +kernel
theorem dX7_removeLink_12 : dc_at mX7_removeLink 12 (.getfield 24) 3 := by unfold dc_at; decide +kernel
theorem dX7_removeLink_15 : dc_at mX7_removeLink 15 (.getfield 68) 3 := by unfold dc_at; decide +kernel
theorem dX7_removeLink_18 : dc_at mX7_removeLink 18 (.iload_n 1) 1 := by unfold dc_at; decide +kernel
theorem dX7_removeLink_19 : dc_at mX7_removeLink 19 (.iload_n 2) 1 := by unfold dc_at; decide +kernel
theorem dX7_removeLink_20 : dc_at mX7_removeLink 20 (.invokevirtual 72) 3 := by unfold dc_at; decide +kernel
theorem dX7_removeLink_23 : dc_at mX7_removeLink 23 (.ifCond .ne 6) 3 := by unfold dc_at; decide +kernel
theorem dX7_removeLink_26 : dc_at mX7_removeLink 26 (.bipush (-4)) 2 := by unfold dc_at; decide +kernel
theorem dX7_removeLink_28 : dc_at mX7_removeLink 28 (.ireturn) 1 := by unfold dc_at; decide +kernel
theorem dX7_removeLink_29 : dc_at mX7_removeLink 29 (.aload_n 0) 1 := by unfold dc_at; decide +kernel
theorem dX7_removeLink_30 : dc_at mX7_removeLink 30 (.getfield 24) 3 := by unfold dc_at; decide +kernel
theorem dX7_removeLink_33 : dc_at mX7_removeLink 33 (.getfield 68) 3 := by unfold dc_at; decide +kernel
theorem dX7_removeLink_36 : dc_at mX7_removeLink 36 (.iload_n 1) 1 := by unfold dc_at; decide +kernel
theorem dX7_removeLink_37 : dc_at mX7_removeLink 37 (.iload_n 2) 1 := by unfold dc_at; decide +kernel
theorem dX7_removeLink_38 : dc_at mX7_removeLink 38 (.invokevirtual 84) 3 := by unfold dc_at; decide +kernel
theorem dX7_removeLink_41 : dc_at mX7_removeLink 41 (.aload_n 0) 1 := by unfold dc_at; decide +kernel
theorem dX7_removeLink_42 : dc_at mX7_removeLink 42 (.getfield 24) 3 := by unfold dc_at; decide +kernel
theorem dX7_removeLink_45 : dc_at mX7_removeLink 45 (.getfield 68) 3 := by unfold dc_at; decide +kernel
theorem dX7_removeLink_48 : dc_at mX7_removeLink 48 (.getfield 77) 3 := by unfold dc_at; decide +kernel
theorem dX7_removeLink_51 : dc_at mX7_removeLink 51 (.ireturn) 1 := by unfold dc_at; decide +kernel
theorem dX7_setCost_0 : dc_at mX7_setCost 0 (.aload_n 0) 1 := by unfold dc_at; decide +kernel
theorem dX7_setCost_1 : dc_at mX7_setCost 1 (.iload_n 1) 1 := by unfold dc_at; decide +kernel
theorem dX7_setCost_2 : dc_at mX7_setCost 2 (.iload_n 2) 1 := by unfold dc_at; decide +kernel
theorem dX7_setCost_3 : dc_at mX7_setCost 3 (.invokevirtual 64) 3 := by unfold dc_at; decide +kernel
theorem dX7_setCost_6 : dc_at mX7_setCost 6 (.ifCond .eq 15) 3 := by unfold dc_at; decide +kernel
theorem dX7_setCost_9 : dc_at mX7_setCost 9 (.iload_n 3) 1 := by unfold dc_at; decide +kernel
theorem dX7_setCost_10 : dc_at mX7_setCost 10 (.iconst 1) 1 := by unfold dc_at; decide +kernel
theorem dX7_setCost_11 : dc_at mX7_setCost 11 (.if_icmp .lt 10) 3 := by unfold dc_at; decide +kernel
theorem dX7_setCost_14 : dc_at mX7_setCost 14 (.iload_n 3) 1 := by unfold dc_at; decide +kernel
theorem dX7_setCost_15 : dc_at mX7_setCost 15 (.sipush 500) 3 := by unfold dc_at; decide +kernel
theorem dX7_setCost_18 : dc_at mX7_setCost 18 (.if_icmp .le 5) 3 := by unfold dc_at; decide +kernel
theorem dX7_setCost_21 : dc_at mX7_setCost 21 (.iconst (-1)) 1 := by unfold dc_at; decide +kernel
theorem dX7_setCost_22 : dc_at mX7_setCost 22 (.ireturn) 1 := by unfold dc_at; decide +kernel
theorem dX7_setCost_23 : dc_at mX7_setCost 23 (.aload_n 0) 1 := by unfold dc_at; decide +kernel
theorem dX7_setCost_24 : dc_at mX7_setCost 24 (.getfield 24) 3 := by unfold dc_at; decide +kernel
theorem dX7_setCost_27 : dc_at mX7_setCost 27 (.getfield 68) 3 := by unfold dc_at; decide +kernel
theorem dX7_setCost_30 : dc_at mX7_setCost 30 (.iload_n 1) 1 := by unfold dc_at; decide +kernel
theorem dX7_setCost_31 : dc_at mX7_setCost 31 (.iload_n 2) 1 := by unfold dc_at; decide +kernel
theorem dX7_setCost_32 : dc_at mX7_setCost 32 (.invokevirtual 72) 3 := by unfold dc_at; decide +kernel
theorem dX7_setCost_35 : dc_at mX7_setCost 35 (.ifCond .ne 6) 3 := by unfold dc_at; decide +kernel
theorem dX7_setCost_38 : dc_at mX7_setCost 38 (.bipush (-4)) 2 := by unfold dc_at; decide +kernel
theorem dX7_setCost_40 : dc_at mX7_setCost 40 (.ireturn) 1 := by unfold dc_at; decide +kernel
theorem dX7_setCost_41 : dc_at mX7_setCost 41 (.iload_n 1) 1 := by unfold dc_at; decide +kernel
theorem dX7_setCost_42 : dc_at mX7_setCost 42 (.iload_n 2) 1 := by unfold dc_at; decide +kernel
theorem dX7_setCost_43 : dc_at mX7_setCost 43 (.invokestatic 88) 3 := by unfold dc_at; decide +kernel
theorem dX7_setCost_46 : dc_at mX7_setCost 46 (.istore 4) 2 := by unfold dc_at; decide +kernel
theorem dX7_setCost_48 : dc_at mX7_setCost 48 (.iload_n 3) 1 := by unfold dc_at; decide +kernel
theorem dX7_setCost_49 : dc_at mX7_setCost 49 (.aload_n 0) 1 := by unfold dc_at; decide +kernel
theorem dX7_setCost_50 : dc_at mX7_setCost 50 (.getfield 24) 3 := by unfold dc_at; decide +kernel
theorem dX7_setCost_53 : dc_at mX7_setCost 53 (.getfield 68) 3 := by unfold dc_at; decide +kernel
theorem dX7_setCost_56 : dc_at mX7_setCost 56 (.getfield 92) 3 := by unfold dc_at; decide +kernel
theorem dX7_setCost_59 : dc_at mX7_setCost 59 (.iload 4) 2 := by unfold dc_at; decide +kernel
theorem dX7_setCost_61 : dc_at mX7_setCost 61 (.iaload) 1 := by unfold dc_at; decide +kernel
theorem dX7_setCost_62 : dc_at mX7_setCost 62 (.if_icmp .lt 20) 3 := by unfold dc_at; decide +kernel
theorem dX7_setCost_65 : dc_at mX7_setCost 65 (.iload_n 3) 1 := by unfold dc_at; decide +kernel
theorem dX7_setCost_66 : dc_at mX7_setCost 66 (.aload_n 0) 1 := by unfold dc_at; decide +kernel
theorem dX7_setCost_67 : dc_at mX7_setCost 67 (.getfield 24) 3 := by unfold dc_at; decide +kernel
theorem dX7_setCost_70 : dc_at mX7_setCost 70 (.getfield 68) 3 := by unfold dc_at; decide +kernel
theorem dX7_setCost_73 : dc_at mX7_setCost 73 (.getfield 95) 3 := by unfold dc_at; decide +kernel
theorem dX7_setCost_76 : dc_at mX7_setCost 76 (.iload 4) 2 := by unfold dc_at; decide +kernel
theorem dX7_setCost_78 : dc_at mX7_setCost 78 (.iaload) 1 := by unfold dc_at; decide +kernel
theorem dX7_setCost_79 : dc_at mX7_setCost 79 (.if_icmp .le 6) 3 := by unfold dc_at; decide +kernel
theorem dX7_setCost_82 : dc_at mX7_setCost 82 (.bipush (-2)) 2 := by unfold dc_at; decide +kernel
theorem dX7_setCost_84 : dc_at mX7_setCost 84 (.ireturn) 1 := by unfold dc_at; decide +kernel
theorem dX7_setCost_85 : dc_at mX7_setCost 85 (.aload_n 0) 1 := by unfold dc_at; decide +kernel
theorem dX7_setCost_86 : dc_at mX7_setCost 86 (.getfield 24) 3 := by unfold dc_at; decide +kernel
theorem dX7_setCost_89 : dc_at mX7_setCost 89 (.getfield 68) 3 := by unfold dc_at; decide +kernel
theorem dX7_setCost_92 : dc_at mX7_setCost 92 (.getfield 98) 3 := by unfold dc_at; decide +kernel
theorem dX7_setCost_95 : dc_at mX7_setCost 95 (.iload 4) 2 := by unfold dc_at; decide +kernel
theorem dX7_setCost_97 : dc_at mX7_setCost 97 (.iaload) 1 := by unfold dc_at; decide +kernel
theorem dX7_setCost_98 : dc_at mX7_setCost 98 (.istore 5) 2 := by unfold dc_at; decide +kernel
theorem dX7_setCost_100 : dc_at mX7_setCost 100 (.aload_n 0) 1 := by unfold dc_at; decide +kernel
theorem dX7_setCost_101 : dc_at mX7_setCost 101 (.getfield 24) 3 := by unfold dc_at; decide +kernel
theorem dX7_setCost_104 : dc_at mX7_setCost 104 (.getfield 68) 3 := by unfold dc_at; decide +kernel
theorem dX7_setCost_107 : dc_at mX7_setCost 107 (.iload_n 1) 1 := by unfold dc_at; decide +kernel
theorem dX7_setCost_108 : dc_at mX7_setCost 108 (.iload_n 2) 1 := by unfold dc_at; decide +kernel
theorem dX7_setCost_109 : dc_at mX7_setCost 109 (.iload_n 3) 1 := by unfold dc_at; decide +kernel
theorem dX7_setCost_110 : dc_at mX7_setCost 110 (.invokevirtual 101) 3 := by unfold dc_at; decide +kernel
theorem dX7_setCost_113 : dc_at mX7_setCost 113 (.iload 5) 2 := by unfold dc_at; decide +kernel
theorem dX7_setCost_115 : dc_at mX7_setCost 115 (.ireturn) 1 := by unfold dc_at; decide +kernel
theorem dX7_setUp_0 : dc_at mX7_setUp 0 (.aload_n 0) 1 := by unfold dc_at; decide +kernel
theorem dX7_setUp_1 : dc_at mX7_setUp 1 (.iload_n 1) 1 := by unfold dc_at; decide +kernel
theorem dX7_setUp_2 : dc_at mX7_setUp 2 (.iload_n 2) 1 := by unfold dc_at; decide +kernel
theorem dX7_setUp_3 : dc_at mX7_setUp 3 (.invokevirtual 64) 3 := by unfold dc_at; decide +kernel
theorem dX7_setUp_6 : dc_at mX7_setUp 6 (.ifCond .eq 12) 3 := by unfold dc_at; decide +kernel
theorem dX7_setUp_9 : dc_at mX7_setUp 9 (.iload_n 3) 1 := by unfold dc_at; decide +kernel
theorem dX7_setUp_10 : dc_at mX7_setUp 10 (.iconst 0) 1 := by unfold dc_at; decide +kernel
theorem dX7_setUp_11 : dc_at mX7_setUp 11 (.iconst 1) 1 := by unfold dc_at; decide +kernel
theorem dX7_setUp_12 : dc_at mX7_setUp 12 (.invokestatic 105) 3 := by unfold dc_at; decide +kernel
theorem dX7_setUp_15 : dc_at mX7_setUp 15 (.ifCond .ne 5) 3 := by unfold dc_at; decide +kernel
theorem dX7_setUp_18 : dc_at mX7_setUp 18 (.iconst (-1)) 1 := by unfold dc_at; decide +kernel
theorem dX7_setUp_19 : dc_at mX7_setUp 19 (.ireturn) 1 := by unfold dc_at; decide +kernel
theorem dX7_setUp_20 : dc_at mX7_setUp 20 (.aload_n 0) 1 := by unfold dc_at; decide +kernel
theorem dX7_setUp_21 : dc_at mX7_setUp 21 (.getfield 24) 3 := by unfold dc_at; decide +kernel
theorem dX7_setUp_24 : dc_at mX7_setUp 24 (.getfield 68) 3 := by unfold dc_at; decide +kernel
theorem dX7_setUp_27 : dc_at mX7_setUp 27 (.iload_n 1) 1 := by unfold dc_at; decide +kernel
theorem dX7_setUp_28 : dc_at mX7_setUp 28 (.iload_n 2) 1 := by unfold dc_at; decide +kernel
theorem dX7_setUp_29 : dc_at mX7_setUp 29 (.invokevirtual 72) 3 := by unfold dc_at; decide +kernel
theorem dX7_setUp_32 : dc_at mX7_setUp 32 (.ifCond .ne 6) 3 := by unfold dc_at; decide +kernel
theorem dX7_setUp_35 : dc_at mX7_setUp 35 (.bipush (-4)) 2 := by unfold dc_at; decide +kernel
theorem dX7_setUp_37 : dc_at mX7_setUp 37 (.ireturn) 1 := by unfold dc_at; decide +kernel
theorem dX7_setUp_38 : dc_at mX7_setUp 38 (.aload_n 0) 1 := by unfold dc_at; decide +kernel
theorem dX7_setUp_39 : dc_at mX7_setUp 39 (.getfield 24) 3 := by unfold dc_at; decide +kernel
theorem dX7_setUp_42 : dc_at mX7_setUp 42 (.getfield 68) 3 := by unfold dc_at; decide +kernel
theorem dX7_setUp_45 : dc_at mX7_setUp 45 (.getfield 109) 3 := by unfold dc_at; decide +kernel
theorem dX7_setUp_48 : dc_at mX7_setUp 48 (.iload_n 1) 1 := by unfold dc_at; decide +kernel
theorem dX7_setUp_49 : dc_at mX7_setUp 49 (.iload_n 2) 1 := by unfold dc_at; decide +kernel
theorem dX7_setUp_50 : dc_at mX7_setUp 50 (.invokestatic 88) 3 := by unfold dc_at; decide +kernel
theorem dX7_setUp_53 : dc_at mX7_setUp 53 (.iaload) 1 := by unfold dc_at; decide +kernel
theorem dX7_setUp_54 : dc_at mX7_setUp 54 (.istore 4) 2 := by unfold dc_at; decide +kernel
theorem dX7_setUp_56 : dc_at mX7_setUp 56 (.aload_n 0) 1 := by unfold dc_at; decide +kernel
theorem dX7_setUp_57 : dc_at mX7_setUp 57 (.getfield 24) 3 := by unfold dc_at; decide +kernel
theorem dX7_setUp_60 : dc_at mX7_setUp 60 (.getfield 68) 3 := by unfold dc_at; decide +kernel
theorem dX7_setUp_63 : dc_at mX7_setUp 63 (.iload_n 1) 1 := by unfold dc_at; decide +kernel
theorem dX7_setUp_64 : dc_at mX7_setUp 64 (.iload_n 2) 1 := by unfold dc_at; decide +kernel
theorem dX7_setUp_65 : dc_at mX7_setUp 65 (.iload_n 3) 1 := by unfold dc_at; decide +kernel
theorem dX7_setUp_66 : dc_at mX7_setUp 66 (.invokevirtual 112) 3 := by unfold dc_at; decide +kernel
theorem dX7_setUp_69 : dc_at mX7_setUp 69 (.iload 4) 2 := by unfold dc_at; decide +kernel
theorem dX7_setUp_71 : dc_at mX7_setUp 71 (.ireturn) 1 := by unfold dc_at; decide +kernel
theorem dX7_link_0 : dc_at mX7_link 0 (.aload_n 0) 1 := by unfold dc_at; decide +kernel
theorem dX7_link_1 : dc_at mX7_link 1 (.iload_n 1) 1 := by unfold dc_at; decide +kernel
theorem dX7_link_2 : dc_at mX7_link 2 (.iload_n 2) 1 := by unfold dc_at; decide +kernel
theorem dX7_link_3 : dc_at mX7_link 3 (.invokevirtual 64) 3 := by unfold dc_at; decide +kernel
theorem dX7_link_6 : dc_at mX7_link 6 (.ifCond .eq 12) 3 := by unfold dc_at; decide +kernel
theorem dX7_link_9 : dc_at mX7_link 9 (.iload_n 3) 1 := by unfold dc_at; decide +kernel
theorem dX7_link_10 : dc_at mX7_link 10 (.iconst 0) 1 := by unfold dc_at; decide +kernel
theorem dX7_link_11 : dc_at mX7_link 11 (.iconst 3) 1 := by unfold dc_at; decide +kernel
theorem dX7_link_12 : dc_at mX7_link 12 (.invokestatic 105) 3 := by unfold dc_at; decide +kernel
theorem dX7_link_15 : dc_at mX7_link 15 (.ifCond .ne 5) 3 := by unfold dc_at; decide +kernel
theorem dX7_link_18 : dc_at mX7_link 18 (.iconst (-1)) 1 := by unfold dc_at; decide +kernel
theorem dX7_link_19 : dc_at mX7_link 19 (.ireturn) 1 := by unfold dc_at; decide +kernel
theorem dX7_link_20 : dc_at mX7_link 20 (.aload_n 0) 1 := by unfold dc_at; decide +kernel
theorem dX7_link_21 : dc_at mX7_link 21 (.getfield 24) 3 := by unfold dc_at; decide +kernel
theorem dX7_link_24 : dc_at mX7_link 24 (.getfield 68) 3 := by unfold dc_at; decide +kernel
theorem dX7_link_27 : dc_at mX7_link 27 (.iload_n 1) 1 := by unfold dc_at; decide +kernel
theorem dX7_link_28 : dc_at mX7_link 28 (.iload_n 2) 1 := by unfold dc_at; decide +kernel
theorem dX7_link_29 : dc_at mX7_link 29 (.invokevirtual 72) 3 := by unfold dc_at; decide +kernel
theorem dX7_link_32 : dc_at mX7_link 32 (.ifCond .ne 6) 3 := by unfold dc_at; decide +kernel
theorem dX7_link_35 : dc_at mX7_link 35 (.bipush (-4)) 2 := by unfold dc_at; decide +kernel
theorem dX7_link_37 : dc_at mX7_link 37 (.ireturn) 1 := by unfold dc_at; decide +kernel
theorem dX7_link_38 : dc_at mX7_link 38 (.iload_n 1) 1 := by unfold dc_at; decide +kernel
theorem dX7_link_39 : dc_at mX7_link 39 (.iload_n 2) 1 := by unfold dc_at; decide +kernel
theorem dX7_link_40 : dc_at mX7_link 40 (.invokestatic 88) 3 := by unfold dc_at; decide +kernel
theorem dX7_link_43 : dc_at mX7_link 43 (.istore 4) 2 := by unfold dc_at; decide +kernel
theorem dX7_link_45 : dc_at mX7_link 45 (.iload_n 3) 1 := by unfold dc_at; decide +kernel
theorem dX7_link_46 : dc_at mX7_link 46 (.tableswitch 68 0 2 #[26, 40, 54]) 26 := by unfold dc_at; decide +kernel
theorem dX7_link_72 : dc_at mX7_link 72 (.aload_n 0) 1 := by unfold dc_at; decide +kernel
theorem dX7_link_73 : dc_at mX7_link 73 (.getfield 24) 3 := by unfold dc_at; decide +kernel
theorem dX7_link_76 : dc_at mX7_link 76 (.getfield 68) 3 := by unfold dc_at; decide +kernel
theorem dX7_link_79 : dc_at mX7_link 79 (.getfield 92) 3 := by unfold dc_at; decide +kernel
theorem dX7_link_82 : dc_at mX7_link 82 (.iload 4) 2 := by unfold dc_at; decide +kernel
theorem dX7_link_84 : dc_at mX7_link 84 (.iaload) 1 := by unfold dc_at; decide +kernel
theorem dX7_link_85 : dc_at mX7_link 85 (.ireturn) 1 := by unfold dc_at; decide +kernel
theorem dX7_link_86 : dc_at mX7_link 86 (.aload_n 0) 1 := by unfold dc_at; decide +kernel
theorem dX7_link_87 : dc_at mX7_link 87 (.getfield 24) 3 := by unfold dc_at; decide +kernel
theorem dX7_link_90 : dc_at mX7_link 90 (.getfield 68) 3 := by unfold dc_at; decide +kernel
theorem dX7_link_93 : dc_at mX7_link 93 (.getfield 95) 3 := by unfold dc_at; decide +kernel
theorem dX7_link_96 : dc_at mX7_link 96 (.iload 4) 2 := by unfold dc_at; decide +kernel
theorem dX7_link_98 : dc_at mX7_link 98 (.iaload) 1 := by unfold dc_at; decide +kernel
theorem dX7_link_99 : dc_at mX7_link 99 (.ireturn) 1 := by unfold dc_at; decide +kernel
theorem dX7_link_100 : dc_at mX7_link 100 (.aload_n 0) 1 := by unfold dc_at; decide +kernel
theorem dX7_link_101 : dc_at mX7_link 101 (.getfield 24) 3 := by unfold dc_at; decide +kernel
theorem dX7_link_104 : dc_at mX7_link 104 (.getfield 68) 3 := by unfold dc_at; decide +kernel
theorem dX7_link_107 : dc_at mX7_link 107 (.getfield 98) 3 := by unfold dc_at; decide +kernel
theorem dX7_link_110 : dc_at mX7_link 110 (.iload 4) 2 := by unfold dc_at; decide +kernel
theorem dX7_link_112 : dc_at mX7_link 112 (.iaload) 1 := by unfold dc_at; decide +kernel
theorem dX7_link_113 : dc_at mX7_link 113 (.ireturn) 1 := by unfold dc_at; decide +kernel
theorem dX7_link_114 : dc_at mX7_link 114 (.aload_n 0) 1 := by unfold dc_at; decide +kernel
theorem dX7_link_115 : dc_at mX7_link 115 (.getfield 24) 3 := by unfold dc_at; decide +kernel
theorem dX7_link_118 : dc_at mX7_link 118 (.getfield 68) 3 := by unfold dc_at; decide +kernel
theorem dX7_link_121 : dc_at mX7_link 121 (.getfield 109) 3 := by unfold dc_at; decide +kernel
theorem dX7_link_124 : dc_at mX7_link 124 (.iload 4) 2 := by unfold dc_at; decide +kernel
theorem dX7_link_126 : dc_at mX7_link 126 (.iaload) 1 := by unfold dc_at; decide +kernel
theorem dX7_link_127 : dc_at mX7_link 127 (.ireturn) 1 := by unfold dc_at; decide +kernel
theorem dX7_set_0 : dc_at mX7_set 0 (.iload_n 1) 1 := by unfold dc_at; decide +kernel
theorem dX7_set_1 : dc_at mX7_set 1 (.invokestatic 115) 3 := by unfold dc_at; decide +kernel
theorem dX7_set_4 : dc_at mX7_set 4 (.ifCond .eq 20) 3 := by unfold dc_at; decide +kernel
theorem dX7_set_7 : dc_at mX7_set 7 (.iload_n 2) 1 := by unfold dc_at; decide +kernel
theorem dX7_set_8 : dc_at mX7_set 8 (.getstatic 119) 3 := by unfold dc_at; decide +kernel
theorem dX7_set_11 : dc_at mX7_set 11 (.iload_n 1) 1 := by unfold dc_at; decide +kernel
theorem dX7_set_12 : dc_at mX7_set 12 (.iaload) 1 := by unfold dc_at; decide +kernel
theorem dX7_set_13 : dc_at mX7_set 13 (.getstatic 122) 3 := by unfold dc_at; decide +kernel
theorem dX7_set_16 : dc_at mX7_set 16 (.iload_n 1) 1 := by unfold dc_at; decide +kernel
theorem dX7_set_17 : dc_at mX7_set 17 (.iaload) 1 := by unfold dc_at; decide +kernel
theorem dX7_set_18 : dc_at mX7_set 18 (.invokestatic 105) 3 := by unfold dc_at; decide +kernel
theorem dX7_set_21 : dc_at mX7_set 21 (.ifCond .ne 5) 3 := by unfold dc_at; decide +kernel
theorem dX7_set_24 : dc_at mX7_set 24 (.iconst (-1)) 1 := by unfold dc_at; decide +kernel
theorem dX7_set_25 : dc_at mX7_set 25 (.ireturn) 1 := by unfold dc_at; decide +kernel
theorem dX7_set_26 : dc_at mX7_set 26 (.aload_n 0) 1 := by unfold dc_at; decide +kernel
theorem dX7_set_27 : dc_at mX7_set 27 (.getfield 18) 3 := by unfold dc_at; decide +kernel
theorem dX7_set_30 : dc_at mX7_set 30 (.iload_n 1) 1 := by unfold dc_at; decide +kernel
theorem dX7_set_31 : dc_at mX7_set 31 (.iaload) 1 := by unfold dc_at; decide +kernel
theorem dX7_set_32 : dc_at mX7_set 32 (.istore_n 3) 1 := by unfold dc_at; decide +kernel
theorem dX7_set_33 : dc_at mX7_set 33 (.aload_n 0) 1 := by unfold dc_at; decide +kernel
theorem dX7_set_34 : dc_at mX7_set 34 (.getfield 18) 3 := by unfold dc_at; decide +kernel
theorem dX7_set_37 : dc_at mX7_set 37 (.iload_n 1) 1 := by unfold dc_at; decide +kernel
theorem dX7_set_38 : dc_at mX7_set 38 (.iload_n 2) 1 := by unfold dc_at; decide +kernel
theorem dX7_set_39 : dc_at mX7_set 39 (.iastore) 1 := by unfold dc_at; decide +kernel
theorem dX7_set_40 : dc_at mX7_set 40 (.iload_n 3) 1 := by unfold dc_at; decide +kernel
theorem dX7_set_41 : dc_at mX7_set 41 (.ireturn) 1 := by unfold dc_at; decide +kernel
theorem dX7_run_0 : dc_at mX7_run 0 (.iload_n 1) 1 := by unfold dc_at; decide +kernel
theorem dX7_run_1 : dc_at mX7_run 1 (.iconst 1) 1 := by unfold dc_at; decide +kernel
theorem dX7_run_2 : dc_at mX7_run 2 (.sipush 200) 3 := by unfold dc_at; decide +kernel
theorem dX7_run_5 : dc_at mX7_run 5 (.invokestatic 105) 3 := by unfold dc_at; decide +kernel
theorem dX7_run_8 : dc_at mX7_run 8 (.ifCond .ne 5) 3 := by unfold dc_at; decide +kernel
theorem dX7_run_11 : dc_at mX7_run 11 (.iconst (-1)) 1 := by unfold dc_at; decide +kernel
theorem dX7_run_12 : dc_at mX7_run 12 (.ireturn) 1 := by unfold dc_at; decide +kernel
theorem dX7_run_13 : dc_at mX7_run 13 (.aload_n 0) 1 := by unfold dc_at; decide +kernel
theorem dX7_run_14 : dc_at mX7_run 14 (.getfield 24) 3 := by unfold dc_at; decide +kernel
theorem dX7_run_17 : dc_at mX7_run 17 (.getfield 125) 3 := by unfold dc_at; decide +kernel
theorem dX7_run_20 : dc_at mX7_run 20 (.iload_n 1) 1 := by unfold dc_at; decide +kernel
theorem dX7_run_21 : dc_at mX7_run 21 (.iadd) 1 := by unfold dc_at; decide +kernel
theorem dX7_run_22 : dc_at mX7_run 22 (.ldc 128) 2 := by unfold dc_at; decide +kernel
theorem dX7_run_24 : dc_at mX7_run 24 (.if_icmp .le 6) 3 := by unfold dc_at; decide +kernel
theorem dX7_run_27 : dc_at mX7_run 27 (.bipush (-3)) 2 := by unfold dc_at; decide +kernel
theorem dX7_run_29 : dc_at mX7_run 29 (.ireturn) 1 := by unfold dc_at; decide +kernel
theorem dX7_run_30 : dc_at mX7_run 30 (.iconst 0) 1 := by unfold dc_at; decide +kernel
theorem dX7_run_31 : dc_at mX7_run 31 (.istore_n 2) 1 := by unfold dc_at; decide +kernel
theorem dX7_run_32 : dc_at mX7_run 32 (.iload_n 2) 1 := by unfold dc_at; decide +kernel
theorem dX7_run_33 : dc_at mX7_run 33 (.iload_n 1) 1 := by unfold dc_at; decide +kernel
theorem dX7_run_34 : dc_at mX7_run 34 (.if_icmp .ge 18) 3 := by unfold dc_at; decide +kernel
theorem dX7_run_37 : dc_at mX7_run 37 (.aload_n 0) 1 := by unfold dc_at; decide +kernel
theorem dX7_run_38 : dc_at mX7_run 38 (.aload_n 0) 1 := by unfold dc_at; decide +kernel
theorem dX7_run_39 : dc_at mX7_run 39 (.getfield 24) 3 := by unfold dc_at; decide +kernel
theorem dX7_run_42 : dc_at mX7_run 42 (.invokevirtual 129) 3 := by unfold dc_at; decide +kernel
theorem dX7_run_45 : dc_at mX7_run 45 (.pop) 1 := by unfold dc_at; decide +kernel
theorem dX7_run_46 : dc_at mX7_run 46 (.iinc 2 1) 3 := by unfold dc_at; decide +kernel
theorem dX7_run_49 : dc_at mX7_run 49 (.goto (-17)) 3 := by unfold dc_at; decide +kernel
theorem dX7_run_52 : dc_at mX7_run 52 (.aload_n 0) 1 := by unfold dc_at; decide +kernel
theorem dX7_run_53 : dc_at mX7_run 53 (.getfield 24) 3 := by unfold dc_at; decide +kernel
theorem dX7_run_56 : dc_at mX7_run 56 (.getfield 125) 3 := by unfold dc_at; decide +kernel
theorem dX7_run_59 : dc_at mX7_run 59 (.ireturn) 1 := by unfold dc_at; decide +kernel
theorem dX7_time_0 : dc_at mX7_time 0 (.aload_n 0) 1 := by unfold dc_at; decide +kernel
theorem dX7_time_1 : dc_at mX7_time 1 (.getfield 24) 3 := by unfold dc_at; decide +kernel
theorem dX7_time_4 : dc_at mX7_time 4 (.getfield 125) 3 := by unfold dc_at; decide +kernel
theorem dX7_time_7 : dc_at mX7_time 7 (.ireturn) 1 := by unfold dc_at; decide +kernel
theorem dX7_sent_0 : dc_at mX7_sent 0 (.aload_n 0) 1 := by unfold dc_at; decide +kernel
theorem dX7_sent_1 : dc_at mX7_sent 1 (.getfield 24) 3 := by unfold dc_at; decide +kernel
theorem dX7_sent_4 : dc_at mX7_sent 4 (.getfield 133) 3 := by unfold dc_at; decide +kernel
theorem dX7_sent_7 : dc_at mX7_sent 7 (.ireturn) 1 := by unfold dc_at; decide +kernel
theorem dX7_entry_0 : dc_at mX7_entry 0 (.aload_n 0) 1 := by unfold dc_at; decide +kernel
theorem dX7_entry_1 : dc_at mX7_entry 1 (.iload_n 1) 1 := by unfold dc_at; decide +kernel
theorem dX7_entry_2 : dc_at mX7_entry 2 (.iload_n 2) 1 := by unfold dc_at; decide +kernel
theorem dX7_entry_3 : dc_at mX7_entry 3 (.invokevirtual 64) 3 := by unfold dc_at; decide +kernel
theorem dX7_entry_6 : dc_at mX7_entry 6 (.ifCond .eq 23) 3 := by unfold dc_at; decide +kernel
theorem dX7_entry_9 : dc_at mX7_entry 9 (.aload_n 0) 1 := by unfold dc_at; decide +kernel
theorem dX7_entry_10 : dc_at mX7_entry 10 (.iload_n 1) 1 := by unfold dc_at; decide +kernel
theorem dX7_entry_11 : dc_at mX7_entry 11 (.iload_n 3) 1 := by unfold dc_at; decide +kernel
theorem dX7_entry_12 : dc_at mX7_entry 12 (.invokevirtual 64) 3 := by unfold dc_at; decide +kernel
theorem dX7_entry_15 : dc_at mX7_entry 15 (.ifCond .eq 14) 3 := by unfold dc_at; decide +kernel
theorem dX7_entry_18 : dc_at mX7_entry 18 (.iload 4) 2 := by unfold dc_at; decide +kernel
theorem dX7_entry_20 : dc_at mX7_entry 20 (.iconst 0) 1 := by unfold dc_at; decide +kernel
theorem dX7_entry_21 : dc_at mX7_entry 21 (.bipush 6) 2 := by unfold dc_at; decide +kernel
theorem dX7_entry_23 : dc_at mX7_entry 23 (.invokestatic 105) 3 := by unfold dc_at; decide +kernel
theorem dX7_entry_26 : dc_at mX7_entry 26 (.ifCond .ne 5) 3 := by unfold dc_at; decide +kernel
theorem dX7_entry_29 : dc_at mX7_entry 29 (.iconst (-1)) 1 := by unfold dc_at; decide +kernel
theorem dX7_entry_30 : dc_at mX7_entry 30 (.ireturn) 1 := by unfold dc_at; decide +kernel
theorem dX7_entry_31 : dc_at mX7_entry 31 (.iload_n 1) 1 := by unfold dc_at; decide +kernel
theorem dX7_entry_32 : dc_at mX7_entry 32 (.iload_n 2) 1 := by unfold dc_at; decide +kernel
theorem dX7_entry_33 : dc_at mX7_entry 33 (.iload_n 3) 1 := by unfold dc_at; decide +kernel
theorem dX7_entry_34 : dc_at mX7_entry 34 (.invokestatic 136) 3 := by unfold dc_at; decide +kernel
theorem dX7_entry_37 : dc_at mX7_entry 37 (.istore 5) 2 := by unfold dc_at; decide +kernel
theorem dX7_entry_39 : dc_at mX7_entry 39 (.aload_n 0) 1 := by unfold dc_at; decide +kernel
theorem dX7_entry_40 : dc_at mX7_entry 40 (.getfield 24) 3 := by unfold dc_at; decide +kernel
theorem dX7_entry_43 : dc_at mX7_entry 43 (.getfield 140) 3 := by unfold dc_at; decide +kernel
theorem dX7_entry_46 : dc_at mX7_entry 46 (.iload 5) 2 := by unfold dc_at; decide +kernel
theorem dX7_entry_48 : dc_at mX7_entry 48 (.invokevirtual 144) 3 := by unfold dc_at; decide +kernel
theorem dX7_entry_51 : dc_at mX7_entry 51 (.ifCond .ne 6) 3 := by unfold dc_at; decide +kernel
theorem dX7_entry_54 : dc_at mX7_entry 54 (.bipush (-4)) 2 := by unfold dc_at; decide +kernel
theorem dX7_entry_56 : dc_at mX7_entry 56 (.ireturn) 1 := by unfold dc_at; decide +kernel
theorem dX7_entry_57 : dc_at mX7_entry 57 (.iload 4) 2 := by unfold dc_at; decide +kernel
theorem dX7_entry_59 : dc_at mX7_entry 59 (.tableswitch 128 0 5 #[37, 51, 65, 79, 93, 107]) 37 := by unfold dc_at; decide +kernel
theorem dX7_entry_96 : dc_at mX7_entry 96 (.aload_n 0) 1 := by unfold dc_at; decide +kernel
theorem dX7_entry_97 : dc_at mX7_entry 97 (.getfield 24) 3 := by unfold dc_at; decide +kernel
theorem dX7_entry_100 : dc_at mX7_entry 100 (.getfield 140) 3 := by unfold dc_at; decide +kernel
theorem dX7_entry_103 : dc_at mX7_entry 103 (.getfield 149) 3 := by unfold dc_at; decide +kernel
theorem dX7_entry_106 : dc_at mX7_entry 106 (.iload 5) 2 := by unfold dc_at; decide +kernel
theorem dX7_entry_108 : dc_at mX7_entry 108 (.iaload) 1 := by unfold dc_at; decide +kernel
theorem dX7_entry_109 : dc_at mX7_entry 109 (.ireturn) 1 := by unfold dc_at; decide +kernel
theorem dX7_entry_110 : dc_at mX7_entry 110 (.aload_n 0) 1 := by unfold dc_at; decide +kernel
theorem dX7_entry_111 : dc_at mX7_entry 111 (.getfield 24) 3 := by unfold dc_at; decide +kernel
theorem dX7_entry_114 : dc_at mX7_entry 114 (.getfield 140) 3 := by unfold dc_at; decide +kernel
theorem dX7_entry_117 : dc_at mX7_entry 117 (.getfield 150) 3 := by unfold dc_at; decide +kernel
theorem dX7_entry_120 : dc_at mX7_entry 120 (.iload 5) 2 := by unfold dc_at; decide +kernel
theorem dX7_entry_122 : dc_at mX7_entry 122 (.iaload) 1 := by unfold dc_at; decide +kernel
theorem dX7_entry_123 : dc_at mX7_entry 123 (.ireturn) 1 := by unfold dc_at; decide +kernel
theorem dX7_entry_124 : dc_at mX7_entry 124 (.aload_n 0) 1 := by unfold dc_at; decide +kernel
theorem dX7_entry_125 : dc_at mX7_entry 125 (.getfield 24) 3 := by unfold dc_at; decide +kernel
theorem dX7_entry_128 : dc_at mX7_entry 128 (.getfield 140) 3 := by unfold dc_at; decide +kernel
theorem dX7_entry_131 : dc_at mX7_entry 131 (.getfield 151) 3 := by unfold dc_at; decide +kernel
theorem dX7_entry_134 : dc_at mX7_entry 134 (.iload 5) 2 := by unfold dc_at; decide +kernel
theorem dX7_entry_136 : dc_at mX7_entry 136 (.iaload) 1 := by unfold dc_at; decide +kernel
theorem dX7_entry_137 : dc_at mX7_entry 137 (.ireturn) 1 := by unfold dc_at; decide +kernel
theorem dX7_entry_138 : dc_at mX7_entry 138 (.aload_n 0) 1 := by unfold dc_at; decide +kernel
theorem dX7_entry_139 : dc_at mX7_entry 139 (.getfield 24) 3 := by unfold dc_at; decide +kernel
theorem dX7_entry_142 : dc_at mX7_entry 142 (.getfield 140) 3 := by unfold dc_at; decide +kernel
theorem dX7_entry_145 : dc_at mX7_entry 145 (.getfield 154) 3 := by unfold dc_at; decide +kernel
theorem dX7_entry_148 : dc_at mX7_entry 148 (.iload 5) 2 := by unfold dc_at; decide +kernel
theorem dX7_entry_150 : dc_at mX7_entry 150 (.iaload) 1 := by unfold dc_at; decide +kernel
theorem dX7_entry_151 : dc_at mX7_entry 151 (.ireturn) 1 := by unfold dc_at; decide +kernel
theorem dX7_entry_152 : dc_at mX7_entry 152 (.aload_n 0) 1 := by unfold dc_at; decide +kernel
theorem dX7_entry_153 : dc_at mX7_entry 153 (.getfield 24) 3 := by unfold dc_at; decide +kernel
theorem dX7_entry_156 : dc_at mX7_entry 156 (.getfield 140) 3 := by unfold dc_at; decide +kernel
theorem dX7_entry_159 : dc_at mX7_entry 159 (.getfield 157) 3 := by unfold dc_at; decide +kernel
theorem dX7_entry_162 : dc_at mX7_entry 162 (.iload 5) 2 := by unfold dc_at; decide +kernel
theorem dX7_entry_164 : dc_at mX7_entry 164 (.iaload) 1 := by unfold dc_at; decide +kernel
theorem dX7_entry_165 : dc_at mX7_entry 165 (.ireturn) 1 := by unfold dc_at; decide +kernel
theorem dX7_entry_166 : dc_at mX7_entry 166 (.aload_n 0) 1 := by unfold dc_at; decide +kernel
theorem dX7_entry_167 : dc_at mX7_entry 167 (.getfield 24) 3 := by unfold dc_at; decide +kernel
theorem dX7_entry_170 : dc_at mX7_entry 170 (.iload_n 1) 1 := by unfold dc_at; decide +kernel
theorem dX7_entry_171 : dc_at mX7_entry 171 (.iload_n 2) 1 := by unfold dc_at; decide +kernel
theorem dX7_entry_172 : dc_at mX7_entry 172 (.iload_n 3) 1 := by unfold dc_at; decide +kernel
theorem dX7_entry_173 : dc_at mX7_entry 173 (.aload_n 0) 1 := by unfold dc_at; decide +kernel
theorem dX7_entry_174 : dc_at mX7_entry 174 (.getfield 18) 3 := by unfold dc_at; decide +kernel
theorem dX7_entry_177 : dc_at mX7_entry 177 (.bipush 6) 2 := by unfold dc_at; decide +kernel
theorem dX7_entry_179 : dc_at mX7_entry 179 (.iaload) 1 := by unfold dc_at; decide +kernel
theorem dX7_entry_180 : dc_at mX7_entry 180 (.invokevirtual 160) 3 := by unfold dc_at; decide +kernel
theorem dX7_entry_183 : dc_at mX7_entry 183 (.invokestatic 164) 3 := by unfold dc_at; decide +kernel
theorem dX7_entry_186 : dc_at mX7_entry 186 (.ireturn) 1 := by unfold dc_at; decide +kernel
theorem dX7_entry_187 : dc_at mX7_entry 187 (.aload_n 0) 1 := by unfold dc_at; decide +kernel
theorem dX7_entry_188 : dc_at mX7_entry 188 (.getfield 24) 3 := by unfold dc_at; decide +kernel
theorem dX7_entry_191 : dc_at mX7_entry 191 (.iload_n 1) 1 := by unfold dc_at; decide +kernel
theorem dX7_entry_192 : dc_at mX7_entry 192 (.iload_n 2) 1 := by unfold dc_at; decide +kernel
theorem dX7_entry_193 : dc_at mX7_entry 193 (.iload_n 3) 1 := by unfold dc_at; decide +kernel
theorem dX7_entry_194 : dc_at mX7_entry 194 (.aload_n 0) 1 := by unfold dc_at; decide +kernel
theorem dX7_entry_195 : dc_at mX7_entry 195 (.getfield 18) 3 := by unfold dc_at; decide +kernel
theorem dX7_entry_198 : dc_at mX7_entry 198 (.bipush 6) 2 := by unfold dc_at; decide +kernel
theorem dX7_entry_200 : dc_at mX7_entry 200 (.iaload) 1 := by unfold dc_at; decide +kernel
theorem dX7_entry_201 : dc_at mX7_entry 201 (.invokevirtual 168) 3 := by unfold dc_at; decide +kernel
theorem dX7_entry_204 : dc_at mX7_entry 204 (.invokestatic 164) 3 := by unfold dc_at; decide +kernel
theorem dX7_entry_207 : dc_at mX7_entry 207 (.ireturn) 1 := by unfold dc_at; decide +kernel
theorem dX7_distance_0 : dc_at mX7_distance 0 (.aload_n 0) 1 := by unfold dc_at; decide +kernel
theorem dX7_distance_1 : dc_at mX7_distance 1 (.iload_n 1) 1 := by unfold dc_at; decide +kernel
theorem dX7_distance_2 : dc_at mX7_distance 2 (.invokevirtual 171) 3 := by unfold dc_at; decide +kernel
theorem dX7_distance_5 : dc_at mX7_distance 5 (.ifCond .eq 20) 3 := by unfold dc_at; decide +kernel
theorem dX7_distance_8 : dc_at mX7_distance 8 (.aload_n 0) 1 := by unfold dc_at; decide +kernel
theorem dX7_distance_9 : dc_at mX7_distance 9 (.iload_n 2) 1 := by unfold dc_at; decide +kernel
theorem dX7_distance_10 : dc_at mX7_distance 10 (.invokevirtual 171) 3 := by unfold dc_at; decide +kernel
theorem dX7_distance_13 : dc_at mX7_distance 13 (.ifCond .eq 12) 3 := by unfold dc_at; decide +kernel
theorem dX7_distance_16 : dc_at mX7_distance 16 (.iload_n 3) 1 := by unfold dc_at; decide +kernel
theorem dX7_distance_17 : dc_at mX7_distance 17 (.iconst 0) 1 := by unfold dc_at; decide +kernel
theorem dX7_distance_18 : dc_at mX7_distance 18 (.iconst 1) 1 := by unfold dc_at; decide +kernel
theorem dX7_distance_19 : dc_at mX7_distance 19 (.invokestatic 105) 3 := by unfold dc_at; decide +kernel
theorem dX7_distance_22 : dc_at mX7_distance 22 (.ifCond .ne 5) 3 := by unfold dc_at; decide +kernel
theorem dX7_distance_25 : dc_at mX7_distance 25 (.iconst (-1)) 1 := by unfold dc_at; decide +kernel
theorem dX7_distance_26 : dc_at mX7_distance 26 (.ireturn) 1 := by unfold dc_at; decide +kernel
theorem dX7_distance_27 : dc_at mX7_distance 27 (.aload_n 0) 1 := by unfold dc_at; decide +kernel
theorem dX7_distance_28 : dc_at mX7_distance 28 (.getfield 37) 3 := by unfold dc_at; decide +kernel
theorem dX7_distance_31 : dc_at mX7_distance 31 (.aload_n 0) 1 := by unfold dc_at; decide +kernel
theorem dX7_distance_32 : dc_at mX7_distance 32 (.getfield 24) 3 := by unfold dc_at; decide +kernel
theorem dX7_distance_35 : dc_at mX7_distance 35 (.aload_n 0) 1 := by unfold dc_at; decide +kernel
theorem dX7_distance_36 : dc_at mX7_distance 36 (.getfield 18) 3 := by unfold dc_at; decide +kernel
theorem dX7_distance_39 : dc_at mX7_distance 39 (.iload_n 1) 1 := by unfold dc_at; decide +kernel
theorem dX7_distance_40 : dc_at mX7_distance 40 (.iload_n 2) 1 := by unfold dc_at; decide +kernel
theorem dX7_distance_41 : dc_at mX7_distance 41 (.invokevirtual 174) 3 := by unfold dc_at; decide +kernel
theorem dX7_distance_44 : dc_at mX7_distance 44 (.iload_n 1) 1 := by unfold dc_at; decide +kernel
theorem dX7_distance_45 : dc_at mX7_distance 45 (.iload_n 2) 1 := by unfold dc_at; decide +kernel
theorem dX7_distance_46 : dc_at mX7_distance 46 (.invokestatic 88) 3 := by unfold dc_at; decide +kernel
theorem dX7_distance_49 : dc_at mX7_distance 49 (.istore 4) 2 := by unfold dc_at; decide +kernel
theorem dX7_distance_51 : dc_at mX7_distance 51 (.aload_n 0) 1 := by unfold dc_at; decide +kernel
theorem dX7_distance_52 : dc_at mX7_distance 52 (.getfield 37) 3 := by unfold dc_at; decide +kernel
theorem dX7_distance_55 : dc_at mX7_distance 55 (.iload 4) 2 := by unfold dc_at; decide +kernel
theorem dX7_distance_57 : dc_at mX7_distance 57 (.invokevirtual 178) 3 := by unfold dc_at; decide +kernel
theorem dX7_distance_60 : dc_at mX7_distance 60 (.ifCond .ne 6) 3 := by unfold dc_at; decide +kernel
theorem dX7_distance_63 : dc_at mX7_distance 63 (.bipush (-4)) 2 := by unfold dc_at; decide +kernel
theorem dX7_distance_65 : dc_at mX7_distance 65 (.ireturn) 1 := by unfold dc_at; decide +kernel
theorem dX7_distance_66 : dc_at mX7_distance 66 (.iload_n 3) 1 := by unfold dc_at; decide +kernel
theorem dX7_distance_67 : dc_at mX7_distance 67 (.ifCond .ne 16) 3 := by unfold dc_at; decide +kernel
theorem dX7_distance_70 : dc_at mX7_distance 70 (.aload_n 0) 1 := by unfold dc_at; decide +kernel
theorem dX7_distance_71 : dc_at mX7_distance 71 (.getfield 37) 3 := by unfold dc_at; decide +kernel
theorem dX7_distance_74 : dc_at mX7_distance 74 (.getfield 181) 3 := by unfold dc_at; decide +kernel
theorem dX7_distance_77 : dc_at mX7_distance 77 (.iload 4) 2 := by unfold dc_at; decide +kernel
theorem dX7_distance_79 : dc_at mX7_distance 79 (.iaload) 1 := by unfold dc_at; decide +kernel
theorem dX7_distance_80 : dc_at mX7_distance 80 (.goto 13) 3 := by unfold dc_at; decide +kernel
theorem dX7_distance_83 : dc_at mX7_distance 83 (.aload_n 0) 1 := by unfold dc_at; decide +kernel
theorem dX7_distance_84 : dc_at mX7_distance 84 (.getfield 37) 3 := by unfold dc_at; decide +kernel
theorem dX7_distance_87 : dc_at mX7_distance 87 (.getfield 182) 3 := by unfold dc_at; decide +kernel
theorem dX7_distance_90 : dc_at mX7_distance 90 (.iload 4) 2 := by unfold dc_at; decide +kernel
theorem dX7_distance_92 : dc_at mX7_distance 92 (.iaload) 1 := by unfold dc_at; decide +kernel
theorem dX7_distance_93 : dc_at mX7_distance 93 (.ireturn) 1 := by unfold dc_at; decide +kernel
theorem dX7_choice_0 : dc_at mX7_choice 0 (.aload_n 0) 1 := by unfold dc_at; decide +kernel
theorem dX7_choice_1 : dc_at mX7_choice 1 (.iload_n 1) 1 := by unfold dc_at; decide +kernel
theorem dX7_choice_2 : dc_at mX7_choice 2 (.iload_n 2) 1 := by unfold dc_at; decide +kernel
theorem dX7_choice_3 : dc_at mX7_choice 3 (.invokevirtual 64) 3 := by unfold dc_at; decide +kernel
theorem dX7_choice_6 : dc_at mX7_choice 6 (.ifCond .ne 5) 3 := by unfold dc_at; decide +kernel
theorem dX7_choice_9 : dc_at mX7_choice 9 (.iconst (-1)) 1 := by unfold dc_at; decide +kernel
theorem dX7_choice_10 : dc_at mX7_choice 10 (.ireturn) 1 := by unfold dc_at; decide +kernel
theorem dX7_choice_11 : dc_at mX7_choice 11 (.aload_n 0) 1 := by unfold dc_at; decide +kernel
theorem dX7_choice_12 : dc_at mX7_choice 12 (.getfield 37) 3 := by unfold dc_at; decide +kernel
theorem dX7_choice_15 : dc_at mX7_choice 15 (.aload_n 0) 1 := by unfold dc_at; decide +kernel
theorem dX7_choice_16 : dc_at mX7_choice 16 (.getfield 24) 3 := by unfold dc_at; decide +kernel
theorem dX7_choice_19 : dc_at mX7_choice 19 (.aload_n 0) 1 := by unfold dc_at; decide +kernel
theorem dX7_choice_20 : dc_at mX7_choice 20 (.getfield 18) 3 := by unfold dc_at; decide +kernel
theorem dX7_choice_23 : dc_at mX7_choice 23 (.iload_n 1) 1 := by unfold dc_at; decide +kernel
theorem dX7_choice_24 : dc_at mX7_choice 24 (.iload_n 2) 1 := by unfold dc_at; decide +kernel
theorem dX7_choice_25 : dc_at mX7_choice 25 (.invokevirtual 174) 3 := by unfold dc_at; decide +kernel
theorem dX7_choice_28 : dc_at mX7_choice 28 (.aload_n 0) 1 := by unfold dc_at; decide +kernel
theorem dX7_choice_29 : dc_at mX7_choice 29 (.getfield 37) 3 := by unfold dc_at; decide +kernel
theorem dX7_choice_32 : dc_at mX7_choice 32 (.getfield 183) 3 := by unfold dc_at; decide +kernel
theorem dX7_choice_35 : dc_at mX7_choice 35 (.iload_n 1) 1 := by unfold dc_at; decide +kernel
theorem dX7_choice_36 : dc_at mX7_choice 36 (.iload_n 2) 1 := by unfold dc_at; decide +kernel
theorem dX7_choice_37 : dc_at mX7_choice 37 (.invokestatic 88) 3 := by unfold dc_at; decide +kernel
theorem dX7_choice_40 : dc_at mX7_choice 40 (.iaload) 1 := by unfold dc_at; decide +kernel
theorem dX7_choice_41 : dc_at mX7_choice 41 (.istore_n 3) 1 := by unfold dc_at; decide +kernel
theorem dX7_choice_42 : dc_at mX7_choice 42 (.iload_n 3) 1 := by unfold dc_at; decide +kernel
theorem dX7_choice_43 : dc_at mX7_choice 43 (.iconst (-1)) 1 := by unfold dc_at; decide +kernel
theorem dX7_choice_44 : dc_at mX7_choice 44 (.if_icmp .ne 8) 3 := by unfold dc_at; decide +kernel
theorem dX7_choice_47 : dc_at mX7_choice 47 (.bipush (-4)) 2 := by unfold dc_at; decide +kernel
theorem dX7_choice_49 : dc_at mX7_choice 49 (.goto 4) 3 := by unfold dc_at; decide +kernel
theorem dX7_choice_52 : dc_at mX7_choice 52 (.iload_n 3) 1 := by unfold dc_at; decide +kernel
theorem dX7_choice_53 : dc_at mX7_choice 53 (.ireturn) 1 := by unfold dc_at; decide +kernel
theorem dX7_entries_0 : dc_at mX7_entries 0 (.aload_n 0) 1 := by unfold dc_at; decide +kernel
theorem dX7_entries_1 : dc_at mX7_entries 1 (.iload_n 1) 1 := by unfold dc_at; decide +kernel
theorem dX7_entries_2 : dc_at mX7_entries 2 (.iload_n 2) 1 := by unfold dc_at; decide +kernel
theorem dX7_entries_3 : dc_at mX7_entries 3 (.invokevirtual 64) 3 := by unfold dc_at; decide +kernel
theorem dX7_entries_6 : dc_at mX7_entries 6 (.ifCond .eq 12) 3 := by unfold dc_at; decide +kernel
theorem dX7_entries_9 : dc_at mX7_entries 9 (.iload_n 3) 1 := by unfold dc_at; decide +kernel
theorem dX7_entries_10 : dc_at mX7_entries 10 (.iconst 0) 1 := by unfold dc_at; decide +kernel
theorem dX7_entries_11 : dc_at mX7_entries 11 (.iconst 3) 1 := by unfold dc_at; decide +kernel
theorem dX7_entries_12 : dc_at mX7_entries 12 (.invokestatic 105) 3 := by unfold dc_at; decide +kernel
theorem dX7_entries_15 : dc_at mX7_entries 15 (.ifCond .ne 5) 3 := by unfold dc_at; decide +kernel
theorem dX7_entries_18 : dc_at mX7_entries 18 (.iconst (-1)) 1 := by unfold dc_at; decide +kernel
theorem dX7_entries_19 : dc_at mX7_entries 19 (.ireturn) 1 := by unfold dc_at; decide +kernel
theorem dX7_entries_20 : dc_at mX7_entries 20 (.iconst 0) 1 := by unfold dc_at; decide +kernel
theorem dX7_entries_21 : dc_at mX7_entries 21 (.istore 4) 2 := by unfold dc_at; decide +kernel
theorem dX7_entries_23 : dc_at mX7_entries 23 (.iconst 0) 1 := by unfold dc_at; decide +kernel
theorem dX7_entries_24 : dc_at mX7_entries 24 (.istore 5) 2 := by unfold dc_at; decide +kernel
theorem dX7_entries_26 : dc_at mX7_entries 26 (.iload 5) 2 := by unfold dc_at; decide +kernel
theorem dX7_entries_28 : dc_at mX7_entries 28 (.aload_n 0) 1 := by unfold dc_at; decide +kernel
theorem dX7_entries_29 : dc_at mX7_entries 29 (.getfield 24) 3 := by unfold dc_at; decide +kernel
theorem dX7_entries_32 : dc_at mX7_entries 32 (.getfield 60) 3 := by unfold dc_at; decide +kernel
theorem dX7_entries_35 : dc_at mX7_entries 35 (.if_icmp .ge 24) 3 := by unfold dc_at; decide +kernel
theorem dX7_entries_38 : dc_at mX7_entries 38 (.aload_n 0) 1 := by unfold dc_at; decide +kernel
theorem dX7_entries_39 : dc_at mX7_entries 39 (.iload_n 1) 1 := by unfold dc_at; decide +kernel
theorem dX7_entries_40 : dc_at mX7_entries 40 (.iload_n 2) 1 := by unfold dc_at; decide +kernel
theorem dX7_entries_41 : dc_at mX7_entries 41 (.iload 5) 2 := by unfold dc_at; decide +kernel
theorem dX7_entries_43 : dc_at mX7_entries 43 (.iload_n 3) 1 := by unfold dc_at; decide +kernel
theorem dX7_entries_44 : dc_at mX7_entries 44 (.invokevirtual 186) 3 := by unfold dc_at; decide +kernel
theorem dX7_entries_47 : dc_at mX7_entries 47 (.ifCond .eq 6) 3 := by unfold dc_at; decide +kernel
theorem dX7_entries_50 : dc_at mX7_entries 50 (.iinc 4 1) 3 := by unfold dc_at; decide +kernel
theorem dX7_entries_53 : dc_at mX7_entries 53 (.iinc 5 1) 3 := by unfold dc_at; decide +kernel
theorem dX7_entries_56 : dc_at mX7_entries 56 (.goto (-30)) 3 := by unfold dc_at; decide +kernel
theorem dX7_entries_59 : dc_at mX7_entries 59 (.iload 4) 2 := by unfold dc_at; decide +kernel
theorem dX7_entries_61 : dc_at mX7_entries 61 (.ireturn) 1 := by unfold dc_at; decide +kernel
theorem dX7_meanWidthBits_0 : dc_at mX7_meanWidthBits 0 (.aload_n 0) 1 := by unfold dc_at; decide +kernel
theorem dX7_meanWidthBits_1 : dc_at mX7_meanWidthBits 1 (.getfield 37) 3 := by unfold dc_at; decide +kernel
theorem dX7_meanWidthBits_4 : dc_at mX7_meanWidthBits 4 (.aload_n 0) 1 := by unfold dc_at; decide +kernel
theorem dX7_meanWidthBits_5 : dc_at mX7_meanWidthBits 5 (.getfield 24) 3 := by unfold dc_at; decide +kernel
theorem dX7_meanWidthBits_8 : dc_at mX7_meanWidthBits 8 (.aload_n 0) 1 := by unfold dc_at; decide +kernel
theorem dX7_meanWidthBits_9 : dc_at mX7_meanWidthBits 9 (.getfield 18) 3 := by unfold dc_at; decide +kernel
theorem dX7_meanWidthBits_12 : dc_at mX7_meanWidthBits 12 (.invokevirtual 189) 3 := by unfold dc_at; decide +kernel
theorem dX7_meanWidthBits_15 : dc_at mX7_meanWidthBits 15 (.iconst 0) 1 := by unfold dc_at; decide +kernel
theorem dX7_meanWidthBits_16 : dc_at mX7_meanWidthBits 16 (.istore_n 1) 1 := by unfold dc_at; decide +kernel
theorem dX7_meanWidthBits_17 : dc_at mX7_meanWidthBits 17 (.iconst 0) 1 := by unfold dc_at; decide +kernel
theorem dX7_meanWidthBits_18 : dc_at mX7_meanWidthBits 18 (.istore_n 2) 1 := by unfold dc_at; decide +kernel
theorem dX7_meanWidthBits_19 : dc_at mX7_meanWidthBits 19 (.iconst 0) 1 := by unfold dc_at; decide +kernel
theorem dX7_meanWidthBits_20 : dc_at mX7_meanWidthBits 20 (.istore_n 3) 1 := by unfold dc_at; decide +kernel
theorem dX7_meanWidthBits_21 : dc_at mX7_meanWidthBits 21 (.iload_n 3) 1 := by unfold dc_at; decide +kernel
theorem dX7_meanWidthBits_22 : dc_at mX7_meanWidthBits 22 (.aload_n 0) 1 := by unfold dc_at; decide +kernel
theorem dX7_meanWidthBits_23 : dc_at mX7_meanWidthBits 23 (.getfield 24) 3 := by unfold dc_at; decide +kernel
theorem dX7_meanWidthBits_26 : dc_at mX7_meanWidthBits 26 (.getfield 60) 3 := by unfold dc_at; decide +kernel
theorem dX7_meanWidthBits_29 : dc_at mX7_meanWidthBits 29 (.if_icmp .ge 83) 3 := by unfold dc_at; decide +kernel
theorem dX7_meanWidthBits_32 : dc_at mX7_meanWidthBits 32 (.iconst 0) 1 := by unfold dc_at; decide +kernel
theorem dX7_meanWidthBits_33 : dc_at mX7_meanWidthBits 33 (.istore 4) 2 := by unfold dc_at; decide +kernel
theorem dX7_meanWidthBits_35 : dc_at mX7_meanWidthBits 35 (.iload 4) 2 := by unfold dc_at; decide +kernel
theorem dX7_meanWidthBits_37 : dc_at mX7_meanWidthBits 37 (.aload_n 0) 1 := by unfold dc_at; decide +kernel
theorem dX7_meanWidthBits_38 : dc_at mX7_meanWidthBits 38 (.getfield 24) 3 := by unfold dc_at; decide +kernel
theorem dX7_meanWidthBits_41 : dc_at mX7_meanWidthBits 41 (.getfield 60) 3 := by unfold dc_at; decide +kernel
theorem dX7_meanWidthBits_44 : dc_at mX7_meanWidthBits 44 (.if_icmp .ge 62) 3 := by unfold dc_at; decide +kernel
theorem dX7_meanWidthBits_47 : dc_at mX7_meanWidthBits 47 (.iload_n 3) 1 := by unfold dc_at; decide +kernel
theorem dX7_meanWidthBits_48 : dc_at mX7_meanWidthBits 48 (.iload 4) 2 := by unfold dc_at; decide +kernel
theorem dX7_meanWidthBits_50 : dc_at mX7_meanWidthBits 50 (.invokestatic 88) 3 := by unfold dc_at; decide +kernel
theorem dX7_meanWidthBits_53 : dc_at mX7_meanWidthBits 53 (.istore 5) 2 := by unfold dc_at; decide +kernel
theorem dX7_meanWidthBits_55 : dc_at mX7_meanWidthBits 55 (.iload_n 3) 1 := by unfold dc_at; decide +kernel
theorem dX7_meanWidthBits_56 : dc_at mX7_meanWidthBits 56 (.iload 4) 2 := by unfold dc_at; decide +kernel
theorem dX7_meanWidthBits_58 : dc_at mX7_meanWidthBits 58 (.if_icmp .eq 42) 3 := by unfold dc_at; decide +kernel
theorem dX7_meanWidthBits_61 : dc_at mX7_meanWidthBits 61 (.aload_n 0) 1 := by unfold dc_at; decide +kernel
theorem dX7_meanWidthBits_62 : dc_at mX7_meanWidthBits 62 (.getfield 37) 3 := by unfold dc_at; decide +kernel
theorem dX7_meanWidthBits_65 : dc_at mX7_meanWidthBits 65 (.iload 5) 2 := by unfold dc_at; decide +kernel
theorem dX7_meanWidthBits_67 : dc_at mX7_meanWidthBits 67 (.invokevirtual 178) 3 := by unfold dc_at; decide +kernel
theorem dX7_meanWidthBits_70 : dc_at mX7_meanWidthBits 70 (.ifCond .eq 30) 3 := by unfold dc_at; decide +kernel
theorem dX7_meanWidthBits_73 : dc_at mX7_meanWidthBits 73 (.iload_n 1) 1 := by unfold dc_at; decide +kernel
theorem dX7_meanWidthBits_74 : dc_at mX7_meanWidthBits 74 (.aload_n 0) 1 := by unfold dc_at; decide +kernel
theorem dX7_meanWidthBits_75 : dc_at mX7_meanWidthBits 75 (.getfield 37) 3 := by unfold dc_at; decide +kernel
theorem dX7_meanWidthBits_78 : dc_at mX7_meanWidthBits 78 (.getfield 182) 3 := by unfold dc_at; decide +kernel
theorem dX7_meanWidthBits_81 : dc_at mX7_meanWidthBits 81 (.iload 5) 2 := by unfold dc_at; decide +kernel
theorem dX7_meanWidthBits_83 : dc_at mX7_meanWidthBits 83 (.iaload) 1 := by unfold dc_at; decide +kernel
theorem dX7_meanWidthBits_84 : dc_at mX7_meanWidthBits 84 (.aload_n 0) 1 := by unfold dc_at; decide +kernel
theorem dX7_meanWidthBits_85 : dc_at mX7_meanWidthBits 85 (.getfield 37) 3 := by unfold dc_at; decide +kernel
theorem dX7_meanWidthBits_88 : dc_at mX7_meanWidthBits 88 (.getfield 181) 3 := by unfold dc_at; decide +kernel
theorem dX7_meanWidthBits_91 : dc_at mX7_meanWidthBits 91 (.iload 5) 2 := by unfold dc_at; decide +kernel
theorem dX7_meanWidthBits_93 : dc_at mX7_meanWidthBits 93 (.iaload) 1 := by unfold dc_at; decide +kernel
theorem dX7_meanWidthBits_94 : dc_at mX7_meanWidthBits 94 (.isub) 1 := by unfold dc_at; decide +kernel
theorem dX7_meanWidthBits_95 : dc_at mX7_meanWidthBits 95 (.iadd) 1 := by unfold dc_at; decide +kernel
theorem dX7_meanWidthBits_96 : dc_at mX7_meanWidthBits 96 (.istore_n 1) 1 := by unfold dc_at; decide +kernel
theorem dX7_meanWidthBits_97 : dc_at mX7_meanWidthBits 97 (.iinc 2 1) 3 := by unfold dc_at; decide +kernel
theorem dX7_meanWidthBits_100 : dc_at mX7_meanWidthBits 100 (.iinc 4 1) 3 := by unfold dc_at; decide +kernel
theorem dX7_meanWidthBits_103 : dc_at mX7_meanWidthBits 103 (.goto (-68)) 3 := by unfold dc_at; decide +kernel
theorem dX7_meanWidthBits_106 : dc_at mX7_meanWidthBits 106 (.iinc 3 1) 3 := by unfold dc_at; decide +kernel
theorem dX7_meanWidthBits_109 : dc_at mX7_meanWidthBits 109 (.goto (-88)) 3 := by unfold dc_at; decide +kernel
theorem dX7_meanWidthBits_112 : dc_at mX7_meanWidthBits 112 (.iload_n 2) 1 := by unfold dc_at; decide +kernel
theorem dX7_meanWidthBits_113 : dc_at mX7_meanWidthBits 113 (.ifCond .ne 8) 3 := by unfold dc_at; decide +kernel
theorem dX7_meanWidthBits_116 : dc_at mX7_meanWidthBits 116 (.bipush (-4)) 2 := by unfold dc_at; decide +kernel
theorem dX7_meanWidthBits_118 : dc_at mX7_meanWidthBits 118 (.goto 11) 3 := by unfold dc_at; decide +kernel
theorem dX7_meanWidthBits_121 : dc_at mX7_meanWidthBits 121 (.iload_n 1) 1 := by unfold dc_at; decide +kernel
theorem dX7_meanWidthBits_122 : dc_at mX7_meanWidthBits 122 (.i2f) 1 := by unfold dc_at; decide +kernel
theorem dX7_meanWidthBits_123 : dc_at mX7_meanWidthBits 123 (.iload_n 2) 1 := by unfold dc_at; decide +kernel
theorem dX7_meanWidthBits_124 : dc_at mX7_meanWidthBits 124 (.i2f) 1 := by unfold dc_at; decide +kernel
theorem dX7_meanWidthBits_125 : dc_at mX7_meanWidthBits 125 (.fdiv) 1 := by unfold dc_at; decide +kernel
theorem dX7_meanWidthBits_126 : dc_at mX7_meanWidthBits 126 (.invokestatic 193) 3 := by unfold dc_at; decide +kernel
theorem dX7_meanWidthBits_129 : dc_at mX7_meanWidthBits 129 (.ireturn) 1 := by unfold dc_at; decide +kernel
theorem dX7_journalSize_0 : dc_at mX7_journalSize 0 (.aload_n 0) 1 := by unfold dc_at; decide +kernel
theorem dX7_journalSize_1 : dc_at mX7_journalSize 1 (.getfield 24) 3 := by unfold dc_at; decide +kernel
theorem dX7_journalSize_4 : dc_at mX7_journalSize 4 (.getfield 197) 3 := by unfold dc_at; decide +kernel
theorem dX7_journalSize_7 : dc_at mX7_journalSize 7 (.invokevirtual 201) 3 := by unfold dc_at; decide +kernel
theorem dX7_journalSize_10 : dc_at mX7_journalSize 10 (.ireturn) 1 := by unfold dc_at; decide +kernel
theorem dX7_journal_0 : dc_at mX7_journal 0 (.iload_n 1) 1 := by unfold dc_at; decide +kernel
theorem dX7_journal_1 : dc_at mX7_journal 1 (.ifCond .lt 12) 3 := by unfold dc_at; decide +kernel
theorem dX7_journal_4 : dc_at mX7_journal 4 (.iload_n 2) 1 := by unfold dc_at; decide +kernel
theorem dX7_journal_5 : dc_at mX7_journal 5 (.iconst 0) 1 := by unfold dc_at; decide +kernel
theorem dX7_journal_6 : dc_at mX7_journal 6 (.iconst 3) 1 := by unfold dc_at; decide +kernel
theorem dX7_journal_7 : dc_at mX7_journal 7 (.invokestatic 105) 3 := by unfold dc_at; decide +kernel
theorem dX7_journal_10 : dc_at mX7_journal 10 (.ifCond .ne 5) 3 := by unfold dc_at; decide +kernel
theorem dX7_journal_13 : dc_at mX7_journal 13 (.iconst (-1)) 1 := by unfold dc_at; decide +kernel
theorem dX7_journal_14 : dc_at mX7_journal 14 (.ireturn) 1 := by unfold dc_at; decide +kernel
theorem dX7_journal_15 : dc_at mX7_journal 15 (.iload_n 1) 1 := by unfold dc_at; decide +kernel
theorem dX7_journal_16 : dc_at mX7_journal 16 (.aload_n 0) 1 := by unfold dc_at; decide +kernel
theorem dX7_journal_17 : dc_at mX7_journal 17 (.getfield 24) 3 := by unfold dc_at; decide +kernel
theorem dX7_journal_20 : dc_at mX7_journal 20 (.getfield 197) 3 := by unfold dc_at; decide +kernel
theorem dX7_journal_23 : dc_at mX7_journal 23 (.invokevirtual 201) 3 := by unfold dc_at; decide +kernel
theorem dX7_journal_26 : dc_at mX7_journal 26 (.if_icmp .lt 6) 3 := by unfold dc_at; decide +kernel
theorem dX7_journal_29 : dc_at mX7_journal 29 (.bipush (-4)) 2 := by unfold dc_at; decide +kernel
theorem dX7_journal_31 : dc_at mX7_journal 31 (.ireturn) 1 := by unfold dc_at; decide +kernel
theorem dX7_journal_32 : dc_at mX7_journal 32 (.aload_n 0) 1 := by unfold dc_at; decide +kernel
theorem dX7_journal_33 : dc_at mX7_journal 33 (.getfield 24) 3 := by unfold dc_at; decide +kernel
theorem dX7_journal_36 : dc_at mX7_journal 36 (.getfield 197) 3 := by unfold dc_at; decide +kernel
theorem dX7_journal_39 : dc_at mX7_journal 39 (.iload_n 1) 1 := by unfold dc_at; decide +kernel
theorem dX7_journal_40 : dc_at mX7_journal 40 (.iload_n 2) 1 := by unfold dc_at; decide +kernel
theorem dX7_journal_41 : dc_at mX7_journal 41 (.invokevirtual 207) 3 := by unfold dc_at; decide +kernel
theorem dX7_journal_44 : dc_at mX7_journal 44 (.ireturn) 1 := by unfold dc_at; decide +kernel
theorem dX7_trueDistance_0 : dc_at mX7_trueDistance 0 (.aload_n 0) 1 := by unfold dc_at; decide +kernel
theorem dX7_trueDistance_1 : dc_at mX7_trueDistance 1 (.iload_n 1) 1 := by unfold dc_at; decide +kernel
theorem dX7_trueDistance_2 : dc_at mX7_trueDistance 2 (.invokevirtual 171) 3 := by unfold dc_at; decide +kernel
theorem dX7_trueDistance_5 : dc_at mX7_trueDistance 5 (.ifCond .eq 11) 3 := by unfold dc_at; decide +kernel
theorem dX7_trueDistance_8 : dc_at mX7_trueDistance 8 (.aload_n 0) 1 := by unfold dc_at; decide +kernel
theorem dX7_trueDistance_9 : dc_at mX7_trueDistance 9 (.iload_n 2) 1 := by unfold dc_at; decide +kernel
theorem dX7_trueDistance_10 : dc_at mX7_trueDistance 10 (.invokevirtual 171) 3 := by unfold dc_at; decide +kernel
theorem dX7_trueDistance_13 : dc_at mX7_trueDistance 13 (.ifCond .ne 5) 3 := by unfold dc_at; decide +kernel
theorem dX7_trueDistance_16 : dc_at mX7_trueDistance 16 (.iconst (-1)) 1 := by unfold dc_at; decide +kernel
theorem dX7_trueDistance_17 : dc_at mX7_trueDistance 17 (.ireturn) 1 := by unfold dc_at; decide +kernel
theorem dX7_trueDistance_18 : dc_at mX7_trueDistance 18 (.aload_n 0) 1 := by unfold dc_at; decide +kernel
theorem dX7_trueDistance_19 : dc_at mX7_trueDistance 19 (.getfield 44) 3 := by unfold dc_at; decide +kernel
theorem dX7_trueDistance_22 : dc_at mX7_trueDistance 22 (.aload_n 0) 1 := by unfold dc_at; decide +kernel
theorem dX7_trueDistance_23 : dc_at mX7_trueDistance 23 (.getfield 24) 3 := by unfold dc_at; decide +kernel
theorem dX7_trueDistance_26 : dc_at mX7_trueDistance 26 (.getfield 68) 3 := by unfold dc_at; decide +kernel
theorem dX7_trueDistance_29 : dc_at mX7_trueDistance 29 (.aload_n 0) 1 := by unfold dc_at; decide +kernel
theorem dX7_trueDistance_30 : dc_at mX7_trueDistance 30 (.getfield 24) 3 := by unfold dc_at; decide +kernel
theorem dX7_trueDistance_33 : dc_at mX7_trueDistance 33 (.getfield 60) 3 := by unfold dc_at; decide +kernel
theorem dX7_trueDistance_36 : dc_at mX7_trueDistance 36 (.invokevirtual 210) 3 := by unfold dc_at; decide +kernel
theorem dX7_trueDistance_39 : dc_at mX7_trueDistance 39 (.iload_n 1) 1 := by unfold dc_at; decide +kernel
theorem dX7_trueDistance_40 : dc_at mX7_trueDistance 40 (.iload_n 2) 1 := by unfold dc_at; decide +kernel
theorem dX7_trueDistance_41 : dc_at mX7_trueDistance 41 (.invokestatic 88) 3 := by unfold dc_at; decide +kernel
theorem dX7_trueDistance_44 : dc_at mX7_trueDistance 44 (.istore_n 3) 1 := by unfold dc_at; decide +kernel
theorem dX7_trueDistance_45 : dc_at mX7_trueDistance 45 (.aload_n 0) 1 := by unfold dc_at; decide +kernel
theorem dX7_trueDistance_46 : dc_at mX7_trueDistance 46 (.getfield 44) 3 := by unfold dc_at; decide +kernel
theorem dX7_trueDistance_49 : dc_at mX7_trueDistance 49 (.iload_n 3) 1 := by unfold dc_at; decide +kernel
theorem dX7_trueDistance_50 : dc_at mX7_trueDistance 50 (.invokevirtual 214) 3 := by unfold dc_at; decide +kernel
theorem dX7_trueDistance_53 : dc_at mX7_trueDistance 53 (.ifCond .eq 15) 3 := by unfold dc_at; decide +kernel
theorem dX7_trueDistance_56 : dc_at mX7_trueDistance 56 (.aload_n 0) 1 := by unfold dc_at; decide +kernel
theorem dX7_trueDistance_57 : dc_at mX7_trueDistance 57 (.getfield 44) 3 := by unfold dc_at; decide +kernel
theorem dX7_trueDistance_60 : dc_at mX7_trueDistance 60 (.getfield 217) 3 := by unfold dc_at; decide +kernel
theorem dX7_trueDistance_63 : dc_at mX7_trueDistance 63 (.iload_n 3) 1 := by unfold dc_at; decide +kernel
theorem dX7_trueDistance_64 : dc_at mX7_trueDistance 64 (.iaload) 1 := by unfold dc_at; decide +kernel
theorem dX7_trueDistance_65 : dc_at mX7_trueDistance 65 (.goto 5) 3 := by unfold dc_at; decide +kernel
theorem dX7_trueDistance_68 : dc_at mX7_trueDistance 68 (.bipush (-4)) 2 := by unfold dc_at; decide +kernel
theorem dX7_trueDistance_70 : dc_at mX7_trueDistance 70 (.ireturn) 1 := by unfold dc_at; decide +kernel
theorem dX7_wrongPairs_0 : dc_at mX7_wrongPairs 0 (.aload_n 0) 1 := by unfold dc_at; decide +kernel
theorem dX7_wrongPairs_1 : dc_at mX7_wrongPairs 1 (.getfield 37) 3 := by unfold dc_at; decide +kernel
theorem dX7_wrongPairs_4 : dc_at mX7_wrongPairs 4 (.aload_n 0) 1 := by unfold dc_at; decide +kernel
theorem dX7_wrongPairs_5 : dc_at mX7_wrongPairs 5 (.getfield 24) 3 := by unfold dc_at; decide +kernel
theorem dX7_wrongPairs_8 : dc_at mX7_wrongPairs 8 (.aload_n 0) 1 := by unfold dc_at; decide +kernel
theorem dX7_wrongPairs_9 : dc_at mX7_wrongPairs 9 (.getfield 18) 3 := by unfold dc_at; decide +kernel
theorem dX7_wrongPairs_12 : dc_at mX7_wrongPairs 12 (.invokevirtual 189) 3 := by unfold dc_at; decide +kernel
theorem dX7_wrongPairs_15 : dc_at mX7_wrongPairs 15 (.aload_n 0) 1 := by unfold dc_at; decide +kernel
theorem dX7_wrongPairs_16 : dc_at mX7_wrongPairs 16 (.getfield 44) 3 := by unfold dc_at; decide +kernel
theorem dX7_wrongPairs_19 : dc_at mX7_wrongPairs 19 (.aload_n 0) 1 := by unfold dc_at; decide +kernel
theorem dX7_wrongPairs_20 : dc_at mX7_wrongPairs 20 (.getfield 24) 3 := by unfold dc_at; decide +kernel
theorem dX7_wrongPairs_23 : dc_at mX7_wrongPairs 23 (.getfield 68) 3 := by unfold dc_at; decide +kernel
theorem dX7_wrongPairs_26 : dc_at mX7_wrongPairs 26 (.aload_n 0) 1 := by unfold dc_at; decide +kernel
theorem dX7_wrongPairs_27 : dc_at mX7_wrongPairs 27 (.getfield 24) 3 := by unfold dc_at; decide +kernel
theorem dX7_wrongPairs_30 : dc_at mX7_wrongPairs 30 (.getfield 60) 3 := by unfold dc_at; decide +kernel
theorem dX7_wrongPairs_33 : dc_at mX7_wrongPairs 33 (.invokevirtual 210) 3 := by unfold dc_at; decide +kernel
theorem dX7_wrongPairs_36 : dc_at mX7_wrongPairs 36 (.iconst 0) 1 := by unfold dc_at; decide +kernel
theorem dX7_wrongPairs_37 : dc_at mX7_wrongPairs 37 (.istore_n 1) 1 := by unfold dc_at; decide +kernel
theorem dX7_wrongPairs_38 : dc_at mX7_wrongPairs 38 (.iconst 0) 1 := by unfold dc_at; decide +kernel
theorem dX7_wrongPairs_39 : dc_at mX7_wrongPairs 39 (.istore_n 2) 1 := by unfold dc_at; decide +kernel
theorem dX7_wrongPairs_40 : dc_at mX7_wrongPairs 40 (.iload_n 2) 1 := by unfold dc_at; decide +kernel
theorem dX7_wrongPairs_41 : dc_at mX7_wrongPairs 41 (.aload_n 0) 1 := by unfold dc_at; decide +kernel
theorem dX7_wrongPairs_42 : dc_at mX7_wrongPairs 42 (.getfield 24) 3 := by unfold dc_at; decide +kernel
theorem dX7_wrongPairs_45 : dc_at mX7_wrongPairs 45 (.getfield 60) 3 := by unfold dc_at; decide +kernel
theorem dX7_wrongPairs_48 : dc_at mX7_wrongPairs 48 (.if_icmp .ge 48) 3 := by unfold dc_at; decide +kernel
theorem dX7_wrongPairs_51 : dc_at mX7_wrongPairs 51 (.iconst 0) 1 := by unfold dc_at; decide +kernel
theorem dX7_wrongPairs_52 : dc_at mX7_wrongPairs 52 (.istore_n 3) 1 := by unfold dc_at; decide +kernel
theorem dX7_wrongPairs_53 : dc_at mX7_wrongPairs 53 (.iload_n 3) 1 := by unfold dc_at; decide +kernel
theorem dX7_wrongPairs_54 : dc_at mX7_wrongPairs 54 (.aload_n 0) 1 := by unfold dc_at; decide +kernel
theorem dX7_wrongPairs_55 : dc_at mX7_wrongPairs 55 (.getfield 24) 3 := by unfold dc_at; decide +kernel
theorem dX7_wrongPairs_58 : dc_at mX7_wrongPairs 58 (.getfield 60) 3 := by unfold dc_at; decide +kernel
theorem dX7_wrongPairs_61 : dc_at mX7_wrongPairs 61 (.if_icmp .ge 29) 3 := by unfold dc_at; decide +kernel
theorem dX7_wrongPairs_64 : dc_at mX7_wrongPairs 64 (.iload_n 2) 1 := by unfold dc_at; decide +kernel
theorem dX7_wrongPairs_65 : dc_at mX7_wrongPairs 65 (.iload_n 3) 1 := by unfold dc_at; decide +kernel
theorem dX7_wrongPairs_66 : dc_at mX7_wrongPairs 66 (.if_icmp .eq 18) 3 := by unfold dc_at; decide +kernel
theorem dX7_wrongPairs_69 : dc_at mX7_wrongPairs 69 (.aload_n 0) 1 := by unfold dc_at; decide +kernel
theorem dX7_wrongPairs_70 : dc_at mX7_wrongPairs 70 (.iload_n 2) 1 := by unfold dc_at; decide +kernel
theorem dX7_wrongPairs_71 : dc_at mX7_wrongPairs 71 (.iload_n 3) 1 := by unfold dc_at; decide +kernel
theorem dX7_wrongPairs_72 : dc_at mX7_wrongPairs 72 (.invokestatic 88) 3 := by unfold dc_at; decide +kernel
theorem dX7_wrongPairs_75 : dc_at mX7_wrongPairs 75 (.invokevirtual 220) 3 := by unfold dc_at; decide +kernel
theorem dX7_wrongPairs_78 : dc_at mX7_wrongPairs 78 (.ifCond .eq 6) 3 := by unfold dc_at; decide +kernel
theorem dX7_wrongPairs_81 : dc_at mX7_wrongPairs 81 (.iinc 1 1) 3 := by unfold dc_at; decide +kernel
theorem dX7_wrongPairs_84 : dc_at mX7_wrongPairs 84 (.iinc 3 1) 3 := by unfold dc_at; decide +kernel
theorem dX7_wrongPairs_87 : dc_at mX7_wrongPairs 87 (.goto (-34)) 3 := by unfold dc_at; decide +kernel
theorem dX7_wrongPairs_90 : dc_at mX7_wrongPairs 90 (.iinc 2 1) 3 := by unfold dc_at; decide +kernel
theorem dX7_wrongPairs_93 : dc_at mX7_wrongPairs 93 (.goto (-53)) 3 := by unfold dc_at; decide +kernel
theorem dX7_wrongPairs_96 : dc_at mX7_wrongPairs 96 (.iload_n 1) 1 := by unfold dc_at; decide +kernel
theorem dX7_wrongPairs_97 : dc_at mX7_wrongPairs 97 (.ireturn) 1 := by unfold dc_at; decide +kernel
theorem dX7_follow_0 : dc_at mX7_follow 0 (.aload_n 0) 1 := by unfold dc_at; decide +kernel
theorem dX7_follow_1 : dc_at mX7_follow 1 (.iload_n 1) 1 := by unfold dc_at; decide +kernel
theorem dX7_follow_2 : dc_at mX7_follow 2 (.iload_n 2) 1 := by unfold dc_at; decide +kernel
theorem dX7_follow_3 : dc_at mX7_follow 3 (.invokevirtual 64) 3 := by unfold dc_at; decide +kernel
theorem dX7_follow_6 : dc_at mX7_follow 6 (.ifCond .ne 5) 3 := by unfold dc_at; decide +kernel
theorem dX7_follow_9 : dc_at mX7_follow 9 (.iconst (-1)) 1 := by unfold dc_at; decide +kernel
theorem dX7_follow_10 : dc_at mX7_follow 10 (.ireturn) 1 := by unfold dc_at; decide +kernel
theorem dX7_follow_11 : dc_at mX7_follow 11 (.aload_n 0) 1 := by unfold dc_at; decide +kernel
theorem dX7_follow_12 : dc_at mX7_follow 12 (.getfield 37) 3 := by unfold dc_at; decide +kernel
theorem dX7_follow_15 : dc_at mX7_follow 15 (.aload_n 0) 1 := by unfold dc_at; decide +kernel
theorem dX7_follow_16 : dc_at mX7_follow 16 (.getfield 24) 3 := by unfold dc_at; decide +kernel
theorem dX7_follow_19 : dc_at mX7_follow 19 (.aload_n 0) 1 := by unfold dc_at; decide +kernel
theorem dX7_follow_20 : dc_at mX7_follow 20 (.getfield 18) 3 := by unfold dc_at; decide +kernel
theorem dX7_follow_23 : dc_at mX7_follow 23 (.invokevirtual 189) 3 := by unfold dc_at; decide +kernel
theorem dX7_follow_26 : dc_at mX7_follow 26 (.aload_n 0) 1 := by unfold dc_at; decide +kernel
theorem dX7_follow_27 : dc_at mX7_follow 27 (.getfield 37) 3 := by unfold dc_at; decide +kernel
theorem dX7_follow_30 : dc_at mX7_follow 30 (.iload_n 1) 1 := by unfold dc_at; decide +kernel
theorem dX7_follow_31 : dc_at mX7_follow 31 (.iload_n 2) 1 := by unfold dc_at; decide +kernel
theorem dX7_follow_32 : dc_at mX7_follow 32 (.invokevirtual 223) 3 := by unfold dc_at; decide +kernel
theorem dX7_follow_35 : dc_at mX7_follow 35 (.ireturn) 1 := by unfold dc_at; decide +kernel
theorem dX7_loops_0 : dc_at mX7_loops 0 (.aload_n 0) 1 := by unfold dc_at; decide +kernel
theorem dX7_loops_1 : dc_at mX7_loops 1 (.getfield 37) 3 := by unfold dc_at; decide +kernel
theorem dX7_loops_4 : dc_at mX7_loops 4 (.aload_n 0) 1 := by unfold dc_at; decide +kernel
theorem dX7_loops_5 : dc_at mX7_loops 5 (.getfield 24) 3 := by unfold dc_at; decide +kernel
theorem dX7_loops_8 : dc_at mX7_loops 8 (.aload_n 0) 1 := by unfold dc_at; decide +kernel
theorem dX7_loops_9 : dc_at mX7_loops 9 (.getfield 18) 3 := by unfold dc_at; decide +kernel
theorem dX7_loops_12 : dc_at mX7_loops 12 (.invokevirtual 189) 3 := by unfold dc_at; decide +kernel
theorem dX7_loops_15 : dc_at mX7_loops 15 (.aload_n 0) 1 := by unfold dc_at; decide +kernel
theorem dX7_loops_16 : dc_at mX7_loops 16 (.getfield 37) 3 := by unfold dc_at; decide +kernel
theorem dX7_loops_19 : dc_at mX7_loops 19 (.aload_n 0) 1 := by unfold dc_at; decide +kernel
theorem dX7_loops_20 : dc_at mX7_loops 20 (.getfield 24) 3 := by unfold dc_at; decide +kernel
theorem dX7_loops_23 : dc_at mX7_loops 23 (.getfield 60) 3 := by unfold dc_at; decide +kernel
theorem dX7_loops_26 : dc_at mX7_loops 26 (.invokevirtual 226) 3 := by unfold dc_at; decide +kernel
theorem dX7_loops_29 : dc_at mX7_loops 29 (.ireturn) 1 := by unfold dc_at; decide +kernel
theorem dX7_settling_0 : dc_at mX7_settling 0 (.aload_n 0) 1 := by unfold dc_at; decide +kernel
theorem dX7_settling_1 : dc_at mX7_settling 1 (.getfield 31) 3 := by unfold dc_at; decide +kernel
theorem dX7_settling_4 : dc_at mX7_settling 4 (.aload_n 0) 1 := by unfold dc_at; decide +kernel
theorem dX7_settling_5 : dc_at mX7_settling 5 (.getfield 24) 3 := by unfold dc_at; decide +kernel
theorem dX7_settling_8 : dc_at mX7_settling 8 (.invokevirtual 230) 3 := by unfold dc_at; decide +kernel
theorem dX7_settling_11 : dc_at mX7_settling 11 (.iconst 0) 1 := by unfold dc_at; decide +kernel
theorem dX7_settling_12 : dc_at mX7_settling 12 (.istore_n 1) 1 := by unfold dc_at; decide +kernel
theorem dX7_settling_13 : dc_at mX7_settling 13 (.iconst 1) 1 := by unfold dc_at; decide +kernel
theorem dX7_settling_14 : dc_at mX7_settling 14 (.istore_n 2) 1 := by unfold dc_at; decide +kernel
theorem dX7_settling_15 : dc_at mX7_settling 15 (.iload_n 2) 1 := by unfold dc_at; decide +kernel
theorem dX7_settling_16 : dc_at mX7_settling 16 (.sipush 240) 3 := by unfold dc_at; decide +kernel
theorem dX7_settling_19 : dc_at mX7_settling 19 (.if_icmp .gt 41) 3 := by unfold dc_at; decide +kernel
theorem dX7_settling_22 : dc_at mX7_settling 22 (.aload_n 0) 1 := by unfold dc_at; decide +kernel
theorem dX7_settling_23 : dc_at mX7_settling 23 (.aload_n 0) 1 := by unfold dc_at; decide +kernel
theorem dX7_settling_24 : dc_at mX7_settling 24 (.getfield 31) 3 := by unfold dc_at; decide +kernel
theorem dX7_settling_27 : dc_at mX7_settling 27 (.invokevirtual 129) 3 := by unfold dc_at; decide +kernel
theorem dX7_settling_30 : dc_at mX7_settling 30 (.istore_n 3) 1 := by unfold dc_at; decide +kernel
theorem dX7_settling_31 : dc_at mX7_settling 31 (.iload_n 3) 1 := by unfold dc_at; decide +kernel
theorem dX7_settling_32 : dc_at mX7_settling 32 (.ifCond .ne 9) 3 := by unfold dc_at; decide +kernel
theorem dX7_settling_35 : dc_at mX7_settling 35 (.iload_n 1) 1 := by unfold dc_at; decide +kernel
theorem dX7_settling_36 : dc_at mX7_settling 36 (.iconst 1) 1 := by unfold dc_at; decide +kernel
theorem dX7_settling_37 : dc_at mX7_settling 37 (.iadd) 1 := by unfold dc_at; decide +kernel
theorem dX7_settling_38 : dc_at mX7_settling 38 (.goto 4) 3 := by unfold dc_at; decide +kernel
theorem dX7_settling_41 : dc_at mX7_settling 41 (.iconst 0) 1 := by unfold dc_at; decide +kernel
theorem dX7_settling_42 : dc_at mX7_settling 42 (.istore_n 1) 1 := by unfold dc_at; decide +kernel
theorem dX7_settling_43 : dc_at mX7_settling 43 (.iload_n 1) 1 := by unfold dc_at; decide +kernel
theorem dX7_settling_44 : dc_at mX7_settling 44 (.bipush 40) 2 := by unfold dc_at; decide +kernel
theorem dX7_settling_46 : dc_at mX7_settling 46 (.if_icmp .ne 8) 3 := by unfold dc_at; decide +kernel
theorem dX7_settling_49 : dc_at mX7_settling 49 (.iload_n 2) 1 := by unfold dc_at; decide +kernel
theorem dX7_settling_50 : dc_at mX7_settling 50 (.bipush 40) 2 := by unfold dc_at; decide +kernel
theorem dX7_settling_52 : dc_at mX7_settling 52 (.isub) 1 := by unfold dc_at; decide +kernel
theorem dX7_settling_53 : dc_at mX7_settling 53 (.ireturn) 1 := by unfold dc_at; decide +kernel
theorem dX7_settling_54 : dc_at mX7_settling 54 (.iinc 2 1) 3 := by unfold dc_at; decide +kernel
theorem dX7_settling_57 : dc_at mX7_settling 57 (.goto (-42)) 3 := by unfold dc_at; decide +kernel
theorem dX7_settling_60 : dc_at mX7_settling 60 (.bipush (-4)) 2 := by unfold dc_at; decide +kernel
theorem dX7_settling_62 : dc_at mX7_settling 62 (.ireturn) 1 := by unfold dc_at; decide +kernel
theorem dX7_loss_0 : dc_at mX7_loss 0 (.aload_n 0) 1 := by unfold dc_at; decide +kernel
theorem dX7_loss_1 : dc_at mX7_loss 1 (.iload_n 1) 1 := by unfold dc_at; decide +kernel
theorem dX7_loss_2 : dc_at mX7_loss 2 (.iload_n 2) 1 := by unfold dc_at; decide +kernel
theorem dX7_loss_3 : dc_at mX7_loss 3 (.invokevirtual 64) 3 := by unfold dc_at; decide +kernel
theorem dX7_loss_6 : dc_at mX7_loss 6 (.ifCond .ne 5) 3 := by unfold dc_at; decide +kernel
theorem dX7_loss_9 : dc_at mX7_loss 9 (.iconst (-1)) 1 := by unfold dc_at; decide +kernel
theorem dX7_loss_10 : dc_at mX7_loss 10 (.ireturn) 1 := by unfold dc_at; decide +kernel
theorem dX7_loss_11 : dc_at mX7_loss 11 (.aload_n 0) 1 := by unfold dc_at; decide +kernel
theorem dX7_loss_12 : dc_at mX7_loss 12 (.getfield 24) 3 := by unfold dc_at; decide +kernel
theorem dX7_loss_15 : dc_at mX7_loss 15 (.getfield 68) 3 := by unfold dc_at; decide +kernel
theorem dX7_loss_18 : dc_at mX7_loss 18 (.iload_n 1) 1 := by unfold dc_at; decide +kernel
theorem dX7_loss_19 : dc_at mX7_loss 19 (.iload_n 2) 1 := by unfold dc_at; decide +kernel
theorem dX7_loss_20 : dc_at mX7_loss 20 (.invokevirtual 72) 3 := by unfold dc_at; decide +kernel
theorem dX7_loss_23 : dc_at mX7_loss 23 (.ifCond .ne 6) 3 := by unfold dc_at; decide +kernel
theorem dX7_loss_26 : dc_at mX7_loss 26 (.bipush (-4)) 2 := by unfold dc_at; decide +kernel
theorem dX7_loss_28 : dc_at mX7_loss 28 (.ireturn) 1 := by unfold dc_at; decide +kernel
theorem dX7_loss_29 : dc_at mX7_loss 29 (.aload_n 0) 1 := by unfold dc_at; decide +kernel
theorem dX7_loss_30 : dc_at mX7_loss 30 (.getfield 44) 3 := by unfold dc_at; decide +kernel
theorem dX7_loss_33 : dc_at mX7_loss 33 (.aload_n 0) 1 := by unfold dc_at; decide +kernel
theorem dX7_loss_34 : dc_at mX7_loss 34 (.getfield 24) 3 := by unfold dc_at; decide +kernel
theorem dX7_loss_37 : dc_at mX7_loss 37 (.getfield 68) 3 := by unfold dc_at; decide +kernel
theorem dX7_loss_40 : dc_at mX7_loss 40 (.aload_n 0) 1 := by unfold dc_at; decide +kernel
theorem dX7_loss_41 : dc_at mX7_loss 41 (.getfield 24) 3 := by unfold dc_at; decide +kernel
theorem dX7_loss_44 : dc_at mX7_loss 44 (.getfield 60) 3 := by unfold dc_at; decide +kernel
theorem dX7_loss_47 : dc_at mX7_loss 47 (.invokevirtual 210) 3 := by unfold dc_at; decide +kernel
theorem dX7_loss_50 : dc_at mX7_loss 50 (.aload_n 0) 1 := by unfold dc_at; decide +kernel
theorem dX7_loss_51 : dc_at mX7_loss 51 (.getfield 44) 3 := by unfold dc_at; decide +kernel
theorem dX7_loss_54 : dc_at mX7_loss 54 (.aload_n 0) 1 := by unfold dc_at; decide +kernel
theorem dX7_loss_55 : dc_at mX7_loss 55 (.getfield 24) 3 := by unfold dc_at; decide +kernel
theorem dX7_loss_58 : dc_at mX7_loss 58 (.getfield 60) 3 := by unfold dc_at; decide +kernel
theorem dX7_loss_61 : dc_at mX7_loss 61 (.invokevirtual 234) 3 := by unfold dc_at; decide +kernel
theorem dX7_loss_64 : dc_at mX7_loss 64 (.istore_n 3) 1 := by unfold dc_at; decide +kernel
theorem dX7_loss_65 : dc_at mX7_loss 65 (.aload_n 0) 1 := by unfold dc_at; decide +kernel
theorem dX7_loss_66 : dc_at mX7_loss 66 (.getfield 31) 3 := by unfold dc_at; decide +kernel
theorem dX7_loss_69 : dc_at mX7_loss 69 (.aload_n 0) 1 := by unfold dc_at; decide +kernel
theorem dX7_loss_70 : dc_at mX7_loss 70 (.getfield 24) 3 := by unfold dc_at; decide +kernel
theorem dX7_loss_73 : dc_at mX7_loss 73 (.invokevirtual 230) 3 := by unfold dc_at; decide +kernel
theorem dX7_loss_76 : dc_at mX7_loss 76 (.aload_n 0) 1 := by unfold dc_at; decide +kernel
theorem dX7_loss_77 : dc_at mX7_loss 77 (.getfield 31) 3 := by unfold dc_at; decide +kernel
theorem dX7_loss_80 : dc_at mX7_loss 80 (.getfield 68) 3 := by unfold dc_at; decide +kernel
theorem dX7_loss_83 : dc_at mX7_loss 83 (.iload_n 1) 1 := by unfold dc_at; decide +kernel
theorem dX7_loss_84 : dc_at mX7_loss 84 (.iload_n 2) 1 := by unfold dc_at; decide +kernel
theorem dX7_loss_85 : dc_at mX7_loss 85 (.iconst 0) 1 := by unfold dc_at; decide +kernel
theorem dX7_loss_86 : dc_at mX7_loss 86 (.invokevirtual 112) 3 := by unfold dc_at; decide +kernel
theorem dX7_loss_89 : dc_at mX7_loss 89 (.aload_n 0) 1 := by unfold dc_at; decide +kernel
theorem dX7_loss_90 : dc_at mX7_loss 90 (.getfield 44) 3 := by unfold dc_at; decide +kernel
theorem dX7_loss_93 : dc_at mX7_loss 93 (.aload_n 0) 1 := by unfold dc_at; decide +kernel
theorem dX7_loss_94 : dc_at mX7_loss 94 (.getfield 31) 3 := by unfold dc_at; decide +kernel
theorem dX7_loss_97 : dc_at mX7_loss 97 (.getfield 68) 3 := by unfold dc_at; decide +kernel
theorem dX7_loss_100 : dc_at mX7_loss 100 (.aload_n 0) 1 := by unfold dc_at; decide +kernel
theorem dX7_loss_101 : dc_at mX7_loss 101 (.getfield 31) 3 := by unfold dc_at; decide +kernel
theorem dX7_loss_104 : dc_at mX7_loss 104 (.getfield 60) 3 := by unfold dc_at; decide +kernel
theorem dX7_loss_107 : dc_at mX7_loss 107 (.invokevirtual 210) 3 := by unfold dc_at; decide +kernel
theorem dX7_loss_110 : dc_at mX7_loss 110 (.iload_n 3) 1 := by unfold dc_at; decide +kernel
theorem dX7_loss_111 : dc_at mX7_loss 111 (.aload_n 0) 1 := by unfold dc_at; decide +kernel
theorem dX7_loss_112 : dc_at mX7_loss 112 (.getfield 44) 3 := by unfold dc_at; decide +kernel
theorem dX7_loss_115 : dc_at mX7_loss 115 (.aload_n 0) 1 := by unfold dc_at; decide +kernel
theorem dX7_loss_116 : dc_at mX7_loss 116 (.getfield 31) 3 := by unfold dc_at; decide +kernel
theorem dX7_loss_119 : dc_at mX7_loss 119 (.getfield 60) 3 := by unfold dc_at; decide +kernel
theorem dX7_loss_122 : dc_at mX7_loss 122 (.invokevirtual 234) 3 := by unfold dc_at; decide +kernel
theorem dX7_loss_125 : dc_at mX7_loss 125 (.isub) 1 := by unfold dc_at; decide +kernel
theorem dX7_loss_126 : dc_at mX7_loss 126 (.ireturn) 1 := by unfold dc_at; decide +kernel
theorem dX7_recovery_0 : dc_at mX7_recovery 0 (.aload_n 0) 1 := by unfold dc_at; decide +kernel
theorem dX7_recovery_1 : dc_at mX7_recovery 1 (.iload_n 1) 1 := by unfold dc_at; decide +kernel
theorem dX7_recovery_2 : dc_at mX7_recovery 2 (.iload_n 2) 1 := by unfold dc_at; decide +kernel
theorem dX7_recovery_3 : dc_at mX7_recovery 3 (.invokevirtual 64) 3 := by unfold dc_at; decide +kernel
theorem dX7_recovery_6 : dc_at mX7_recovery 6 (.ifCond .ne 5) 3 := by unfold dc_at; decide +kernel
theorem dX7_recovery_9 : dc_at mX7_recovery 9 (.iconst (-1)) 1 := by unfold dc_at; decide +kernel
theorem dX7_recovery_10 : dc_at mX7_recovery 10 (.ireturn) 1 := by unfold dc_at; decide +kernel
theorem dX7_recovery_11 : dc_at mX7_recovery 11 (.aload_n 0) 1 := by unfold dc_at; decide +kernel
theorem dX7_recovery_12 : dc_at mX7_recovery 12 (.getfield 24) 3 := by unfold dc_at; decide +kernel
theorem dX7_recovery_15 : dc_at mX7_recovery 15 (.getfield 68) 3 := by unfold dc_at; decide +kernel
theorem dX7_recovery_18 : dc_at mX7_recovery 18 (.iload_n 1) 1 := by unfold dc_at; decide +kernel
theorem dX7_recovery_19 : dc_at mX7_recovery 19 (.iload_n 2) 1 := by unfold dc_at; decide +kernel
theorem dX7_recovery_20 : dc_at mX7_recovery 20 (.invokevirtual 72) 3 := by unfold dc_at; decide +kernel
theorem dX7_recovery_23 : dc_at mX7_recovery 23 (.ifCond .ne 6) 3 := by unfold dc_at; decide +kernel
theorem dX7_recovery_26 : dc_at mX7_recovery 26 (.bipush (-4)) 2 := by unfold dc_at; decide +kernel
theorem dX7_recovery_28 : dc_at mX7_recovery 28 (.ireturn) 1 := by unfold dc_at; decide +kernel
theorem dX7_recovery_29 : dc_at mX7_recovery 29 (.aload_n 0) 1 := by unfold dc_at; decide +kernel
theorem dX7_recovery_30 : dc_at mX7_recovery 30 (.getfield 24) 3 := by unfold dc_at; decide +kernel
theorem dX7_recovery_33 : dc_at mX7_recovery 33 (.getfield 68) 3 := by unfold dc_at; decide +kernel
theorem dX7_recovery_36 : dc_at mX7_recovery 36 (.iload_n 1) 1 := by unfold dc_at; decide +kernel
theorem dX7_recovery_37 : dc_at mX7_recovery 37 (.iload_n 2) 1 := by unfold dc_at; decide +kernel
theorem dX7_recovery_38 : dc_at mX7_recovery 38 (.invokevirtual 237) 3 := by unfold dc_at; decide +kernel
theorem dX7_recovery_41 : dc_at mX7_recovery 41 (.ifCond .ne 6) 3 := by unfold dc_at; decide +kernel
theorem dX7_recovery_44 : dc_at mX7_recovery 44 (.bipush (-2)) 2 := by unfold dc_at; decide +kernel
theorem dX7_recovery_46 : dc_at mX7_recovery 46 (.ireturn) 1 := by unfold dc_at; decide +kernel
theorem dX7_recovery_47 : dc_at mX7_recovery 47 (.aload_n 0) 1 := by unfold dc_at; decide +kernel
theorem dX7_recovery_48 : dc_at mX7_recovery 48 (.getfield 31) 3 := by unfold dc_at; decide +kernel
theorem dX7_recovery_51 : dc_at mX7_recovery 51 (.aload_n 0) 1 := by unfold dc_at; decide +kernel
theorem dX7_recovery_52 : dc_at mX7_recovery 52 (.getfield 24) 3 := by unfold dc_at; decide +kernel
theorem dX7_recovery_55 : dc_at mX7_recovery 55 (.invokevirtual 230) 3 := by unfold dc_at; decide +kernel
theorem dX7_recovery_58 : dc_at mX7_recovery 58 (.aload_n 0) 1 := by unfold dc_at; decide +kernel
theorem dX7_recovery_59 : dc_at mX7_recovery 59 (.getfield 31) 3 := by unfold dc_at; decide +kernel
theorem dX7_recovery_62 : dc_at mX7_recovery 62 (.getfield 68) 3 := by unfold dc_at; decide +kernel
theorem dX7_recovery_65 : dc_at mX7_recovery 65 (.iload_n 1) 1 := by unfold dc_at; decide +kernel
theorem dX7_recovery_66 : dc_at mX7_recovery 66 (.iload_n 2) 1 := by unfold dc_at; decide +kernel
theorem dX7_recovery_67 : dc_at mX7_recovery 67 (.iconst 0) 1 := by unfold dc_at; decide +kernel
theorem dX7_recovery_68 : dc_at mX7_recovery 68 (.invokevirtual 112) 3 := by unfold dc_at; decide +kernel
theorem dX7_recovery_71 : dc_at mX7_recovery 71 (.iconst 1) 1 := by unfold dc_at; decide +kernel
theorem dX7_recovery_72 : dc_at mX7_recovery 72 (.istore_n 3) 1 := by unfold dc_at; decide +kernel
theorem dX7_recovery_73 : dc_at mX7_recovery 73 (.iconst 1) 1 := by unfold dc_at; decide +kernel
theorem dX7_recovery_74 : dc_at mX7_recovery 74 (.istore 4) 2 := by unfold dc_at; decide +kernel
theorem dX7_recovery_76 : dc_at mX7_recovery 76 (.iload 4) 2 := by unfold dc_at; decide +kernel
theorem dX7_recovery_78 : dc_at mX7_recovery 78 (.bipush 60) 2 := by unfold dc_at; decide +kernel
theorem dX7_recovery_80 : dc_at mX7_recovery 80 (.if_icmp .gt 40) 3 := by unfold dc_at; decide +kernel
theorem dX7_recovery_83 : dc_at mX7_recovery 83 (.aload_n 0) 1 := by unfold dc_at; decide +kernel
theorem dX7_recovery_84 : dc_at mX7_recovery 84 (.aload_n 0) 1 := by unfold dc_at; decide +kernel
theorem dX7_recovery_85 : dc_at mX7_recovery 85 (.getfield 31) 3 := by unfold dc_at; decide +kernel
theorem dX7_recovery_88 : dc_at mX7_recovery 88 (.invokevirtual 129) 3 := by unfold dc_at; decide +kernel
theorem dX7_recovery_91 : dc_at mX7_recovery 91 (.pop) 1 := by unfold dc_at; decide +kernel
theorem dX7_recovery_92 : dc_at mX7_recovery 92 (.aload_n 0) 1 := by unfold dc_at; decide +kernel
theorem dX7_recovery_93 : dc_at mX7_recovery 93 (.getfield 37) 3 := by unfold dc_at; decide +kernel
theorem dX7_recovery_96 : dc_at mX7_recovery 96 (.aload_n 0) 1 := by unfold dc_at; decide +kernel
theorem dX7_recovery_97 : dc_at mX7_recovery 97 (.getfield 31) 3 := by unfold dc_at; decide +kernel
theorem dX7_recovery_100 : dc_at mX7_recovery 100 (.getfield 60) 3 := by unfold dc_at; decide +kernel
theorem dX7_recovery_103 : dc_at mX7_recovery 103 (.invokevirtual 226) 3 := by unfold dc_at; decide +kernel
theorem dX7_recovery_106 : dc_at mX7_recovery 106 (.ifCond .le 8) 3 := by unfold dc_at; decide +kernel
theorem dX7_recovery_109 : dc_at mX7_recovery 109 (.iload 4) 2 := by unfold dc_at; decide +kernel
theorem dX7_recovery_111 : dc_at mX7_recovery 111 (.iconst 1) 1 := by unfold dc_at; decide +kernel
theorem dX7_recovery_112 : dc_at mX7_recovery 112 (.iadd) 1 := by unfold dc_at; decide +kernel
theorem dX7_recovery_113 : dc_at mX7_recovery 113 (.istore_n 3) 1 := by unfold dc_at; decide +kernel
theorem dX7_recovery_114 : dc_at mX7_recovery 114 (.iinc 4 1) 3 := by unfold dc_at; decide +kernel
theorem dX7_recovery_117 : dc_at mX7_recovery 117 (.goto (-41)) 3 := by unfold dc_at; decide +kernel
theorem dX7_recovery_120 : dc_at mX7_recovery 120 (.iload_n 3) 1 := by unfold dc_at; decide +kernel
theorem dX7_recovery_121 : dc_at mX7_recovery 121 (.bipush 60) 2 := by unfold dc_at; decide +kernel
theorem dX7_recovery_123 : dc_at mX7_recovery 123 (.if_icmp .le 8) 3 := by unfold dc_at; decide +kernel
theorem dX7_recovery_126 : dc_at mX7_recovery 126 (.bipush (-4)) 2 := by unfold dc_at; decide +kernel
theorem dX7_recovery_128 : dc_at mX7_recovery 128 (.goto 4) 3 := by unfold dc_at; decide +kernel
theorem dX7_recovery_131 : dc_at mX7_recovery 131 (.iload_n 3) 1 := by unfold dc_at; decide +kernel
theorem dX7_recovery_132 : dc_at mX7_recovery 132 (.ireturn) 1 := by unfold dc_at; decide +kernel
theorem dX7_store_0 : dc_at mX7_store 0 (.aload_n 0) 1 := by unfold dc_at; decide +kernel
theorem dX7_store_1 : dc_at mX7_store 1 (.getfield 28) 3 := by unfold dc_at; decide +kernel
theorem dX7_store_4 : dc_at mX7_store 4 (.aload_n 0) 1 := by unfold dc_at; decide +kernel
theorem dX7_store_5 : dc_at mX7_store 5 (.getfield 24) 3 := by unfold dc_at; decide +kernel
theorem dX7_store_8 : dc_at mX7_store 8 (.invokevirtual 230) 3 := by unfold dc_at; decide +kernel
theorem dX7_store_11 : dc_at mX7_store 11 (.aload_n 0) 1 := by unfold dc_at; decide +kernel
theorem dX7_store_12 : dc_at mX7_store 12 (.iconst 1) 1 := by unfold dc_at; decide +kernel
theorem dX7_store_13 : dc_at mX7_store 13 (.putfield 52) 3 := by unfold dc_at; decide +kernel
theorem dX7_store_16 : dc_at mX7_store 16 (.aload_n 0) 1 := by unfold dc_at; decide +kernel
theorem dX7_store_17 : dc_at mX7_store 17 (.getfield 24) 3 := by unfold dc_at; decide +kernel
theorem dX7_store_20 : dc_at mX7_store 20 (.getfield 125) 3 := by unfold dc_at; decide +kernel
theorem dX7_store_23 : dc_at mX7_store 23 (.ireturn) 1 := by unfold dc_at; decide +kernel
theorem dX7_recall_0 : dc_at mX7_recall 0 (.aload_n 0) 1 := by unfold dc_at; decide +kernel
theorem dX7_recall_1 : dc_at mX7_recall 1 (.getfield 52) 3 := by unfold dc_at; decide +kernel
theorem dX7_recall_4 : dc_at mX7_recall 4 (.ifCond .ne 6) 3 := by unfold dc_at; decide +kernel
theorem dX7_recall_7 : dc_at mX7_recall 7 (.bipush (-2)) 2 := by unfold dc_at; decide +kernel
theorem dX7_recall_9 : dc_at mX7_recall 9 (.ireturn) 1 := by unfold dc_at; decide +kernel
theorem dX7_recall_10 : dc_at mX7_recall 10 (.aload_n 0) 1 := by unfold dc_at; decide +kernel
theorem dX7_recall_11 : dc_at mX7_recall 11 (.getfield 24) 3 := by unfold dc_at; decide +kernel
theorem dX7_recall_14 : dc_at mX7_recall 14 (.aload_n 0) 1 := by unfold dc_at; decide +kernel
theorem dX7_recall_15 : dc_at mX7_recall 15 (.getfield 28) 3 := by unfold dc_at; decide +kernel
theorem dX7_recall_18 : dc_at mX7_recall 18 (.invokevirtual 230) 3 := by unfold dc_at; decide +kernel
theorem dX7_recall_21 : dc_at mX7_recall 21 (.aload_n 0) 1 := by unfold dc_at; decide +kernel
theorem dX7_recall_22 : dc_at mX7_recall 22 (.getfield 24) 3 := by unfold dc_at; decide +kernel
theorem dX7_recall_25 : dc_at mX7_recall 25 (.getfield 125) 3 := by unfold dc_at; decide +kernel
theorem dX7_recall_28 : dc_at mX7_recall 28 (.ireturn) 1 := by unfold dc_at; decide +kernel
theorem dX7_isNode_0 : dc_at mX7_isNode 0 (.iload_n 1) 1 := by unfold dc_at; decide +kernel
theorem dX7_isNode_1 : dc_at mX7_isNode 1 (.ifCond .lt 18) 3 := by unfold dc_at; decide +kernel
theorem dX7_isNode_4 : dc_at mX7_isNode 4 (.iload_n 1) 1 := by unfold dc_at; decide +kernel
theorem dX7_isNode_5 : dc_at mX7_isNode 5 (.aload_n 0) 1 := by unfold dc_at; decide +kernel
theorem dX7_isNode_6 : dc_at mX7_isNode 6 (.getfield 24) 3 := by unfold dc_at; decide +kernel
theorem dX7_isNode_9 : dc_at mX7_isNode 9 (.getfield 60) 3 := by unfold dc_at; decide +kernel
theorem dX7_isNode_12 : dc_at mX7_isNode 12 (.if_icmp .ge 7) 3 := by unfold dc_at; decide +kernel
theorem dX7_isNode_15 : dc_at mX7_isNode 15 (.iconst 1) 1 := by unfold dc_at; decide +kernel
theorem dX7_isNode_16 : dc_at mX7_isNode 16 (.goto 4) 3 := by unfold dc_at; decide +kernel
theorem dX7_isNode_19 : dc_at mX7_isNode 19 (.iconst 0) 1 := by unfold dc_at; decide +kernel
theorem dX7_isNode_20 : dc_at mX7_isNode 20 (.ireturn) 1 := by unfold dc_at; decide +kernel
theorem dX7_isPair_0 : dc_at mX7_isPair 0 (.aload_n 0) 1 := by unfold dc_at; decide +kernel
theorem dX7_isPair_1 : dc_at mX7_isPair 1 (.iload_n 1) 1 := by unfold dc_at; decide +kernel
theorem dX7_isPair_2 : dc_at mX7_isPair 2 (.invokevirtual 171) 3 := by unfold dc_at; decide +kernel
theorem dX7_isPair_5 : dc_at mX7_isPair 5 (.ifCond .eq 20) 3 := by unfold dc_at; decide +kernel
theorem dX7_isPair_8 : dc_at mX7_isPair 8 (.aload_n 0) 1 := by unfold dc_at; decide +kernel
theorem dX7_isPair_9 : dc_at mX7_isPair 9 (.iload_n 2) 1 := by unfold dc_at; decide +kernel
theorem dX7_isPair_10 : dc_at mX7_isPair 10 (.invokevirtual 171) 3 := by unfold dc_at; decide +kernel
theorem dX7_isPair_13 : dc_at mX7_isPair 13 (.ifCond .eq 12) 3 := by unfold dc_at; decide +kernel
theorem dX7_isPair_16 : dc_at mX7_isPair 16 (.iload_n 1) 1 := by unfold dc_at; decide +kernel
theorem dX7_isPair_17 : dc_at mX7_isPair 17 (.iload_n 2) 1 := by unfold dc_at; decide +kernel
theorem dX7_isPair_18 : dc_at mX7_isPair 18 (.if_icmp .eq 7) 3 := by unfold dc_at; decide +kernel
theorem dX7_isPair_21 : dc_at mX7_isPair 21 (.iconst 1) 1 := by unfold dc_at; decide +kernel
theorem dX7_isPair_22 : dc_at mX7_isPair 22 (.goto 4) 3 := by unfold dc_at; decide +kernel
theorem dX7_isPair_25 : dc_at mX7_isPair 25 (.iconst 0) 1 := by unfold dc_at; decide +kernel
theorem dX7_isPair_26 : dc_at mX7_isPair 26 (.ireturn) 1 := by unfold dc_at; decide +kernel
theorem dX7_isBetween_0 : dc_at mX7_isBetween 0 (.iload_n 0) 1 := by unfold dc_at; decide +kernel
theorem dX7_isBetween_1 : dc_at mX7_isBetween 1 (.iload_n 1) 1 := by unfold dc_at; decide +kernel
theorem dX7_isBetween_2 : dc_at mX7_isBetween 2 (.if_icmp .lt 12) 3 := by unfold dc_at; decide +kernel
theorem dX7_isBetween_5 : dc_at mX7_isBetween 5 (.iload_n 0) 1 := by unfold dc_at; decide +kernel
theorem dX7_isBetween_6 : dc_at mX7_isBetween 6 (.iload_n 2) 1 := by unfold dc_at; decide +kernel
theorem dX7_isBetween_7 : dc_at mX7_isBetween 7 (.if_icmp .gt 7) 3 := by unfold dc_at; decide +kernel
theorem dX7_isBetween_10 : dc_at mX7_isBetween 10 (.iconst 1) 1 := by unfold dc_at; decide +kernel
theorem dX7_isBetween_11 : dc_at mX7_isBetween 11 (.goto 4) 3 := by unfold dc_at; decide +kernel
theorem dX7_isBetween_14 : dc_at mX7_isBetween 14 (.iconst 0) 1 := by unfold dc_at; decide +kernel
theorem dX7_isBetween_15 : dc_at mX7_isBetween 15 (.ireturn) 1 := by unfold dc_at; decide +kernel
theorem dX7_isSetting_0 : dc_at mX7_isSetting 0 (.iload_n 0) 1 := by unfold dc_at; decide +kernel
theorem dX7_isSetting_1 : dc_at mX7_isSetting 1 (.iconst 0) 1 := by unfold dc_at; decide +kernel
theorem dX7_isSetting_2 : dc_at mX7_isSetting 2 (.iconst 3) 1 := by unfold dc_at; decide +kernel
theorem dX7_isSetting_3 : dc_at mX7_isSetting 3 (.invokestatic 105) 3 := by unfold dc_at; decide +kernel
theorem dX7_isSetting_6 : dc_at mX7_isSetting 6 (.ifCond .ne 14) 3 := by unfold dc_at; decide +kernel
theorem dX7_isSetting_9 : dc_at mX7_isSetting 9 (.iload_n 0) 1 := by unfold dc_at; decide +kernel
theorem dX7_isSetting_10 : dc_at mX7_isSetting 10 (.bipush 6) 2 := by unfold dc_at; decide +kernel
theorem dX7_isSetting_12 : dc_at mX7_isSetting 12 (.bipush 9) 2 := by unfold dc_at; decide +kernel
theorem dX7_isSetting_14 : dc_at mX7_isSetting 14 (.invokestatic 105) 3 := by unfold dc_at; decide +kernel
theorem dX7_isSetting_17 : dc_at mX7_isSetting 17 (.ifCond .eq 7) 3 := by unfold dc_at; decide +kernel
theorem dX7_isSetting_20 : dc_at mX7_isSetting 20 (.iconst 1) 1 := by unfold dc_at; decide +kernel
theorem dX7_isSetting_21 : dc_at mX7_isSetting 21 (.goto 4) 3 := by unfold dc_at; decide +kernel
theorem dX7_isSetting_24 : dc_at mX7_isSetting 24 (.iconst 0) 1 := by unfold dc_at; decide +kernel
theorem dX7_isSetting_25 : dc_at mX7_isSetting 25 (.ireturn) 1 := by unfold dc_at; decide +kernel
theorem dX7_asNumber_0 : dc_at mX7_asNumber 0 (.iload_n 0) 1 := by unfold dc_at; decide +kernel
theorem dX7_asNumber_1 : dc_at mX7_asNumber 1 (.ifCond .eq 7) 3 := by unfold dc_at; decide +kernel
theorem dX7_asNumber_4 : dc_at mX7_asNumber 4 (.iconst 1) 1 := by unfold dc_at; decide +kernel
theorem dX7_asNumber_5 : dc_at mX7_asNumber 5 (.goto 4) 3 := by unfold dc_at; decide +kernel
theorem dX7_asNumber_8 : dc_at mX7_asNumber 8 (.iconst 0) 1 := by unfold dc_at; decide +kernel
theorem dX7_asNumber_9 : dc_at mX7_asNumber 9 (.ireturn) 1 := by unfold dc_at; decide +kernel
theorem dX7_pair_0 : dc_at mX7_pair 0 (.iload_n 0) 1 := by unfold dc_at; decide +kernel
theorem dX7_pair_1 : dc_at mX7_pair 1 (.bipush 8) 2 := by unfold dc_at; decide +kernel
theorem dX7_pair_3 : dc_at mX7_pair 3 (.imul) 1 := by unfold dc_at; decide +kernel
theorem dX7_pair_4 : dc_at mX7_pair 4 (.iload_n 1) 1 := by unfold dc_at; decide +kernel
theorem dX7_pair_5 : dc_at mX7_pair 5 (.iadd) 1 := by unfold dc_at; decide +kernel
theorem dX7_pair_6 : dc_at mX7_pair 6 (.ireturn) 1 := by unfold dc_at; decide +kernel
theorem dX7_slot_0 : dc_at mX7_slot 0 (.iload_n 0) 1 := by unfold dc_at; decide +kernel
theorem dX7_slot_1 : dc_at mX7_slot 1 (.bipush 8) 2 := by unfold dc_at; decide +kernel
theorem dX7_slot_3 : dc_at mX7_slot 3 (.imul) 1 := by unfold dc_at; decide +kernel
theorem dX7_slot_4 : dc_at mX7_slot 4 (.iload_n 1) 1 := by unfold dc_at; decide +kernel
theorem dX7_slot_5 : dc_at mX7_slot 5 (.iadd) 1 := by unfold dc_at; decide +kernel
theorem dX7_slot_6 : dc_at mX7_slot 6 (.bipush 8) 2 := by unfold dc_at; decide +kernel
theorem dX7_slot_8 : dc_at mX7_slot 8 (.imul) 1 := by unfold dc_at; decide +kernel
theorem dX7_slot_9 : dc_at mX7_slot 9 (.iload_n 2) 1 := by unfold dc_at; decide +kernel
theorem dX7_slot_10 : dc_at mX7_slot 10 (.iadd) 1 := by unfold dc_at; decide +kernel
theorem dX7_slot_11 : dc_at mX7_slot 11 (.ireturn) 1 := by unfold dc_at; decide +kernel
theorem dX7_counts_0 : dc_at mX7_counts 0 (.iload_n 1) 1 := by unfold dc_at; decide +kernel
theorem dX7_counts_1 : dc_at mX7_counts 1 (.iload_n 2) 1 := by unfold dc_at; decide +kernel
theorem dX7_counts_2 : dc_at mX7_counts 2 (.iload_n 3) 1 := by unfold dc_at; decide +kernel
theorem dX7_counts_3 : dc_at mX7_counts 3 (.invokestatic 136) 3 := by unfold dc_at; decide +kernel
theorem dX7_counts_6 : dc_at mX7_counts 6 (.istore 5) 2 := by unfold dc_at; decide +kernel
theorem dX7_counts_8 : dc_at mX7_counts 8 (.aload_n 0) 1 := by unfold dc_at; decide +kernel
theorem dX7_counts_9 : dc_at mX7_counts 9 (.getfield 24) 3 := by unfold dc_at; decide +kernel
theorem dX7_counts_12 : dc_at mX7_counts 12 (.getfield 140) 3 := by unfold dc_at; decide +kernel
theorem dX7_counts_15 : dc_at mX7_counts 15 (.iload 5) 2 := by unfold dc_at; decide +kernel
theorem dX7_counts_17 : dc_at mX7_counts 17 (.invokevirtual 144) 3 := by unfold dc_at; decide +kernel
theorem dX7_counts_20 : dc_at mX7_counts 20 (.ifCond .ne 5) 3 := by unfold dc_at; decide +kernel
theorem dX7_counts_23 : dc_at mX7_counts 23 (.iconst 0) 1 := by unfold dc_at; decide +kernel
theorem dX7_counts_24 : dc_at mX7_counts 24 (.ireturn) 1 := by unfold dc_at; decide +kernel
theorem dX7_counts_25 : dc_at mX7_counts 25 (.iload 4) 2 := by unfold dc_at; decide +kernel
theorem dX7_counts_27 : dc_at mX7_counts 27 (.tableswitch 63 0 2 #[25, 27, 45]) 25 := by unfold dc_at; decide +kernel
theorem dX7_counts_52 : dc_at mX7_counts 52 (.iconst 1) 1 := by unfold dc_at; decide +kernel
theorem dX7_counts_53 : dc_at mX7_counts 53 (.ireturn) 1 := by unfold dc_at; decide +kernel
theorem dX7_counts_54 : dc_at mX7_counts 54 (.aload_n 0) 1 := by unfold dc_at; decide +kernel
theorem dX7_counts_55 : dc_at mX7_counts 55 (.getfield 24) 3 := by unfold dc_at; decide +kernel
theorem dX7_counts_58 : dc_at mX7_counts 58 (.iload_n 1) 1 := by unfold dc_at; decide +kernel
theorem dX7_counts_59 : dc_at mX7_counts 59 (.iload_n 2) 1 := by unfold dc_at; decide +kernel
theorem dX7_counts_60 : dc_at mX7_counts 60 (.iload_n 3) 1 := by unfold dc_at; decide +kernel
theorem dX7_counts_61 : dc_at mX7_counts 61 (.aload_n 0) 1 := by unfold dc_at; decide +kernel
theorem dX7_counts_62 : dc_at mX7_counts 62 (.getfield 18) 3 := by unfold dc_at; decide +kernel
theorem dX7_counts_65 : dc_at mX7_counts 65 (.bipush 6) 2 := by unfold dc_at; decide +kernel
theorem dX7_counts_67 : dc_at mX7_counts 67 (.iaload) 1 := by unfold dc_at; decide +kernel
theorem dX7_counts_68 : dc_at mX7_counts 68 (.invokevirtual 160) 3 := by unfold dc_at; decide +kernel
theorem dX7_counts_71 : dc_at mX7_counts 71 (.ireturn) 1 := by unfold dc_at; decide +kernel
theorem dX7_counts_72 : dc_at mX7_counts 72 (.aload_n 0) 1 := by unfold dc_at; decide +kernel
theorem dX7_counts_73 : dc_at mX7_counts 73 (.getfield 24) 3 := by unfold dc_at; decide +kernel
theorem dX7_counts_76 : dc_at mX7_counts 76 (.iload_n 1) 1 := by unfold dc_at; decide +kernel
theorem dX7_counts_77 : dc_at mX7_counts 77 (.iload_n 2) 1 := by unfold dc_at; decide +kernel
theorem dX7_counts_78 : dc_at mX7_counts 78 (.iload_n 3) 1 := by unfold dc_at; decide +kernel
theorem dX7_counts_79 : dc_at mX7_counts 79 (.aload_n 0) 1 := by unfold dc_at; decide +kernel
theorem dX7_counts_80 : dc_at mX7_counts 80 (.getfield 18) 3 := by unfold dc_at; decide +kernel
theorem dX7_counts_83 : dc_at mX7_counts 83 (.bipush 6) 2 := by unfold dc_at; decide +kernel
theorem dX7_counts_85 : dc_at mX7_counts 85 (.iaload) 1 := by unfold dc_at; decide +kernel
theorem dX7_counts_86 : dc_at mX7_counts 86 (.invokevirtual 168) 3 := by unfold dc_at; decide +kernel
theorem dX7_counts_89 : dc_at mX7_counts 89 (.ireturn) 1 := by unfold dc_at; decide +kernel
theorem dX7_counts_90 : dc_at mX7_counts 90 (.aload_n 0) 1 := by unfold dc_at; decide +kernel
theorem dX7_counts_91 : dc_at mX7_counts 91 (.getfield 24) 3 := by unfold dc_at; decide +kernel
theorem dX7_counts_94 : dc_at mX7_counts 94 (.getfield 125) 3 := by unfold dc_at; decide +kernel
theorem dX7_counts_97 : dc_at mX7_counts 97 (.aload_n 0) 1 := by unfold dc_at; decide +kernel
theorem dX7_counts_98 : dc_at mX7_counts 98 (.getfield 24) 3 := by unfold dc_at; decide +kernel
theorem dX7_counts_101 : dc_at mX7_counts 101 (.getfield 140) 3 := by unfold dc_at; decide +kernel
theorem dX7_counts_104 : dc_at mX7_counts 104 (.getfield 157) 3 := by unfold dc_at; decide +kernel
theorem dX7_counts_107 : dc_at mX7_counts 107 (.iload 5) 2 := by unfold dc_at; decide +kernel
theorem dX7_counts_109 : dc_at mX7_counts 109 (.iaload) 1 := by unfold dc_at; decide +kernel
theorem dX7_counts_110 : dc_at mX7_counts 110 (.if_icmp .gt 7) 3 := by unfold dc_at; decide +kernel
theorem dX7_counts_113 : dc_at mX7_counts 113 (.iconst 1) 1 := by unfold dc_at; decide +kernel
theorem dX7_counts_114 : dc_at mX7_counts 114 (.goto 4) 3 := by unfold dc_at; decide +kernel
theorem dX7_counts_117 : dc_at mX7_counts 117 (.iconst 0) 1 := by unfold dc_at; decide +kernel
theorem dX7_counts_118 : dc_at mX7_counts 118 (.ireturn) 1 := by unfold dc_at; decide +kernel
theorem dX7_isWrong_0 : dc_at mX7_isWrong 0 (.aload_n 0) 1 := by unfold dc_at; decide +kernel
theorem dX7_isWrong_1 : dc_at mX7_isWrong 1 (.getfield 44) 3 := by unfold dc_at; decide +kernel
theorem dX7_isWrong_4 : dc_at mX7_isWrong 4 (.iload_n 1) 1 := by unfold dc_at; decide +kernel
theorem dX7_isWrong_5 : dc_at mX7_isWrong 5 (.invokevirtual 214) 3 := by unfold dc_at; decide +kernel
theorem dX7_isWrong_8 : dc_at mX7_isWrong 8 (.ifCond .ne 12) 3 := by unfold dc_at; decide +kernel
theorem dX7_isWrong_11 : dc_at mX7_isWrong 11 (.aload_n 0) 1 := by unfold dc_at; decide +kernel
theorem dX7_isWrong_12 : dc_at mX7_isWrong 12 (.getfield 37) 3 := by unfold dc_at; decide +kernel
theorem dX7_isWrong_15 : dc_at mX7_isWrong 15 (.iload_n 1) 1 := by unfold dc_at; decide +kernel
theorem dX7_isWrong_16 : dc_at mX7_isWrong 16 (.invokevirtual 178) 3 := by unfold dc_at; decide +kernel
theorem dX7_isWrong_19 : dc_at mX7_isWrong 19 (.ireturn) 1 := by unfold dc_at; decide +kernel
theorem dX7_isWrong_20 : dc_at mX7_isWrong 20 (.aload_n 0) 1 := by unfold dc_at; decide +kernel
theorem dX7_isWrong_21 : dc_at mX7_isWrong 21 (.getfield 44) 3 := by unfold dc_at; decide +kernel
theorem dX7_isWrong_24 : dc_at mX7_isWrong 24 (.getfield 217) 3 := by unfold dc_at; decide +kernel
theorem dX7_isWrong_27 : dc_at mX7_isWrong 27 (.iload_n 1) 1 := by unfold dc_at; decide +kernel
theorem dX7_isWrong_28 : dc_at mX7_isWrong 28 (.iaload) 1 := by unfold dc_at; decide +kernel
theorem dX7_isWrong_29 : dc_at mX7_isWrong 29 (.aload_n 0) 1 := by unfold dc_at; decide +kernel
theorem dX7_isWrong_30 : dc_at mX7_isWrong 30 (.getfield 37) 3 := by unfold dc_at; decide +kernel
theorem dX7_isWrong_33 : dc_at mX7_isWrong 33 (.getfield 181) 3 := by unfold dc_at; decide +kernel
theorem dX7_isWrong_36 : dc_at mX7_isWrong 36 (.iload_n 1) 1 := by unfold dc_at; decide +kernel
theorem dX7_isWrong_37 : dc_at mX7_isWrong 37 (.iaload) 1 := by unfold dc_at; decide +kernel
theorem dX7_isWrong_38 : dc_at mX7_isWrong 38 (.aload_n 0) 1 := by unfold dc_at; decide +kernel
theorem dX7_isWrong_39 : dc_at mX7_isWrong 39 (.getfield 37) 3 := by unfold dc_at; decide +kernel
theorem dX7_isWrong_42 : dc_at mX7_isWrong 42 (.getfield 182) 3 := by unfold dc_at; decide +kernel
theorem dX7_isWrong_45 : dc_at mX7_isWrong 45 (.iload_n 1) 1 := by unfold dc_at; decide +kernel
theorem dX7_isWrong_46 : dc_at mX7_isWrong 46 (.iaload) 1 := by unfold dc_at; decide +kernel
theorem dX7_isWrong_47 : dc_at mX7_isWrong 47 (.invokestatic 105) 3 := by unfold dc_at; decide +kernel
theorem dX7_isWrong_50 : dc_at mX7_isWrong 50 (.ifCond .ne 7) 3 := by unfold dc_at; decide +kernel
theorem dX7_isWrong_53 : dc_at mX7_isWrong 53 (.iconst 1) 1 := by unfold dc_at; decide +kernel
theorem dX7_isWrong_54 : dc_at mX7_isWrong 54 (.goto 4) 3 := by unfold dc_at; decide +kernel
theorem dX7_isWrong_57 : dc_at mX7_isWrong 57 (.iconst 0) 1 := by unfold dc_at; decide +kernel
theorem dX7_isWrong_58 : dc_at mX7_isWrong 58 (.ireturn) 1 := by unfold dc_at; decide +kernel
theorem dX7_bitsOf_0 : dc_at mX7_bitsOf 0 (.fload_n 0) 1 := by unfold dc_at; decide +kernel
theorem dX7_bitsOf_1 : dc_at mX7_bitsOf 1 (.fconst 0) 1 := by unfold dc_at; decide +kernel
theorem dX7_bitsOf_2 : dc_at mX7_bitsOf 2 (.fcmp .l) 1 := by unfold dc_at; decide +kernel
theorem dX7_bitsOf_3 : dc_at mX7_bitsOf 3 (.ifCond .gt 5) 3 := by unfold dc_at; decide +kernel
theorem dX7_bitsOf_6 : dc_at mX7_bitsOf 6 (.iconst 0) 1 := by unfold dc_at; decide +kernel
theorem dX7_bitsOf_7 : dc_at mX7_bitsOf 7 (.ireturn) 1 := by unfold dc_at; decide +kernel
theorem dX7_bitsOf_8 : dc_at mX7_bitsOf 8 (.fload_n 0) 1 := by unfold dc_at; decide +kernel
theorem dX7_bitsOf_9 : dc_at mX7_bitsOf 9 (.fstore_n 1) 1 := by unfold dc_at; decide +kernel
theorem dX7_bitsOf_10 : dc_at mX7_bitsOf 10 (.bipush 127) 2 := by unfold dc_at; decide +kernel
theorem dX7_bitsOf_12 : dc_at mX7_bitsOf 12 (.istore_n 2) 1 := by unfold dc_at; decide +kernel
theorem dX7_bitsOf_13 : dc_at mX7_bitsOf 13 (.iconst 0) 1 := by unfold dc_at; decide +kernel
theorem dX7_bitsOf_14 : dc_at mX7_bitsOf 14 (.istore_n 3) 1 := by unfold dc_at; decide +kernel
theorem dX7_bitsOf_15 : dc_at mX7_bitsOf 15 (.iload_n 3) 1 := by unfold dc_at; decide +kernel
theorem dX7_bitsOf_16 : dc_at mX7_bitsOf 16 (.sipush 128) 3 := by unfold dc_at; decide +kernel
theorem dX7_bitsOf_19 : dc_at mX7_bitsOf 19 (.if_icmp .ge 22) 3 := by unfold dc_at; decide +kernel
theorem dX7_bitsOf_22 : dc_at mX7_bitsOf 22 (.fload_n 1) 1 := by unfold dc_at; decide +kernel
theorem dX7_bitsOf_23 : dc_at mX7_bitsOf 23 (.fconst 2) 1 := by unfold dc_at; decide +kernel
theorem dX7_bitsOf_24 : dc_at mX7_bitsOf 24 (.fcmp .l) 1 := by unfold dc_at; decide +kernel
theorem dX7_bitsOf_25 : dc_at mX7_bitsOf 25 (.ifCond .lt 16) 3 := by unfold dc_at; decide +kernel
theorem dX7_bitsOf_28 : dc_at mX7_bitsOf 28 (.fload_n 1) 1 := by unfold dc_at; decide +kernel
theorem dX7_bitsOf_29 : dc_at mX7_bitsOf 29 (.fconst 2) 1 := by unfold dc_at; decide +kernel
theorem dX7_bitsOf_30 : dc_at mX7_bitsOf 30 (.fdiv) 1 := by unfold dc_at; decide +kernel
theorem dX7_bitsOf_31 : dc_at mX7_bitsOf 31 (.fstore_n 1) 1 := by unfold dc_at; decide +kernel
theorem dX7_bitsOf_32 : dc_at mX7_bitsOf 32 (.iinc 2 1) 3 := by unfold dc_at; decide +kernel
theorem dX7_bitsOf_35 : dc_at mX7_bitsOf 35 (.iinc 3 1) 3 := by unfold dc_at; decide +kernel
theorem dX7_bitsOf_38 : dc_at mX7_bitsOf 38 (.goto (-23)) 3 := by unfold dc_at; decide +kernel
theorem dX7_bitsOf_41 : dc_at mX7_bitsOf 41 (.iconst 0) 1 := by unfold dc_at; decide +kernel
theorem dX7_bitsOf_42 : dc_at mX7_bitsOf 42 (.istore_n 3) 1 := by unfold dc_at; decide +kernel
theorem dX7_bitsOf_43 : dc_at mX7_bitsOf 43 (.iload_n 3) 1 := by unfold dc_at; decide +kernel
theorem dX7_bitsOf_44 : dc_at mX7_bitsOf 44 (.sipush 128) 3 := by unfold dc_at; decide +kernel
theorem dX7_bitsOf_47 : dc_at mX7_bitsOf 47 (.if_icmp .ge 22) 3 := by unfold dc_at; decide +kernel
theorem dX7_bitsOf_50 : dc_at mX7_bitsOf 50 (.fload_n 1) 1 := by unfold dc_at; decide +kernel
theorem dX7_bitsOf_51 : dc_at mX7_bitsOf 51 (.fconst 1) 1 := by unfold dc_at; decide +kernel
theorem dX7_bitsOf_52 : dc_at mX7_bitsOf 52 (.fcmp .g) 1 := by unfold dc_at; decide +kernel
theorem dX7_bitsOf_53 : dc_at mX7_bitsOf 53 (.ifCond .ge 16) 3 := by unfold dc_at; decide +kernel
theorem dX7_bitsOf_56 : dc_at mX7_bitsOf 56 (.fload_n 1) 1 := by unfold dc_at; decide +kernel
theorem dX7_bitsOf_57 : dc_at mX7_bitsOf 57 (.fconst 2) 1 := by unfold dc_at; decide +kernel
theorem dX7_bitsOf_58 : dc_at mX7_bitsOf 58 (.fmul) 1 := by unfold dc_at; decide +kernel
theorem dX7_bitsOf_59 : dc_at mX7_bitsOf 59 (.fstore_n 1) 1 := by unfold dc_at; decide +kernel
theorem dX7_bitsOf_60 : dc_at mX7_bitsOf 60 (.iinc 2 (-1)) 3 := by unfold dc_at; decide +kernel
theorem dX7_bitsOf_63 : dc_at mX7_bitsOf 63 (.iinc 3 1) 3 := by unfold dc_at; decide +kernel
theorem dX7_bitsOf_66 : dc_at mX7_bitsOf 66 (.goto (-23)) 3 := by unfold dc_at; decide +kernel
theorem dX7_bitsOf_69 : dc_at mX7_bitsOf 69 (.iload_n 2) 1 := by unfold dc_at; decide +kernel
theorem dX7_bitsOf_70 : dc_at mX7_bitsOf 70 (.bipush 23) 2 := by unfold dc_at; decide +kernel
theorem dX7_bitsOf_72 : dc_at mX7_bitsOf 72 (.ishl) 1 := by unfold dc_at; decide +kernel
theorem dX7_bitsOf_73 : dc_at mX7_bitsOf 73 (.fload_n 1) 1 := by unfold dc_at; decide +kernel
theorem dX7_bitsOf_74 : dc_at mX7_bitsOf 74 (.ldc 240) 2 := by unfold dc_at; decide +kernel
theorem dX7_bitsOf_76 : dc_at mX7_bitsOf 76 (.fmul) 1 := by unfold dc_at; decide +kernel
theorem dX7_bitsOf_77 : dc_at mX7_bitsOf 77 (.f2i) 1 := by unfold dc_at; decide +kernel
theorem dX7_bitsOf_78 : dc_at mX7_bitsOf 78 (.iadd) 1 := by unfold dc_at; decide +kernel
theorem dX7_bitsOf_79 : dc_at mX7_bitsOf 79 (.ldc 241) 2 := by unfold dc_at; decide +kernel
theorem dX7_bitsOf_81 : dc_at mX7_bitsOf 81 (.isub) 1 := by unfold dc_at; decide +kernel
theorem dX7_bitsOf_82 : dc_at mX7_bitsOf 82 (.ireturn) 1 := by unfold dc_at; decide +kernel
theorem dX7_makeTick_0 : dc_at mX7_makeTick 0 (.aload_n 1) 1 := by unfold dc_at; decide +kernel
theorem dX7_makeTick_1 : dc_at mX7_makeTick 1 (.dup) 1 := by unfold dc_at; decide +kernel
theorem dX7_makeTick_2 : dc_at mX7_makeTick 2 (.getfield 125) 3 := by unfold dc_at; decide +kernel
theorem dX7_makeTick_5 : dc_at mX7_makeTick 5 (.iconst 1) 1 := by unfold dc_at; decide +kernel
theorem dX7_makeTick_6 : dc_at mX7_makeTick 6 (.iadd) 1 := by unfold dc_at; decide +kernel
theorem dX7_makeTick_7 : dc_at mX7_makeTick 7 (.putfield 125) 3 := by unfold dc_at; decide +kernel
theorem dX7_makeTick_10 : dc_at mX7_makeTick 10 (.aload_n 0) 1 := by unfold dc_at; decide +kernel
theorem dX7_makeTick_11 : dc_at mX7_makeTick 11 (.getfield 37) 3 := by unfold dc_at; decide +kernel
theorem dX7_makeTick_14 : dc_at mX7_makeTick 14 (.aload_n 1) 1 := by unfold dc_at; decide +kernel
theorem dX7_makeTick_15 : dc_at mX7_makeTick 15 (.aload_n 0) 1 := by unfold dc_at; decide +kernel
theorem dX7_makeTick_16 : dc_at mX7_makeTick 16 (.getfield 18) 3 := by unfold dc_at; decide +kernel
theorem dX7_makeTick_19 : dc_at mX7_makeTick 19 (.invokevirtual 189) 3 := by unfold dc_at; decide +kernel
theorem dX7_makeTick_22 : dc_at mX7_makeTick 22 (.aload_n 0) 1 := by unfold dc_at; decide +kernel
theorem dX7_makeTick_23 : dc_at mX7_makeTick 23 (.aload_n 1) 1 := by unfold dc_at; decide +kernel
theorem dX7_makeTick_24 : dc_at mX7_makeTick 24 (.invokevirtual 242) 3 := by unfold dc_at; decide +kernel
theorem dX7_makeTick_27 : dc_at mX7_makeTick 27 (.iconst 0) 1 := by unfold dc_at; decide +kernel
theorem dX7_makeTick_28 : dc_at mX7_makeTick 28 (.istore_n 2) 1 := by unfold dc_at; decide +kernel
theorem dX7_makeTick_29 : dc_at mX7_makeTick 29 (.iload_n 2) 1 := by unfold dc_at; decide +kernel
theorem dX7_makeTick_30 : dc_at mX7_makeTick 30 (.aload_n 1) 1 := by unfold dc_at; decide +kernel
theorem dX7_makeTick_31 : dc_at mX7_makeTick 31 (.getfield 60) 3 := by unfold dc_at; decide +kernel
theorem dX7_makeTick_34 : dc_at mX7_makeTick 34 (.if_icmp .ge 24) 3 := by unfold dc_at; decide +kernel
theorem dX7_makeTick_37 : dc_at mX7_makeTick 37 (.aload_n 0) 1 := by unfold dc_at; decide +kernel
theorem dX7_makeTick_38 : dc_at mX7_makeTick 38 (.getfield 48) 3 := by unfold dc_at; decide +kernel
theorem dX7_makeTick_41 : dc_at mX7_makeTick 41 (.iload_n 2) 1 := by unfold dc_at; decide +kernel
theorem dX7_makeTick_42 : dc_at mX7_makeTick 42 (.baload) 1 := by unfold dc_at; decide +kernel
theorem dX7_makeTick_43 : dc_at mX7_makeTick 43 (.ifCond .eq 9) 3 := by unfold dc_at; decide +kernel
theorem dX7_makeTick_46 : dc_at mX7_makeTick 46 (.aload_n 0) 1 := by unfold dc_at; decide +kernel
theorem dX7_makeTick_47 : dc_at mX7_makeTick 47 (.aload_n 1) 1 := by unfold dc_at; decide +kernel
theorem dX7_makeTick_48 : dc_at mX7_makeTick 48 (.iload_n 2) 1 := by unfold dc_at; decide +kernel
theorem dX7_makeTick_49 : dc_at mX7_makeTick 49 (.invokevirtual 245) 3 := by unfold dc_at; decide +kernel
theorem dX7_makeTick_52 : dc_at mX7_makeTick 52 (.iinc 2 1) 3 := by unfold dc_at; decide +kernel
theorem dX7_makeTick_55 : dc_at mX7_makeTick 55 (.goto (-26)) 3 := by unfold dc_at; decide +kernel
theorem dX7_makeTick_58 : dc_at mX7_makeTick 58 (.aload_n 0) 1 := by unfold dc_at; decide +kernel
theorem dX7_makeTick_59 : dc_at mX7_makeTick 59 (.getfield 37) 3 := by unfold dc_at; decide +kernel
theorem dX7_makeTick_62 : dc_at mX7_makeTick 62 (.aload_n 1) 1 := by unfold dc_at; decide +kernel
theorem dX7_makeTick_63 : dc_at mX7_makeTick 63 (.aload_n 0) 1 := by unfold dc_at; decide +kernel
theorem dX7_makeTick_64 : dc_at mX7_makeTick 64 (.getfield 18) 3 := by unfold dc_at; decide +kernel
theorem dX7_makeTick_67 : dc_at mX7_makeTick 67 (.invokevirtual 189) 3 := by unfold dc_at; decide +kernel
theorem dX7_makeTick_70 : dc_at mX7_makeTick 70 (.aload_n 0) 1 := by unfold dc_at; decide +kernel
theorem dX7_makeTick_71 : dc_at mX7_makeTick 71 (.aload_n 1) 1 := by unfold dc_at; decide +kernel
theorem dX7_makeTick_72 : dc_at mX7_makeTick 72 (.invokevirtual 249) 3 := by unfold dc_at; decide +kernel
theorem dX7_makeTick_75 : dc_at mX7_makeTick 75 (.ireturn) 1 := by unfold dc_at; decide +kernel
theorem dX7_chooseSpeakers_0 : dc_at mX7_chooseSpeakers 0 (.iconst 0) 1 := by unfold dc_at; decide +kernel
theorem dX7_chooseSpeakers_1 : dc_at mX7_chooseSpeakers 1 (.istore_n 2) 1 := by unfold dc_at; decide +kernel
theorem dX7_chooseSpeakers_2 : dc_at mX7_chooseSpeakers 2 (.iload_n 2) 1 := by unfold dc_at; decide +kernel
theorem dX7_chooseSpeakers_3 : dc_at mX7_chooseSpeakers 3 (.aload_n 1) 1 := by unfold dc_at; decide +kernel
theorem dX7_chooseSpeakers_4 : dc_at mX7_chooseSpeakers 4 (.getfield 60) 3 := by unfold dc_at; decide +kernel
theorem dX7_chooseSpeakers_7 : dc_at mX7_chooseSpeakers 7 (.if_icmp .ge 84) 3 := by unfold dc_at; decide +kernel
theorem dX7_chooseSpeakers_10 : dc_at mX7_chooseSpeakers 10 (.aload_n 0) 1 := by unfold dc_at; decide +kernel
theorem dX7_chooseSpeakers_11 : dc_at mX7_chooseSpeakers 11 (.getfield 48) 3 := by unfold dc_at; decide +kernel
theorem dX7_chooseSpeakers_14 : dc_at mX7_chooseSpeakers 14 (.iload_n 2) 1 := by unfold dc_at; decide +kernel
theorem dX7_chooseSpeakers_15 : dc_at mX7_chooseSpeakers 15 (.aload_n 0) 1 := by unfold dc_at; decide +kernel
theorem dX7_chooseSpeakers_16 : dc_at mX7_chooseSpeakers 16 (.aload_n 1) 1 := by unfold dc_at; decide +kernel
theorem dX7_chooseSpeakers_17 : dc_at mX7_chooseSpeakers 17 (.iload_n 2) 1 := by unfold dc_at; decide +kernel
theorem dX7_chooseSpeakers_18 : dc_at mX7_chooseSpeakers 18 (.invokevirtual 252) 3 := by unfold dc_at; decide +kernel
theorem dX7_chooseSpeakers_21 : dc_at mX7_chooseSpeakers 21 (.ifCond .ne 33) 3 := by unfold dc_at; decide +kernel
theorem dX7_chooseSpeakers_24 : dc_at mX7_chooseSpeakers 24 (.aload_n 0) 1 := by unfold dc_at; decide +kernel
theorem dX7_chooseSpeakers_25 : dc_at mX7_chooseSpeakers 25 (.getfield 18) 3 := by unfold dc_at; decide +kernel
theorem dX7_chooseSpeakers_28 : dc_at mX7_chooseSpeakers 28 (.bipush 7) 2 := by unfold dc_at; decide +kernel
theorem dX7_chooseSpeakers_30 : dc_at mX7_chooseSpeakers 30 (.iaload) 1 := by unfold dc_at; decide +kernel
theorem dX7_chooseSpeakers_31 : dc_at mX7_chooseSpeakers 31 (.iconst 1) 1 := by unfold dc_at; decide +kernel
theorem dX7_chooseSpeakers_32 : dc_at mX7_chooseSpeakers 32 (.if_icmp .ne 26) 3 := by unfold dc_at; decide +kernel
theorem dX7_chooseSpeakers_35 : dc_at mX7_chooseSpeakers 35 (.aload_n 1) 1 := by unfold dc_at; decide +kernel
theorem dX7_chooseSpeakers_36 : dc_at mX7_chooseSpeakers 36 (.getfield 256) 3 := by unfold dc_at; decide +kernel
theorem dX7_chooseSpeakers_39 : dc_at mX7_chooseSpeakers 39 (.iload_n 2) 1 := by unfold dc_at; decide +kernel
theorem dX7_chooseSpeakers_40 : dc_at mX7_chooseSpeakers 40 (.aload_n 1) 1 := by unfold dc_at; decide +kernel
theorem dX7_chooseSpeakers_41 : dc_at mX7_chooseSpeakers 41 (.getfield 60) 3 := by unfold dc_at; decide +kernel
theorem dX7_chooseSpeakers_44 : dc_at mX7_chooseSpeakers 44 (.aload_n 0) 1 := by unfold dc_at; decide +kernel
theorem dX7_chooseSpeakers_45 : dc_at mX7_chooseSpeakers 45 (.getfield 37) 3 := by unfold dc_at; decide +kernel
theorem dX7_chooseSpeakers_48 : dc_at mX7_chooseSpeakers 48 (.invokevirtual 260) 3 := by unfold dc_at; decide +kernel
theorem dX7_chooseSpeakers_51 : dc_at mX7_chooseSpeakers 51 (.ifCond .eq 7) 3 := by unfold dc_at; decide +kernel
theorem dX7_chooseSpeakers_54 : dc_at mX7_chooseSpeakers 54 (.iconst 1) 1 := by unfold dc_at; decide +kernel
theorem dX7_chooseSpeakers_55 : dc_at mX7_chooseSpeakers 55 (.goto 4) 3 := by unfold dc_at; decide +kernel
theorem dX7_chooseSpeakers_58 : dc_at mX7_chooseSpeakers 58 (.iconst 0) 1 := by unfold dc_at; decide +kernel
theorem dX7_chooseSpeakers_59 : dc_at mX7_chooseSpeakers 59 (.bastore) 1 := by unfold dc_at; decide +kernel
theorem dX7_chooseSpeakers_60 : dc_at mX7_chooseSpeakers 60 (.aload_n 0) 1 := by unfold dc_at; decide +kernel
theorem dX7_chooseSpeakers_61 : dc_at mX7_chooseSpeakers 61 (.getfield 48) 3 := by unfold dc_at; decide +kernel
theorem dX7_chooseSpeakers_64 : dc_at mX7_chooseSpeakers 64 (.iload_n 2) 1 := by unfold dc_at; decide +kernel
theorem dX7_chooseSpeakers_65 : dc_at mX7_chooseSpeakers 65 (.baload) 1 := by unfold dc_at; decide +kernel
theorem dX7_chooseSpeakers_66 : dc_at mX7_chooseSpeakers 66 (.ifCond .eq 19) 3 := by unfold dc_at; decide +kernel
theorem dX7_chooseSpeakers_69 : dc_at mX7_chooseSpeakers 69 (.aload_n 1) 1 := by unfold dc_at; decide +kernel
theorem dX7_chooseSpeakers_70 : dc_at mX7_chooseSpeakers 70 (.getfield 256) 3 := by unfold dc_at; decide +kernel
theorem dX7_chooseSpeakers_73 : dc_at mX7_chooseSpeakers 73 (.iload_n 2) 1 := by unfold dc_at; decide +kernel
theorem dX7_chooseSpeakers_74 : dc_at mX7_chooseSpeakers 74 (.aload_n 1) 1 := by unfold dc_at; decide +kernel
theorem dX7_chooseSpeakers_75 : dc_at mX7_chooseSpeakers 75 (.getfield 60) 3 := by unfold dc_at; decide +kernel
theorem dX7_chooseSpeakers_78 : dc_at mX7_chooseSpeakers 78 (.aload_n 0) 1 := by unfold dc_at; decide +kernel
theorem dX7_chooseSpeakers_79 : dc_at mX7_chooseSpeakers 79 (.getfield 37) 3 := by unfold dc_at; decide +kernel
theorem dX7_chooseSpeakers_82 : dc_at mX7_chooseSpeakers 82 (.invokevirtual 266) 3 := by unfold dc_at; decide +kernel
theorem dX7_chooseSpeakers_85 : dc_at mX7_chooseSpeakers 85 (.iinc 2 1) 3 := by unfold dc_at; decide +kernel
theorem dX7_chooseSpeakers_88 : dc_at mX7_chooseSpeakers 88 (.goto (-86)) 3 := by unfold dc_at; decide +kernel
theorem dX7_chooseSpeakers_91 : dc_at mX7_chooseSpeakers 91 (.return_) 1 := by unfold dc_at; decide +kernel
theorem dX7_isDue_0 : dc_at mX7_isDue 0 (.aload_n 0) 1 := by unfold dc_at; decide +kernel
theorem dX7_isDue_1 : dc_at mX7_isDue 1 (.getfield 18) 3 := by unfold dc_at; decide +kernel
theorem dX7_isDue_4 : dc_at mX7_isDue 4 (.iconst 0) 1 := by unfold dc_at; decide +kernel
theorem dX7_isDue_5 : dc_at mX7_isDue 5 (.iaload) 1 := by unfold dc_at; decide +kernel
theorem dX7_isDue_6 : dc_at mX7_isDue 6 (.istore_n 3) 1 := by unfold dc_at; decide +kernel
theorem dX7_isDue_7 : dc_at mX7_isDue 7 (.iload_n 3) 1 := by unfold dc_at; decide +kernel
theorem dX7_isDue_8 : dc_at mX7_isDue 8 (.ifCond .le 18) 3 := by unfold dc_at; decide +kernel
theorem dX7_isDue_11 : dc_at mX7_isDue 11 (.aload_n 1) 1 := by unfold dc_at; decide +kernel
theorem dX7_isDue_12 : dc_at mX7_isDue 12 (.getfield 125) 3 := by unfold dc_at; decide +kernel
theorem dX7_isDue_15 : dc_at mX7_isDue 15 (.iload_n 2) 1 := by unfold dc_at; decide +kernel
theorem dX7_isDue_16 : dc_at mX7_isDue 16 (.iadd) 1 := by unfold dc_at; decide +kernel
theorem dX7_isDue_17 : dc_at mX7_isDue 17 (.iload_n 3) 1 := by unfold dc_at; decide +kernel
theorem dX7_isDue_18 : dc_at mX7_isDue 18 (.irem) 1 := by unfold dc_at; decide +kernel
theorem dX7_isDue_19 : dc_at mX7_isDue 19 (.ifCond .ne 7) 3 := by unfold dc_at; decide +kernel
theorem dX7_isDue_22 : dc_at mX7_isDue 22 (.iconst 1) 1 := by unfold dc_at; decide +kernel
theorem dX7_isDue_23 : dc_at mX7_isDue 23 (.goto 4) 3 := by unfold dc_at; decide +kernel
theorem dX7_isDue_26 : dc_at mX7_isDue 26 (.iconst 0) 1 := by unfold dc_at; decide +kernel
theorem dX7_isDue_27 : dc_at mX7_isDue 27 (.ireturn) 1 := by unfold dc_at; decide +kernel
theorem dX7_speak_0 : dc_at mX7_speak 0 (.iconst 0) 1 := by unfold dc_at; decide +kernel
theorem dX7_speak_1 : dc_at mX7_speak 1 (.istore_n 3) 1 := by unfold dc_at; decide +kernel
theorem dX7_speak_2 : dc_at mX7_speak 2 (.iload_n 3) 1 := by unfold dc_at; decide +kernel
theorem dX7_speak_3 : dc_at mX7_speak 3 (.aload_n 1) 1 := by unfold dc_at; decide +kernel
theorem dX7_speak_4 : dc_at mX7_speak 4 (.getfield 60) 3 := by unfold dc_at; decide +kernel
theorem dX7_speak_7 : dc_at mX7_speak 7 (.if_icmp .ge 57) 3 := by unfold dc_at; decide +kernel
theorem dX7_speak_10 : dc_at mX7_speak 10 (.aload_n 1) 1 := by unfold dc_at; decide +kernel
theorem dX7_speak_11 : dc_at mX7_speak 11 (.getfield 68) 3 := by unfold dc_at; decide +kernel
theorem dX7_speak_14 : dc_at mX7_speak 14 (.iload_n 2) 1 := by unfold dc_at; decide +kernel
theorem dX7_speak_15 : dc_at mX7_speak 15 (.iload_n 3) 1 := by unfold dc_at; decide +kernel
theorem dX7_speak_16 : dc_at mX7_speak 16 (.invokevirtual 237) 3 := by unfold dc_at; decide +kernel
theorem dX7_speak_19 : dc_at mX7_speak 19 (.ifCond .ne 6) 3 := by unfold dc_at; decide +kernel
theorem dX7_speak_22 : dc_at mX7_speak 22 (.goto 36) 3 := by unfold dc_at; decide +kernel
theorem dX7_speak_25 : dc_at mX7_speak 25 (.iconst 0) 1 := by unfold dc_at; decide +kernel
theorem dX7_speak_26 : dc_at mX7_speak 26 (.istore 4) 2 := by unfold dc_at; decide +kernel
theorem dX7_speak_28 : dc_at mX7_speak 28 (.iload 4) 2 := by unfold dc_at; decide +kernel
theorem dX7_speak_30 : dc_at mX7_speak 30 (.aload_n 1) 1 := by unfold dc_at; decide +kernel
theorem dX7_speak_31 : dc_at mX7_speak 31 (.getfield 60) 3 := by unfold dc_at; decide +kernel
theorem dX7_speak_34 : dc_at mX7_speak 34 (.if_icmp .ge 24) 3 := by unfold dc_at; decide +kernel
theorem dX7_speak_37 : dc_at mX7_speak 37 (.iload 4) 2 := by unfold dc_at; decide +kernel
theorem dX7_speak_39 : dc_at mX7_speak 39 (.iload_n 3) 1 := by unfold dc_at; decide +kernel
theorem dX7_speak_40 : dc_at mX7_speak 40 (.if_icmp .eq 12) 3 := by unfold dc_at; decide +kernel
theorem dX7_speak_43 : dc_at mX7_speak 43 (.aload_n 0) 1 := by unfold dc_at; decide +kernel
theorem dX7_speak_44 : dc_at mX7_speak 44 (.aload_n 1) 1 := by unfold dc_at; decide +kernel
theorem dX7_speak_45 : dc_at mX7_speak 45 (.iload_n 2) 1 := by unfold dc_at; decide +kernel
theorem dX7_speak_46 : dc_at mX7_speak 46 (.iload_n 3) 1 := by unfold dc_at; decide +kernel
theorem dX7_speak_47 : dc_at mX7_speak 47 (.iload 4) 2 := by unfold dc_at; decide +kernel
theorem dX7_speak_49 : dc_at mX7_speak 49 (.invokevirtual 270) 3 := by unfold dc_at; decide +kernel
theorem dX7_speak_52 : dc_at mX7_speak 52 (.iinc 4 1) 3 := by unfold dc_at; decide +kernel
theorem dX7_speak_55 : dc_at mX7_speak 55 (.goto (-27)) 3 := by unfold dc_at; decide +kernel
theorem dX7_speak_58 : dc_at mX7_speak 58 (.iinc 3 1) 3 := by unfold dc_at; decide +kernel
theorem dX7_speak_61 : dc_at mX7_speak 61 (.goto (-59)) 3 := by unfold dc_at; decide +kernel
theorem dX7_speak_64 : dc_at mX7_speak 64 (.return_) 1 := by unfold dc_at; decide +kernel
theorem dX7_announce_0 : dc_at mX7_announce 0 (.iload_n 2) 1 := by unfold dc_at; decide +kernel
theorem dX7_announce_1 : dc_at mX7_announce 1 (.iload 4) 2 := by unfold dc_at; decide +kernel
theorem dX7_announce_3 : dc_at mX7_announce 3 (.invokestatic 88) 3 := by unfold dc_at; decide +kernel
theorem dX7_announce_6 : dc_at mX7_announce 6 (.istore 5) 2 := by unfold dc_at; decide +kernel
theorem dX7_announce_8 : dc_at mX7_announce 8 (.aload_n 0) 1 := by unfold dc_at; decide +kernel
theorem dX7_announce_9 : dc_at mX7_announce 9 (.getfield 37) 3 := by unfold dc_at; decide +kernel
theorem dX7_announce_12 : dc_at mX7_announce 12 (.iload 5) 2 := by unfold dc_at; decide +kernel
theorem dX7_announce_14 : dc_at mX7_announce 14 (.invokevirtual 178) 3 := by unfold dc_at; decide +kernel
theorem dX7_announce_17 : dc_at mX7_announce 17 (.istore 6) 2 := by unfold dc_at; decide +kernel
theorem dX7_announce_19 : dc_at mX7_announce 19 (.aload_n 0) 1 := by unfold dc_at; decide +kernel
theorem dX7_announce_20 : dc_at mX7_announce 20 (.getfield 37) 3 := by unfold dc_at; decide +kernel
theorem dX7_announce_23 : dc_at mX7_announce 23 (.getfield 183) 3 := by unfold dc_at; decide +kernel
theorem dX7_announce_26 : dc_at mX7_announce 26 (.iload 5) 2 := by unfold dc_at; decide +kernel
theorem dX7_announce_28 : dc_at mX7_announce 28 (.iaload) 1 := by unfold dc_at; decide +kernel
theorem dX7_announce_29 : dc_at mX7_announce 29 (.iload_n 3) 1 := by unfold dc_at; decide +kernel
theorem dX7_announce_30 : dc_at mX7_announce 30 (.if_icmp .ne 36) 3 := by unfold dc_at; decide +kernel
theorem dX7_announce_33 : dc_at mX7_announce 33 (.aload_n 0) 1 := by unfold dc_at; decide +kernel
theorem dX7_announce_34 : dc_at mX7_announce 34 (.getfield 18) 3 := by unfold dc_at; decide +kernel
theorem dX7_announce_37 : dc_at mX7_announce 37 (.iconst 3) 1 := by unfold dc_at; decide +kernel
theorem dX7_announce_38 : dc_at mX7_announce 38 (.iaload) 1 := by unfold dc_at; decide +kernel
theorem dX7_announce_39 : dc_at mX7_announce 39 (.iconst 1) 1 := by unfold dc_at; decide +kernel
theorem dX7_announce_40 : dc_at mX7_announce 40 (.if_icmp .ne 4) 3 := by unfold dc_at; decide +kernel
theorem dX7_announce_43 : dc_at mX7_announce 43 (.return_) 1 := by unfold dc_at; decide +kernel
theorem dX7_announce_44 : dc_at mX7_announce 44 (.iload 6) 2 := by unfold dc_at; decide +kernel
theorem dX7_announce_46 : dc_at mX7_announce 46 (.ifCond .eq 17) 3 := by unfold dc_at; decide +kernel
theorem dX7_announce_49 : dc_at mX7_announce 49 (.aload_n 0) 1 := by unfold dc_at; decide +kernel
theorem dX7_announce_50 : dc_at mX7_announce 50 (.getfield 18) 3 := by unfold dc_at; decide +kernel
theorem dX7_announce_53 : dc_at mX7_announce 53 (.iconst 3) 1 := by unfold dc_at; decide +kernel
theorem dX7_announce_54 : dc_at mX7_announce 54 (.iaload) 1 := by unfold dc_at; decide +kernel
theorem dX7_announce_55 : dc_at mX7_announce 55 (.iconst 2) 1 := by unfold dc_at; decide +kernel
theorem dX7_announce_56 : dc_at mX7_announce 56 (.if_icmp .eq 7) 3 := by unfold dc_at; decide +kernel
theorem dX7_announce_59 : dc_at mX7_announce 59 (.iconst 1) 1 := by unfold dc_at; decide +kernel
theorem dX7_announce_60 : dc_at mX7_announce 60 (.goto 4) 3 := by unfold dc_at; decide +kernel
theorem dX7_announce_63 : dc_at mX7_announce 63 (.iconst 0) 1 := by unfold dc_at; decide +kernel
theorem dX7_announce_64 : dc_at mX7_announce 64 (.istore 6) 2 := by unfold dc_at; decide +kernel
theorem dX7_announce_66 : dc_at mX7_announce 66 (.aload_n 1) 1 := by unfold dc_at; decide +kernel
theorem dX7_announce_67 : dc_at mX7_announce 67 (.dup) 1 := by unfold dc_at; decide +kernel
theorem dX7_announce_68 : dc_at mX7_announce 68 (.getfield 133) 3 := by unfold dc_at; decide +kernel
theorem dX7_announce_71 : dc_at mX7_announce 71 (.iconst 1) 1 := by unfold dc_at; decide +kernel
theorem dX7_announce_72 : dc_at mX7_announce 72 (.iadd) 1 := by unfold dc_at; decide +kernel
theorem dX7_announce_73 : dc_at mX7_announce 73 (.putfield 133) 3 := by unfold dc_at; decide +kernel
theorem dX7_announce_76 : dc_at mX7_announce 76 (.aload_n 0) 1 := by unfold dc_at; decide +kernel
theorem dX7_announce_77 : dc_at mX7_announce 77 (.getfield 18) 3 := by unfold dc_at; decide +kernel
theorem dX7_announce_80 : dc_at mX7_announce 80 (.bipush 6) 2 := by unfold dc_at; decide +kernel
theorem dX7_announce_82 : dc_at mX7_announce 82 (.iaload) 1 := by unfold dc_at; decide +kernel
theorem dX7_announce_83 : dc_at mX7_announce 83 (.istore 7) 2 := by unfold dc_at; decide +kernel
theorem dX7_announce_85 : dc_at mX7_announce 85 (.aload_n 0) 1 := by unfold dc_at; decide +kernel
theorem dX7_announce_86 : dc_at mX7_announce 86 (.getfield 18) 3 := by unfold dc_at; decide +kernel
theorem dX7_announce_89 : dc_at mX7_announce 89 (.bipush 6) 2 := by unfold dc_at; decide +kernel
theorem dX7_announce_91 : dc_at mX7_announce 91 (.iaload) 1 := by unfold dc_at; decide +kernel
theorem dX7_announce_92 : dc_at mX7_announce 92 (.istore 8) 2 := by unfold dc_at; decide +kernel
theorem dX7_announce_94 : dc_at mX7_announce 94 (.iload 6) 2 := by unfold dc_at; decide +kernel
theorem dX7_announce_96 : dc_at mX7_announce 96 (.ifCond .eq 66) 3 := by unfold dc_at; decide +kernel
theorem dX7_announce_99 : dc_at mX7_announce 99 (.iload_n 3) 1 := by unfold dc_at; decide +kernel
theorem dX7_announce_100 : dc_at mX7_announce 100 (.iload_n 2) 1 := by unfold dc_at; decide +kernel
theorem dX7_announce_101 : dc_at mX7_announce 101 (.invokestatic 88) 3 := by unfold dc_at; decide +kernel
theorem dX7_announce_104 : dc_at mX7_announce 104 (.istore 9) 2 := by unfold dc_at; decide +kernel
theorem dX7_announce_106 : dc_at mX7_announce 106 (.iload 7) 2 := by unfold dc_at; decide +kernel
theorem dX7_announce_108 : dc_at mX7_announce 108 (.aload_n 0) 1 := by unfold dc_at; decide +kernel
theorem dX7_announce_109 : dc_at mX7_announce 109 (.getfield 37) 3 := by unfold dc_at; decide +kernel
theorem dX7_announce_112 : dc_at mX7_announce 112 (.getfield 181) 3 := by unfold dc_at; decide +kernel
theorem dX7_announce_115 : dc_at mX7_announce 115 (.iload 5) 2 := by unfold dc_at; decide +kernel
theorem dX7_announce_117 : dc_at mX7_announce 117 (.iaload) 1 := by unfold dc_at; decide +kernel
theorem dX7_announce_118 : dc_at mX7_announce 118 (.aload_n 1) 1 := by unfold dc_at; decide +kernel
theorem dX7_announce_119 : dc_at mX7_announce 119 (.getfield 68) 3 := by unfold dc_at; decide +kernel
theorem dX7_announce_122 : dc_at mX7_announce 122 (.getfield 92) 3 := by unfold dc_at; decide +kernel
theorem dX7_announce_125 : dc_at mX7_announce 125 (.iload 9) 2 := by unfold dc_at; decide +kernel
theorem dX7_announce_127 : dc_at mX7_announce 127 (.iaload) 1 := by unfold dc_at; decide +kernel
theorem dX7_announce_128 : dc_at mX7_announce 128 (.iadd) 1 := by unfold dc_at; decide +kernel
theorem dX7_announce_129 : dc_at mX7_announce 129 (.invokestatic 274) 3 := by unfold dc_at; decide +kernel
theorem dX7_announce_132 : dc_at mX7_announce 132 (.istore 7) 2 := by unfold dc_at; decide +kernel
theorem dX7_announce_134 : dc_at mX7_announce 134 (.iload 8) 2 := by unfold dc_at; decide +kernel
theorem dX7_announce_136 : dc_at mX7_announce 136 (.aload_n 0) 1 := by unfold dc_at; decide +kernel
theorem dX7_announce_137 : dc_at mX7_announce 137 (.getfield 37) 3 := by unfold dc_at; decide +kernel
theorem dX7_announce_140 : dc_at mX7_announce 140 (.getfield 182) 3 := by unfold dc_at; decide +kernel
theorem dX7_announce_143 : dc_at mX7_announce 143 (.iload 5) 2 := by unfold dc_at; decide +kernel
theorem dX7_announce_145 : dc_at mX7_announce 145 (.iaload) 1 := by unfold dc_at; decide +kernel
theorem dX7_announce_146 : dc_at mX7_announce 146 (.aload_n 1) 1 := by unfold dc_at; decide +kernel
theorem dX7_announce_147 : dc_at mX7_announce 147 (.getfield 68) 3 := by unfold dc_at; decide +kernel
theorem dX7_announce_150 : dc_at mX7_announce 150 (.getfield 95) 3 := by unfold dc_at; decide +kernel
theorem dX7_announce_153 : dc_at mX7_announce 153 (.iload 9) 2 := by unfold dc_at; decide +kernel
theorem dX7_announce_155 : dc_at mX7_announce 155 (.iaload) 1 := by unfold dc_at; decide +kernel
theorem dX7_announce_156 : dc_at mX7_announce 156 (.iadd) 1 := by unfold dc_at; decide +kernel
theorem dX7_announce_157 : dc_at mX7_announce 157 (.invokestatic 274) 3 := by unfold dc_at; decide +kernel
theorem dX7_announce_160 : dc_at mX7_announce 160 (.istore 8) 2 := by unfold dc_at; decide +kernel
theorem dX7_announce_162 : dc_at mX7_announce 162 (.aload_n 1) 1 := by unfold dc_at; decide +kernel
theorem dX7_announce_163 : dc_at mX7_announce 163 (.getfield 140) 3 := by unfold dc_at; decide +kernel
theorem dX7_announce_166 : dc_at mX7_announce 166 (.iload_n 3) 1 := by unfold dc_at; decide +kernel
theorem dX7_announce_167 : dc_at mX7_announce 167 (.iload 4) 2 := by unfold dc_at; decide +kernel
theorem dX7_announce_169 : dc_at mX7_announce 169 (.iload_n 2) 1 := by unfold dc_at; decide +kernel
theorem dX7_announce_170 : dc_at mX7_announce 170 (.invokestatic 136) 3 := by unfold dc_at; decide +kernel
theorem dX7_announce_173 : dc_at mX7_announce 173 (.iload 7) 2 := by unfold dc_at; decide +kernel
theorem dX7_announce_175 : dc_at mX7_announce 175 (.iload 8) 2 := by unfold dc_at; decide +kernel
theorem dX7_announce_177 : dc_at mX7_announce 177 (.aload_n 1) 1 := by unfold dc_at; decide +kernel
theorem dX7_announce_178 : dc_at mX7_announce 178 (.getfield 125) 3 := by unfold dc_at; decide +kernel
theorem dX7_announce_181 : dc_at mX7_announce 181 (.aload_n 0) 1 := by unfold dc_at; decide +kernel
theorem dX7_announce_182 : dc_at mX7_announce 182 (.getfield 18) 3 := by unfold dc_at; decide +kernel
theorem dX7_announce_185 : dc_at mX7_announce 185 (.invokevirtual 279) 3 := by unfold dc_at; decide +kernel
theorem dX7_announce_188 : dc_at mX7_announce 188 (.return_) 1 := by unfold dc_at; decide +kernel
theorem dX7_noteChanges_0 : dc_at mX7_noteChanges 0 (.iconst 0) 1 := by unfold dc_at; decide +kernel
theorem dX7_noteChanges_1 : dc_at mX7_noteChanges 1 (.istore_n 2) 1 := by unfold dc_at; decide +kernel
theorem dX7_noteChanges_2 : dc_at mX7_noteChanges 2 (.iconst 0) 1 := by unfold dc_at; decide +kernel
theorem dX7_noteChanges_3 : dc_at mX7_noteChanges 3 (.istore_n 3) 1 := by unfold dc_at; decide +kernel
theorem dX7_noteChanges_4 : dc_at mX7_noteChanges 4 (.iload_n 3) 1 := by unfold dc_at; decide +kernel
theorem dX7_noteChanges_5 : dc_at mX7_noteChanges 5 (.aload_n 1) 1 := by unfold dc_at; decide +kernel
theorem dX7_noteChanges_6 : dc_at mX7_noteChanges 6 (.getfield 60) 3 := by unfold dc_at; decide +kernel
theorem dX7_noteChanges_9 : dc_at mX7_noteChanges 9 (.if_icmp .ge 87) 3 := by unfold dc_at; decide +kernel
theorem dX7_noteChanges_12 : dc_at mX7_noteChanges 12 (.iconst 0) 1 := by unfold dc_at; decide +kernel
theorem dX7_noteChanges_13 : dc_at mX7_noteChanges 13 (.istore 4) 2 := by unfold dc_at; decide +kernel
theorem dX7_noteChanges_15 : dc_at mX7_noteChanges 15 (.iload 4) 2 := by unfold dc_at; decide +kernel
theorem dX7_noteChanges_17 : dc_at mX7_noteChanges 17 (.aload_n 1) 1 := by unfold dc_at; decide +kernel
theorem dX7_noteChanges_18 : dc_at mX7_noteChanges 18 (.getfield 60) 3 := by unfold dc_at; decide +kernel
theorem dX7_noteChanges_21 : dc_at mX7_noteChanges 21 (.if_icmp .ge 69) 3 := by unfold dc_at; decide +kernel
theorem dX7_noteChanges_24 : dc_at mX7_noteChanges 24 (.iload_n 3) 1 := by unfold dc_at; decide +kernel
theorem dX7_noteChanges_25 : dc_at mX7_noteChanges 25 (.iload 4) 2 := by unfold dc_at; decide +kernel
theorem dX7_noteChanges_27 : dc_at mX7_noteChanges 27 (.invokestatic 88) 3 := by unfold dc_at; decide +kernel
theorem dX7_noteChanges_30 : dc_at mX7_noteChanges 30 (.istore 5) 2 := by unfold dc_at; decide +kernel
theorem dX7_noteChanges_32 : dc_at mX7_noteChanges 32 (.aload_n 0) 1 := by unfold dc_at; decide +kernel
theorem dX7_noteChanges_33 : dc_at mX7_noteChanges 33 (.getfield 37) 3 := by unfold dc_at; decide +kernel
theorem dX7_noteChanges_36 : dc_at mX7_noteChanges 36 (.getfield 183) 3 := by unfold dc_at; decide +kernel
theorem dX7_noteChanges_39 : dc_at mX7_noteChanges 39 (.iload 5) 2 := by unfold dc_at; decide +kernel
theorem dX7_noteChanges_41 : dc_at mX7_noteChanges 41 (.iaload) 1 := by unfold dc_at; decide +kernel
theorem dX7_noteChanges_42 : dc_at mX7_noteChanges 42 (.istore 6) 2 := by unfold dc_at; decide +kernel
theorem dX7_noteChanges_44 : dc_at mX7_noteChanges 44 (.iload 6) 2 := by unfold dc_at; decide +kernel
theorem dX7_noteChanges_46 : dc_at mX7_noteChanges 46 (.aload_n 1) 1 := by unfold dc_at; decide +kernel
theorem dX7_noteChanges_47 : dc_at mX7_noteChanges 47 (.getfield 283) 3 := by unfold dc_at; decide +kernel
theorem dX7_noteChanges_50 : dc_at mX7_noteChanges 50 (.iload 5) 2 := by unfold dc_at; decide +kernel
theorem dX7_noteChanges_52 : dc_at mX7_noteChanges 52 (.iaload) 1 := by unfold dc_at; decide +kernel
theorem dX7_noteChanges_53 : dc_at mX7_noteChanges 53 (.if_icmp .eq 31) 3 := by unfold dc_at; decide +kernel
theorem dX7_noteChanges_56 : dc_at mX7_noteChanges 56 (.aload_n 1) 1 := by unfold dc_at; decide +kernel
theorem dX7_noteChanges_57 : dc_at mX7_noteChanges 57 (.getfield 283) 3 := by unfold dc_at; decide +kernel
theorem dX7_noteChanges_60 : dc_at mX7_noteChanges 60 (.iload 5) 2 := by unfold dc_at; decide +kernel
theorem dX7_noteChanges_62 : dc_at mX7_noteChanges 62 (.iload 6) 2 := by unfold dc_at; decide +kernel
theorem dX7_noteChanges_64 : dc_at mX7_noteChanges 64 (.iastore) 1 := by unfold dc_at; decide +kernel
theorem dX7_noteChanges_65 : dc_at mX7_noteChanges 65 (.aload_n 1) 1 := by unfold dc_at; decide +kernel
theorem dX7_noteChanges_66 : dc_at mX7_noteChanges 66 (.getfield 197) 3 := by unfold dc_at; decide +kernel
theorem dX7_noteChanges_69 : dc_at mX7_noteChanges 69 (.aload_n 1) 1 := by unfold dc_at; decide +kernel
theorem dX7_noteChanges_70 : dc_at mX7_noteChanges 70 (.getfield 125) 3 := by unfold dc_at; decide +kernel
theorem dX7_noteChanges_73 : dc_at mX7_noteChanges 73 (.iload_n 3) 1 := by unfold dc_at; decide +kernel
theorem dX7_noteChanges_74 : dc_at mX7_noteChanges 74 (.iload 4) 2 := by unfold dc_at; decide +kernel
theorem dX7_noteChanges_76 : dc_at mX7_noteChanges 76 (.iload 6) 2 := by unfold dc_at; decide +kernel
theorem dX7_noteChanges_78 : dc_at mX7_noteChanges 78 (.invokevirtual 286) 3 := by unfold dc_at; decide +kernel
theorem dX7_noteChanges_81 : dc_at mX7_noteChanges 81 (.iinc 2 1) 3 := by unfold dc_at; decide +kernel
theorem dX7_noteChanges_84 : dc_at mX7_noteChanges 84 (.iinc 4 1) 3 := by unfold dc_at; decide +kernel
theorem dX7_noteChanges_87 : dc_at mX7_noteChanges 87 (.goto (-72)) 3 := by unfold dc_at; decide +kernel
theorem dX7_noteChanges_90 : dc_at mX7_noteChanges 90 (.iinc 3 1) 3 := by unfold dc_at; decide +kernel
theorem dX7_noteChanges_93 : dc_at mX7_noteChanges 93 (.goto (-89)) 3 := by unfold dc_at; decide +kernel
theorem dX7_noteChanges_96 : dc_at mX7_noteChanges 96 (.iload_n 2) 1 := by unfold dc_at; decide +kernel
theorem dX7_noteChanges_97 : dc_at mX7_noteChanges 97 (.ireturn) 1 := by unfold dc_at; decide +kernel
end
section
/-! decode rows: printed by wip/whole/names.py -/
theorem dX8_init_0 : dc_at mX8_init 0 (.aload_n 0) 1 := by unfold dc_at; decide +kernel
theorem dX8_init_1 : dc_at mX8_init 1 (.invokespecial 1) 3 := by unfold dc_at; decide +kernel
theorem dX8_init_4 : dc_at mX8_init 4 (.aload_n 0) 1 := by unfold dc_at; decide +kernel
theorem dX8_init_5 : dc_at mX8_init 5 (.iconst 4) 1 := by unfold dc_at; decide +kernel
theorem dX8_init_6 : dc_at mX8_init 6 (.putfield 7) 3 := by unfold dc_at; decide +kernel
theorem dX8_init_9 : dc_at mX8_init 9 (.aload_n 0) 1 := by unfold dc_at; decide +kernel
theorem dX8_init_10 : dc_at mX8_init 10 (.sipush 3596) 3 := by unfold dc_at; decide +kernel
theorem dX8_init_13 : dc_at mX8_init 13 (.newarray .int) 2 := by unfold dc_at; decide +kernel
theorem dX8_init_15 : dc_at mX8_init 15 (.putfield 13) 3 := by unfold dc_at; decide +kernel
theorem dX8_init_18 : dc_at mX8_init 18 (.aload_n 0) 1 := by unfold dc_at; decide +kernel
theorem dX8_init_19 : dc_at mX8_init 19 (.sipush 3596) 3 := by unfold dc_at; decide +kernel
theorem dX8_init_22 : dc_at mX8_init 22 (.newarray .int) 2 := by unfold dc_at; decide +kernel
theorem dX8_init_24 : dc_at mX8_init 24 (.putfield 17) 3 := by unfold dc_at; decide +kernel
theorem dX8_init_27 : dc_at mX8_init 27 (.aload_n 0) 1 := by unfold dc_at; decide +kernel
theorem dX8_init_28 : dc_at mX8_init 28 (.sipush 3596) 3 := by unfold dc_at; decide +kernel
theorem dX8_init_31 : dc_at mX8_init 31 (.newarray .int) 2 := by unfold dc_at; decide +kernel
theorem dX8_init_33 : dc_at mX8_init 33 (.putfield 20) 3 := by unfold dc_at; decide +kernel
theorem dX8_init_36 : dc_at mX8_init 36 (.aload_n 0) 1 := by unfold dc_at; decide +kernel
theorem dX8_init_37 : dc_at mX8_init 37 (.bipush 10) 2 := by unfold dc_at; decide +kernel
theorem dX8_init_39 : dc_at mX8_init 39 (.newarray .int) 2 := by unfold dc_at; decide +kernel
theorem dX8_init_41 : dc_at mX8_init 41 (.dup) 1 := by unfold dc_at; decide +kernel
theorem dX8_init_42 : dc_at mX8_init 42 (.iconst 0) 1 := by unfold dc_at; decide +kernel
theorem dX8_init_43 : dc_at mX8_init 43 (.iconst 4) 1 := by unfold dc_at; decide +kernel
theorem dX8_init_44 : dc_at mX8_init 44 (.iastore) 1 := by unfold dc_at; decide +kernel
theorem dX8_init_45 : dc_at mX8_init 45 (.dup) 1 := by unfold dc_at; decide +kernel
theorem dX8_init_46 : dc_at mX8_init 46 (.iconst 1) 1 := by unfold dc_at; decide +kernel
theorem dX8_init_47 : dc_at mX8_init 47 (.bipush 13) 2 := by unfold dc_at; decide +kernel
theorem dX8_init_49 : dc_at mX8_init 49 (.iastore) 1 := by unfold dc_at; decide +kernel
theorem dX8_init_50 : dc_at mX8_init 50 (.dup) 1 := by unfold dc_at; decide +kernel
theorem dX8_init_51 : dc_at mX8_init 51 (.iconst 2) 1 := by unfold dc_at; decide +kernel
theorem dX8_init_52 : dc_at mX8_init 52 (.iconst 0) 1 := by unfold dc_at; decide +kernel
theorem dX8_init_53 : dc_at mX8_init 53 (.iastore) 1 := by unfold dc_at; decide +kernel
theorem dX8_init_54 : dc_at mX8_init 54 (.dup) 1 := by unfold dc_at; decide +kernel
theorem dX8_init_55 : dc_at mX8_init 55 (.iconst 3) 1 := by unfold dc_at; decide +kernel
theorem dX8_init_56 : dc_at mX8_init 56 (.iconst 1) 1 := by unfold dc_at; decide +kernel
theorem dX8_init_57 : dc_at mX8_init 57 (.iastore) 1 := by unfold dc_at; decide +kernel
theorem dX8_init_58 : dc_at mX8_init 58 (.dup) 1 := by unfold dc_at; decide +kernel
theorem dX8_init_59 : dc_at mX8_init 59 (.iconst 4) 1 := by unfold dc_at; decide +kernel
theorem dX8_init_60 : dc_at mX8_init 60 (.iconst 0) 1 := by unfold dc_at; decide +kernel
theorem dX8_init_61 : dc_at mX8_init 61 (.iastore) 1 := by unfold dc_at; decide +kernel
theorem dX8_init_62 : dc_at mX8_init 62 (.dup) 1 := by unfold dc_at; decide +kernel
theorem dX8_init_63 : dc_at mX8_init 63 (.iconst 5) 1 := by unfold dc_at; decide +kernel
theorem dX8_init_64 : dc_at mX8_init 64 (.iconst 0) 1 := by unfold dc_at; decide +kernel
theorem dX8_init_65 : dc_at mX8_init 65 (.iastore) 1 := by unfold dc_at; decide +kernel
theorem dX8_init_66 : dc_at mX8_init 66 (.dup) 1 := by unfold dc_at; decide +kernel
theorem dX8_init_67 : dc_at mX8_init 67 (.bipush 6) 2 := by unfold dc_at; decide +kernel
theorem dX8_init_69 : dc_at mX8_init 69 (.sipush 4000) 3 := by unfold dc_at; decide +kernel
theorem dX8_init_72 : dc_at mX8_init 72 (.iastore) 1 := by unfold dc_at; decide +kernel
theorem dX8_init_73 : dc_at mX8_init 73 (.dup) 1 := by unfold dc_at; decide +kernel
theorem dX8_init_74 : dc_at mX8_init 74 (.bipush 7) 2 := by unfold dc_at; decide +kernel
theorem dX8_init_76 : dc_at mX8_init 76 (.iconst 0) 1 := by unfold dc_at; decide +kernel
theorem dX8_init_77 : dc_at mX8_init 77 (.iastore) 1 := by unfold dc_at; decide +kernel
theorem dX8_init_78 : dc_at mX8_init 78 (.dup) 1 := by unfold dc_at; decide +kernel
theorem dX8_init_79 : dc_at mX8_init 79 (.bipush 8) 2 := by unfold dc_at; decide +kernel
theorem dX8_init_81 : dc_at mX8_init 81 (.iconst 4) 1 := by unfold dc_at; decide +kernel
theorem dX8_init_82 : dc_at mX8_init 82 (.iastore) 1 := by unfold dc_at; decide +kernel
theorem dX8_init_83 : dc_at mX8_init 83 (.dup) 1 := by unfold dc_at; decide +kernel
theorem dX8_init_84 : dc_at mX8_init 84 (.bipush 9) 2 := by unfold dc_at; decide +kernel
theorem dX8_init_86 : dc_at mX8_init 86 (.bipush 8) 2 := by unfold dc_at; decide +kernel
theorem dX8_init_88 : dc_at mX8_init 88 (.iastore) 1 := by unfold dc_at; decide +kernel
theorem dX8_init_89 : dc_at mX8_init 89 (.putfield 23) 3 := by unfold dc_at; decide +kernel
theorem dX8_init_92 : dc_at mX8_init 92 (.aload_n 0) 1 := by unfold dc_at; decide +kernel
theorem dX8_init_93 : dc_at mX8_init 93 (.bipush 10) 2 := by unfold dc_at; decide +kernel
theorem dX8_init_95 : dc_at mX8_init 95 (.newarray .int) 2 := by unfold dc_at; decide +kernel
theorem dX8_init_97 : dc_at mX8_init 97 (.dup) 1 := by unfold dc_at; decide +kernel
theorem dX8_init_98 : dc_at mX8_init 98 (.iconst 0) 1 := by unfold dc_at; decide +kernel
theorem dX8_init_99 : dc_at mX8_init 99 (.iconst 1) 1 := by unfold dc_at; decide +kernel
theorem dX8_init_100 : dc_at mX8_init 100 (.iastore) 1 := by unfold dc_at; decide +kernel
theorem dX8_init_101 : dc_at mX8_init 101 (.dup) 1 := by unfold dc_at; decide +kernel
theorem dX8_init_102 : dc_at mX8_init 102 (.iconst 1) 1 := by unfold dc_at; decide +kernel
theorem dX8_init_103 : dc_at mX8_init 103 (.iconst 1) 1 := by unfold dc_at; decide +kernel
theorem dX8_init_104 : dc_at mX8_init 104 (.iastore) 1 := by unfold dc_at; decide +kernel
theorem dX8_init_105 : dc_at mX8_init 105 (.dup) 1 := by unfold dc_at; decide +kernel
theorem dX8_init_106 : dc_at mX8_init 106 (.iconst 2) 1 := by unfold dc_at; decide +kernel
theorem dX8_init_107 : dc_at mX8_init 107 (.iconst 0) 1 := by unfold dc_at; decide +kernel
theorem dX8_init_108 : dc_at mX8_init 108 (.iastore) 1 := by unfold dc_at; decide +kernel
theorem dX8_init_109 : dc_at mX8_init 109 (.dup) 1 := by unfold dc_at; decide +kernel
theorem dX8_init_110 : dc_at mX8_init 110 (.iconst 3) 1 := by unfold dc_at; decide +kernel
theorem dX8_init_111 : dc_at mX8_init 111 (.iconst 0) 1 := by unfold dc_at; decide +kernel
theorem dX8_init_112 : dc_at mX8_init 112 (.iastore) 1 := by unfold dc_at; decide +kernel
theorem dX8_init_113 : dc_at mX8_init 113 (.dup) 1 := by unfold dc_at; decide +kernel
theorem dX8_init_114 : dc_at mX8_init 114 (.iconst 4) 1 := by unfold dc_at; decide +kernel
theorem dX8_init_115 : dc_at mX8_init 115 (.iconst 1) 1 := by unfold dc_at; decide +kernel
theorem dX8_init_116 : dc_at mX8_init 116 (.iastore) 1 := by unfold dc_at; decide +kernel
theorem dX8_init_117 : dc_at mX8_init 117 (.dup) 1 := by unfold dc_at; decide +kernel
theorem dX8_init_118 : dc_at mX8_init 118 (.iconst 5) 1 := by unfold dc_at; decide +kernel
theorem dX8_init_119 : dc_at mX8_init 119 (.iconst 1) 1 := by unfold dc_at; decide +kernel
theorem dX8_init_120 : dc_at mX8_init 120 (.iastore) 1 := by unfold dc_at; decide +kernel
theorem dX8_init_121 : dc_at mX8_init 121 (.dup) 1 := by unfold dc_at; decide +kernel
theorem dX8_init_122 : dc_at mX8_init 122 (.bipush 6) 2 := by unfold dc_at; decide +kernel
theorem dX8_init_124 : dc_at mX8_init 124 (.bipush 100) 2 := by unfold dc_at; decide +kernel
theorem dX8_init_126 : dc_at mX8_init 126 (.iastore) 1 := by unfold dc_at; decide +kernel
theorem dX8_init_127 : dc_at mX8_init 127 (.dup) 1 := by unfold dc_at; decide +kernel
theorem dX8_init_128 : dc_at mX8_init 128 (.bipush 7) 2 := by unfold dc_at; decide +kernel
theorem dX8_init_130 : dc_at mX8_init 130 (.iconst 0) 1 := by unfold dc_at; decide +kernel
theorem dX8_init_131 : dc_at mX8_init 131 (.iastore) 1 := by unfold dc_at; decide +kernel
theorem dX8_init_132 : dc_at mX8_init 132 (.dup) 1 := by unfold dc_at; decide +kernel
theorem dX8_init_133 : dc_at mX8_init 133 (.bipush 8) 2 := by unfold dc_at; decide +kernel
theorem dX8_init_135 : dc_at mX8_init 135 (.iconst 1) 1 := by unfold dc_at; decide +kernel
theorem dX8_init_136 : dc_at mX8_init 136 (.iastore) 1 := by unfold dc_at; decide +kernel
theorem dX8_init_137 : dc_at mX8_init 137 (.dup) 1 := by unfold dc_at; decide +kernel
theorem dX8_init_138 : dc_at mX8_init 138 (.bipush 9) 2 := by unfold dc_at; decide +kernel
theorem dX8_init_140 : dc_at mX8_init 140 (.iconst 1) 1 := by unfold dc_at; decide +kernel
theorem dX8_init_141 : dc_at mX8_init 141 (.iastore) 1 := by unfold dc_at; decide +kernel
theorem dX8_init_142 : dc_at mX8_init 142 (.putfield 26) 3 := by unfold dc_at; decide +kernel
theorem dX8_init_145 : dc_at mX8_init 145 (.aload_n 0) 1 := by unfold dc_at; decide +kernel
theorem dX8_init_146 : dc_at mX8_init 146 (.bipush 10) 2 := by unfold dc_at; decide +kernel
theorem dX8_init_148 : dc_at mX8_init 148 (.newarray .int) 2 := by unfold dc_at; decide +kernel
theorem dX8_init_150 : dc_at mX8_init 150 (.dup) 1 := by unfold dc_at; decide +kernel
theorem dX8_init_151 : dc_at mX8_init 151 (.iconst 0) 1 := by unfold dc_at; decide +kernel
theorem dX8_init_152 : dc_at mX8_init 152 (.bipush 20) 2 := by unfold dc_at; decide +kernel
theorem dX8_init_154 : dc_at mX8_init 154 (.iastore) 1 := by unfold dc_at; decide +kernel
theorem dX8_init_155 : dc_at mX8_init 155 (.dup) 1 := by unfold dc_at; decide +kernel
theorem dX8_init_156 : dc_at mX8_init 156 (.iconst 1) 1 := by unfold dc_at; decide +kernel
theorem dX8_init_157 : dc_at mX8_init 157 (.bipush 100) 2 := by unfold dc_at; decide +kernel
theorem dX8_init_159 : dc_at mX8_init 159 (.iastore) 1 := by unfold dc_at; decide +kernel
theorem dX8_init_160 : dc_at mX8_init 160 (.dup) 1 := by unfold dc_at; decide +kernel
theorem dX8_init_161 : dc_at mX8_init 161 (.iconst 2) 1 := by unfold dc_at; decide +kernel
theorem dX8_init_162 : dc_at mX8_init 162 (.iconst 2) 1 := by unfold dc_at; decide +kernel
theorem dX8_init_163 : dc_at mX8_init 163 (.iastore) 1 := by unfold dc_at; decide +kernel
theorem dX8_init_164 : dc_at mX8_init 164 (.dup) 1 := by unfold dc_at; decide +kernel
theorem dX8_init_165 : dc_at mX8_init 165 (.iconst 3) 1 := by unfold dc_at; decide +kernel
theorem dX8_init_166 : dc_at mX8_init 166 (.iconst 2) 1 := by unfold dc_at; decide +kernel
theorem dX8_init_167 : dc_at mX8_init 167 (.iastore) 1 := by unfold dc_at; decide +kernel
theorem dX8_init_168 : dc_at mX8_init 168 (.dup) 1 := by unfold dc_at; decide +kernel
theorem dX8_init_169 : dc_at mX8_init 169 (.iconst 4) 1 := by unfold dc_at; decide +kernel
theorem dX8_init_170 : dc_at mX8_init 170 (.iconst 0) 1 := by unfold dc_at; decide +kernel
theorem dX8_init_171 : dc_at mX8_init 171 (.iastore) 1 := by unfold dc_at; decide +kernel
theorem dX8_init_172 : dc_at mX8_init 172 (.dup) 1 := by unfold dc_at; decide +kernel
theorem dX8_init_173 : dc_at mX8_init 173 (.iconst 5) 1 := by unfold dc_at; decide +kernel
theorem dX8_init_174 : dc_at mX8_init 174 (.iconst 0) 1 := by unfold dc_at; decide +kernel
theorem dX8_init_175 : dc_at mX8_init 175 (.iastore) 1 := by unfold dc_at; decide +kernel
theorem dX8_init_176 : dc_at mX8_init 176 (.dup) 1 := by unfold dc_at; decide +kernel
theorem dX8_init_177 : dc_at mX8_init 177 (.bipush 6) 2 := by unfold dc_at; decide +kernel
theorem dX8_init_179 : dc_at mX8_init 179 (.sipush 30000) 3 := by unfold dc_at; decide +kernel
theorem dX8_init_182 : dc_at mX8_init 182 (.iastore) 1 := by unfold dc_at; decide +kernel
theorem dX8_init_183 : dc_at mX8_init 183 (.dup) 1 := by unfold dc_at; decide +kernel
theorem dX8_init_184 : dc_at mX8_init 184 (.bipush 7) 2 := by unfold dc_at; decide +kernel
theorem dX8_init_186 : dc_at mX8_init 186 (.iconst 1) 1 := by unfold dc_at; decide +kernel
theorem dX8_init_187 : dc_at mX8_init 187 (.iastore) 1 := by unfold dc_at; decide +kernel
theorem dX8_init_188 : dc_at mX8_init 188 (.dup) 1 := by unfold dc_at; decide +kernel
theorem dX8_init_189 : dc_at mX8_init 189 (.bipush 8) 2 := by unfold dc_at; decide +kernel
theorem dX8_init_191 : dc_at mX8_init 191 (.bipush 20) 2 := by unfold dc_at; decide +kernel
theorem dX8_init_193 : dc_at mX8_init 193 (.iastore) 1 := by unfold dc_at; decide +kernel
theorem dX8_init_194 : dc_at mX8_init 194 (.dup) 1 := by unfold dc_at; decide +kernel
theorem dX8_init_195 : dc_at mX8_init 195 (.bipush 9) 2 := by unfold dc_at; decide +kernel
theorem dX8_init_197 : dc_at mX8_init 197 (.bipush 50) 2 := by unfold dc_at; decide +kernel
theorem dX8_init_199 : dc_at mX8_init 199 (.iastore) 1 := by unfold dc_at; decide +kernel
theorem dX8_init_200 : dc_at mX8_init 200 (.putfield 29) 3 := by unfold dc_at; decide +kernel
theorem dX8_init_203 : dc_at mX8_init 203 (.aload_n 0) 1 := by unfold dc_at; decide +kernel
theorem dX8_init_204 : dc_at mX8_init 204 (.bipush 64) 2 := by unfold dc_at; decide +kernel
theorem dX8_init_206 : dc_at mX8_init 206 (.newarray .int) 2 := by unfold dc_at; decide +kernel
theorem dX8_init_208 : dc_at mX8_init 208 (.putfield 32) 3 := by unfold dc_at; decide +kernel
theorem dX8_init_211 : dc_at mX8_init 211 (.aload_n 0) 1 := by unfold dc_at; decide +kernel
theorem dX8_init_212 : dc_at mX8_init 212 (.bipush 64) 2 := by unfold dc_at; decide +kernel
theorem dX8_init_214 : dc_at mX8_init 214 (.newarray .int) 2 := by unfold dc_at; decide +kernel
theorem dX8_init_216 : dc_at mX8_init 216 (.putfield 35) 3 := by unfold dc_at; decide +kernel
theorem dX8_init_219 : dc_at mX8_init 219 (.aload_n 0) 1 := by unfold dc_at; decide +kernel
theorem dX8_init_220 : dc_at mX8_init 220 (.bipush 64) 2 := by unfold dc_at; decide +kernel
theorem dX8_init_222 : dc_at mX8_init 222 (.newarray .int) 2 := by unfold dc_at; decide +kernel
theorem dX8_init_224 : dc_at mX8_init 224 (.putfield 38) 3 := by unfold dc_at; decide +kernel
theorem dX8_init_227 : dc_at mX8_init 227 (.aload_n 0) 1 := by unfold dc_at; decide +kernel
theorem dX8_init_228 : dc_at mX8_init 228 (.bipush 8) 2 := by unfold dc_at; decide +kernel
theorem dX8_init_230 : dc_at mX8_init 230 (.newarray .boolean) 2 := by unfold dc_at; decide +kernel
theorem dX8_init_232 : dc_at mX8_init 232 (.putfield 41) 3 := by unfold dc_at; decide +kernel
theorem dX8_init_235 : dc_at mX8_init 235 (.aload_n 0) 1 := by unfold dc_at; decide +kernel
theorem dX8_init_236 : dc_at mX8_init 236 (.bipush 64) 2 := by unfold dc_at; decide +kernel
theorem dX8_init_238 : dc_at mX8_init 238 (.newarray .int) 2 := by unfold dc_at; decide +kernel
theorem dX8_init_240 : dc_at mX8_init 240 (.putfield 45) 3 := by unfold dc_at; decide +kernel
theorem dX8_init_243 : dc_at mX8_init 243 (.aload_n 0) 1 := by unfold dc_at; decide +kernel
theorem dX8_init_244 : dc_at mX8_init 244 (.sipush 241) 3 := by unfold dc_at; decide +kernel
theorem dX8_init_247 : dc_at mX8_init 247 (.newarray .boolean) 2 := by unfold dc_at; decide +kernel
theorem dX8_init_249 : dc_at mX8_init 249 (.putfield 48) 3 := by unfold dc_at; decide +kernel
theorem dX8_init_252 : dc_at mX8_init 252 (.aload_n 0) 1 := by unfold dc_at; decide +kernel
theorem dX8_init_253 : dc_at mX8_init 253 (.invokevirtual 51) 3 := by unfold dc_at; decide +kernel
theorem dX8_init_256 : dc_at mX8_init 256 (.return_) 1 := by unfold dc_at; decide +kernel
theorem dX8_begins_0 : dc_at mX8_begins 0 (.iconst 0) 1 := by unfold dc_at; decide +kernel
theorem dX8_begins_1 : dc_at mX8_begins 1 (.istore_n 1) 1 := by unfold dc_at; decide +kernel
theorem dX8_begins_2 : dc_at mX8_begins 2 (.iload_n 1) 1 := by unfold dc_at; decide +kernel
theorem dX8_begins_3 : dc_at mX8_begins 3 (.sipush 3596) 3 := by unfold dc_at; decide +kernel
theorem dX8_begins_6 : dc_at mX8_begins 6 (.if_icmp .ge 34) 3 := by unfold dc_at; decide +kernel
theorem dX8_begins_9 : dc_at mX8_begins 9 (.aload_n 0) 1 := by unfold dc_at; decide +kernel
theorem dX8_begins_10 : dc_at mX8_begins 10 (.getfield 13) 3 := by unfold dc_at; decide +kernel
theorem dX8_begins_13 : dc_at mX8_begins 13 (.iload_n 1) 1 := by unfold dc_at; decide +kernel
theorem dX8_begins_14 : dc_at mX8_begins 14 (.iload_n 1) 1 := by unfold dc_at; decide +kernel
theorem dX8_begins_15 : dc_at mX8_begins 15 (.sipush 3464) 3 := by unfold dc_at; decide +kernel
theorem dX8_begins_18 : dc_at mX8_begins 18 (.if_icmp .lt 14) 3 := by unfold dc_at; decide +kernel
theorem dX8_begins_21 : dc_at mX8_begins 21 (.iload_n 1) 1 := by unfold dc_at; decide +kernel
theorem dX8_begins_22 : dc_at mX8_begins 22 (.sipush 3528) 3 := by unfold dc_at; decide +kernel
theorem dX8_begins_25 : dc_at mX8_begins 25 (.if_icmp .ge 7) 3 := by unfold dc_at; decide +kernel
theorem dX8_begins_28 : dc_at mX8_begins 28 (.iconst (-1)) 1 := by unfold dc_at; decide +kernel
theorem dX8_begins_29 : dc_at mX8_begins 29 (.goto 4) 3 := by unfold dc_at; decide +kernel
theorem dX8_begins_32 : dc_at mX8_begins 32 (.iconst 0) 1 := by unfold dc_at; decide +kernel
theorem dX8_begins_33 : dc_at mX8_begins 33 (.iastore) 1 := by unfold dc_at; decide +kernel
theorem dX8_begins_34 : dc_at mX8_begins 34 (.iinc 1 1) 3 := by unfold dc_at; decide +kernel
theorem dX8_begins_37 : dc_at mX8_begins 37 (.goto (-35)) 3 := by unfold dc_at; decide +kernel
theorem dX8_begins_40 : dc_at mX8_begins 40 (.return_) 1 := by unfold dc_at; decide +kernel
theorem dX8_in_0 : dc_at mX8_in 0 (.iload_n 0) 1 := by unfold dc_at; decide +kernel
theorem dX8_in_1 : dc_at mX8_in 1 (.iload_n 1) 1 := by unfold dc_at; decide +kernel
theorem dX8_in_2 : dc_at mX8_in 2 (.if_icmp .lt 12) 3 := by unfold dc_at; decide +kernel
theorem dX8_in_5 : dc_at mX8_in 5 (.iload_n 0) 1 := by unfold dc_at; decide +kernel
theorem dX8_in_6 : dc_at mX8_in 6 (.iload_n 2) 1 := by unfold dc_at; decide +kernel
theorem dX8_in_7 : dc_at mX8_in 7 (.if_icmp .gt 7) 3 := by unfold dc_at; decide +kernel
theorem dX8_in_10 : dc_at mX8_in 10 (.iconst 1) 1 := by unfold dc_at; decide +kernel
theorem dX8_in_11 : dc_at mX8_in 11 (.goto 4) 3 := by unfold dc_at; decide +kernel
theorem dX8_in_14 : dc_at mX8_in 14 (.iconst 0) 1 := by unfold dc_at; decide +kernel
theorem dX8_in_15 : dc_at mX8_in 15 (.ireturn) 1 := by unfold dc_at; decide +kernel
theorem dX8_isNode_0 : dc_at mX8_isNode 0 (.iload_n 1) 1 := by unfold dc_at; decide +kernel
theorem dX8_isNode_1 : dc_at mX8_isNode 1 (.iconst 0) 1 := by unfold dc_at; decide +kernel
theorem dX8_isNode_2 : dc_at mX8_isNode 2 (.aload_n 0) 1 := by unfold dc_at; decide +kernel
theorem dX8_isNode_3 : dc_at mX8_isNode 3 (.getfield 7) 3 := by unfold dc_at; decide +kernel
theorem dX8_isNode_6 : dc_at mX8_isNode 6 (.iconst 1) 1 := by unfold dc_at; decide +kernel
theorem dX8_isNode_7 : dc_at mX8_isNode 7 (.isub) 1 := by unfold dc_at; decide +kernel
theorem dX8_isNode_8 : dc_at mX8_isNode 8 (.invokestatic 54) 3 := by unfold dc_at; decide +kernel
theorem dX8_isNode_11 : dc_at mX8_isNode 11 (.ireturn) 1 := by unfold dc_at; decide +kernel
theorem dX8_arePair_0 : dc_at mX8_arePair 0 (.aload_n 0) 1 := by unfold dc_at; decide +kernel
theorem dX8_arePair_1 : dc_at mX8_arePair 1 (.iload_n 1) 1 := by unfold dc_at; decide +kernel
theorem dX8_arePair_2 : dc_at mX8_arePair 2 (.invokevirtual 58) 3 := by unfold dc_at; decide +kernel
theorem dX8_arePair_5 : dc_at mX8_arePair 5 (.ifCond .eq 20) 3 := by unfold dc_at; decide +kernel
theorem dX8_arePair_8 : dc_at mX8_arePair 8 (.aload_n 0) 1 := by unfold dc_at; decide +kernel
theorem dX8_arePair_9 : dc_at mX8_arePair 9 (.iload_n 2) 1 := by unfold dc_at; decide +kernel
theorem dX8_arePair_10 : dc_at mX8_arePair 10 (.invokevirtual 58) 3 := by unfold dc_at; decide +kernel
theorem dX8_arePair_13 : dc_at mX8_arePair 13 (.ifCond .eq 12) 3 := by unfold dc_at; decide +kernel
theorem dX8_arePair_16 : dc_at mX8_arePair 16 (.iload_n 1) 1 := by unfold dc_at; decide +kernel
theorem dX8_arePair_17 : dc_at mX8_arePair 17 (.iload_n 2) 1 := by unfold dc_at; decide +kernel
theorem dX8_arePair_18 : dc_at mX8_arePair 18 (.if_icmp .eq 7) 3 := by unfold dc_at; decide +kernel
theorem dX8_arePair_21 : dc_at mX8_arePair 21 (.iconst 1) 1 := by unfold dc_at; decide +kernel
theorem dX8_arePair_22 : dc_at mX8_arePair 22 (.goto 4) 3 := by unfold dc_at; decide +kernel
theorem dX8_arePair_25 : dc_at mX8_arePair 25 (.iconst 0) 1 := by unfold dc_at; decide +kernel
theorem dX8_arePair_26 : dc_at mX8_arePair 26 (.ireturn) 1 := by unfold dc_at; decide +kernel
theorem dX8_linkAt_0 : dc_at mX8_linkAt 0 (.iconst 0) 1 := by unfold dc_at; decide +kernel
theorem dX8_linkAt_1 : dc_at mX8_linkAt 1 (.iconst 4) 1 := by unfold dc_at; decide +kernel
theorem dX8_linkAt_2 : dc_at mX8_linkAt 2 (.bipush 8) 2 := by unfold dc_at; decide +kernel
theorem dX8_linkAt_4 : dc_at mX8_linkAt 4 (.iload_n 0) 1 := by unfold dc_at; decide +kernel
theorem dX8_linkAt_5 : dc_at mX8_linkAt 5 (.imul) 1 := by unfold dc_at; decide +kernel
theorem dX8_linkAt_6 : dc_at mX8_linkAt 6 (.iload_n 1) 1 := by unfold dc_at; decide +kernel
theorem dX8_linkAt_7 : dc_at mX8_linkAt 7 (.iadd) 1 := by unfold dc_at; decide +kernel
theorem dX8_linkAt_8 : dc_at mX8_linkAt 8 (.imul) 1 := by unfold dc_at; decide +kernel
theorem dX8_linkAt_9 : dc_at mX8_linkAt 9 (.iadd) 1 := by unfold dc_at; decide +kernel
theorem dX8_linkAt_10 : dc_at mX8_linkAt 10 (.iload_n 2) 1 := by unfold dc_at; decide +kernel
theorem dX8_linkAt_11 : dc_at mX8_linkAt 11 (.iadd) 1 := by unfold dc_at; decide +kernel
theorem dX8_linkAt_12 : dc_at mX8_linkAt 12 (.ireturn) 1 := by unfold dc_at; decide +kernel
theorem dX8_entryAt_0 : dc_at mX8_entryAt 0 (.sipush 256) 3 := by unfold dc_at; decide +kernel
theorem dX8_entryAt_3 : dc_at mX8_entryAt 3 (.bipush 6) 2 := by unfold dc_at; decide +kernel
theorem dX8_entryAt_5 : dc_at mX8_entryAt 5 (.bipush 64) 2 := by unfold dc_at; decide +kernel
theorem dX8_entryAt_7 : dc_at mX8_entryAt 7 (.iload_n 0) 1 := by unfold dc_at; decide +kernel
theorem dX8_entryAt_8 : dc_at mX8_entryAt 8 (.imul) 1 := by unfold dc_at; decide +kernel
theorem dX8_entryAt_9 : dc_at mX8_entryAt 9 (.bipush 8) 2 := by unfold dc_at; decide +kernel
theorem dX8_entryAt_11 : dc_at mX8_entryAt 11 (.iload_n 1) 1 := by unfold dc_at; decide +kernel
theorem dX8_entryAt_12 : dc_at mX8_entryAt 12 (.imul) 1 := by unfold dc_at; decide +kernel
theorem dX8_entryAt_13 : dc_at mX8_entryAt 13 (.iadd) 1 := by unfold dc_at; decide +kernel
theorem dX8_entryAt_14 : dc_at mX8_entryAt 14 (.iload_n 2) 1 := by unfold dc_at; decide +kernel
theorem dX8_entryAt_15 : dc_at mX8_entryAt 15 (.iadd) 1 := by unfold dc_at; decide +kernel
theorem dX8_entryAt_16 : dc_at mX8_entryAt 16 (.imul) 1 := by unfold dc_at; decide +kernel
theorem dX8_entryAt_17 : dc_at mX8_entryAt 17 (.iadd) 1 := by unfold dc_at; decide +kernel
theorem dX8_entryAt_18 : dc_at mX8_entryAt 18 (.iload_n 3) 1 := by unfold dc_at; decide +kernel
theorem dX8_entryAt_19 : dc_at mX8_entryAt 19 (.iadd) 1 := by unfold dc_at; decide +kernel
theorem dX8_entryAt_20 : dc_at mX8_entryAt 20 (.ireturn) 1 := by unfold dc_at; decide +kernel
theorem dX8_isLink_0 : dc_at mX8_isLink 0 (.aload_n 0) 1 := by unfold dc_at; decide +kernel
theorem dX8_isLink_1 : dc_at mX8_isLink 1 (.getfield 13) 3 := by unfold dc_at; decide +kernel
theorem dX8_isLink_4 : dc_at mX8_isLink 4 (.iload_n 1) 1 := by unfold dc_at; decide +kernel
theorem dX8_isLink_5 : dc_at mX8_isLink 5 (.iload_n 2) 1 := by unfold dc_at; decide +kernel
theorem dX8_isLink_6 : dc_at mX8_isLink 6 (.iconst 0) 1 := by unfold dc_at; decide +kernel
theorem dX8_isLink_7 : dc_at mX8_isLink 7 (.invokestatic 62) 3 := by unfold dc_at; decide +kernel
theorem dX8_isLink_10 : dc_at mX8_isLink 10 (.iaload) 1 := by unfold dc_at; decide +kernel
theorem dX8_isLink_11 : dc_at mX8_isLink 11 (.ifCond .le 7) 3 := by unfold dc_at; decide +kernel
theorem dX8_isLink_14 : dc_at mX8_isLink 14 (.iconst 1) 1 := by unfold dc_at; decide +kernel
theorem dX8_isLink_15 : dc_at mX8_isLink 15 (.goto 4) 3 := by unfold dc_at; decide +kernel
theorem dX8_isLink_18 : dc_at mX8_isLink 18 (.iconst 0) 1 := by unfold dc_at; decide +kernel
theorem dX8_isLink_19 : dc_at mX8_isLink 19 (.ireturn) 1 := by unfold dc_at; decide +kernel
theorem dX8_areNear_0 : dc_at mX8_areNear 0 (.aload_n 0) 1 := by unfold dc_at; decide +kernel
theorem dX8_areNear_1 : dc_at mX8_areNear 1 (.iload_n 1) 1 := by unfold dc_at; decide +kernel
theorem dX8_areNear_2 : dc_at mX8_areNear 2 (.iload_n 2) 1 := by unfold dc_at; decide +kernel
theorem dX8_areNear_3 : dc_at mX8_areNear 3 (.invokevirtual 66) 3 := by unfold dc_at; decide +kernel
theorem dX8_areNear_6 : dc_at mX8_areNear 6 (.ifCond .eq 22) 3 := by unfold dc_at; decide +kernel
theorem dX8_areNear_9 : dc_at mX8_areNear 9 (.aload_n 0) 1 := by unfold dc_at; decide +kernel
theorem dX8_areNear_10 : dc_at mX8_areNear 10 (.getfield 13) 3 := by unfold dc_at; decide +kernel
theorem dX8_areNear_13 : dc_at mX8_areNear 13 (.iload_n 1) 1 := by unfold dc_at; decide +kernel
theorem dX8_areNear_14 : dc_at mX8_areNear 14 (.iload_n 2) 1 := by unfold dc_at; decide +kernel
theorem dX8_areNear_15 : dc_at mX8_areNear 15 (.iconst 3) 1 := by unfold dc_at; decide +kernel
theorem dX8_areNear_16 : dc_at mX8_areNear 16 (.invokestatic 62) 3 := by unfold dc_at; decide +kernel
theorem dX8_areNear_19 : dc_at mX8_areNear 19 (.iaload) 1 := by unfold dc_at; decide +kernel
theorem dX8_areNear_20 : dc_at mX8_areNear 20 (.iconst 1) 1 := by unfold dc_at; decide +kernel
theorem dX8_areNear_21 : dc_at mX8_areNear 21 (.if_icmp .ne 7) 3 := by unfold dc_at; decide +kernel
theorem dX8_areNear_24 : dc_at mX8_areNear 24 (.iconst 1) 1 := by unfold dc_at; decide +kernel
theorem dX8_areNear_25 : dc_at mX8_areNear 25 (.goto 4) 3 := by unfold dc_at; decide +kernel
theorem dX8_areNear_28 : dc_at mX8_areNear 28 (.iconst 0) 1 := by unfold dc_at; decide +kernel
theorem dX8_areNear_29 : dc_at mX8_areNear 29 (.ireturn) 1 := by unfold dc_at; decide +kernel
theorem dX8_sets_0 : dc_at mX8_sets 0 (.aload_n 0) 1 := by unfold dc_at; decide +kernel
theorem dX8_sets_1 : dc_at mX8_sets 1 (.getfield 13) 3 := by unfold dc_at; decide +kernel
theorem dX8_sets_4 : dc_at mX8_sets 4 (.iload_n 1) 1 := by unfold dc_at; decide +kernel
theorem dX8_sets_5 : dc_at mX8_sets 5 (.iload_n 2) 1 := by unfold dc_at; decide +kernel
theorem dX8_sets_6 : dc_at mX8_sets 6 (.iload_n 3) 1 := by unfold dc_at; decide +kernel
theorem dX8_sets_7 : dc_at mX8_sets 7 (.invokestatic 62) 3 := by unfold dc_at; decide +kernel
theorem dX8_sets_10 : dc_at mX8_sets 10 (.iload 4) 2 := by unfold dc_at; decide +kernel
theorem dX8_sets_12 : dc_at mX8_sets 12 (.iastore) 1 := by unfold dc_at; decide +kernel
theorem dX8_sets_13 : dc_at mX8_sets 13 (.aload_n 0) 1 := by unfold dc_at; decide +kernel
theorem dX8_sets_14 : dc_at mX8_sets 14 (.getfield 13) 3 := by unfold dc_at; decide +kernel
theorem dX8_sets_17 : dc_at mX8_sets 17 (.iload_n 2) 1 := by unfold dc_at; decide +kernel
theorem dX8_sets_18 : dc_at mX8_sets 18 (.iload_n 1) 1 := by unfold dc_at; decide +kernel
theorem dX8_sets_19 : dc_at mX8_sets 19 (.iload_n 3) 1 := by unfold dc_at; decide +kernel
theorem dX8_sets_20 : dc_at mX8_sets 20 (.invokestatic 62) 3 := by unfold dc_at; decide +kernel
theorem dX8_sets_23 : dc_at mX8_sets 23 (.iload 4) 2 := by unfold dc_at; decide +kernel
theorem dX8_sets_25 : dc_at mX8_sets 25 (.iastore) 1 := by unfold dc_at; decide +kernel
theorem dX8_sets_26 : dc_at mX8_sets 26 (.return_) 1 := by unfold dc_at; decide +kernel
theorem dX8_reset_0 : dc_at mX8_reset 0 (.iload_n 1) 1 := by unfold dc_at; decide +kernel
theorem dX8_reset_1 : dc_at mX8_reset 1 (.iconst 2) 1 := by unfold dc_at; decide +kernel
theorem dX8_reset_2 : dc_at mX8_reset 2 (.bipush 8) 2 := by unfold dc_at; decide +kernel
theorem dX8_reset_4 : dc_at mX8_reset 4 (.invokestatic 54) 3 := by unfold dc_at; decide +kernel
theorem dX8_reset_7 : dc_at mX8_reset 7 (.ifCond .ne 5) 3 := by unfold dc_at; decide +kernel
theorem dX8_reset_10 : dc_at mX8_reset 10 (.iconst (-1)) 1 := by unfold dc_at; decide +kernel
theorem dX8_reset_11 : dc_at mX8_reset 11 (.ireturn) 1 := by unfold dc_at; decide +kernel
theorem dX8_reset_12 : dc_at mX8_reset 12 (.aload_n 0) 1 := by unfold dc_at; decide +kernel
theorem dX8_reset_13 : dc_at mX8_reset 13 (.getfield 7) 3 := by unfold dc_at; decide +kernel
theorem dX8_reset_16 : dc_at mX8_reset 16 (.istore_n 2) 1 := by unfold dc_at; decide +kernel
theorem dX8_reset_17 : dc_at mX8_reset 17 (.aload_n 0) 1 := by unfold dc_at; decide +kernel
theorem dX8_reset_18 : dc_at mX8_reset 18 (.iload_n 1) 1 := by unfold dc_at; decide +kernel
theorem dX8_reset_19 : dc_at mX8_reset 19 (.putfield 7) 3 := by unfold dc_at; decide +kernel
theorem dX8_reset_22 : dc_at mX8_reset 22 (.aload_n 0) 1 := by unfold dc_at; decide +kernel
theorem dX8_reset_23 : dc_at mX8_reset 23 (.invokevirtual 51) 3 := by unfold dc_at; decide +kernel
theorem dX8_reset_26 : dc_at mX8_reset 26 (.aload_n 0) 1 := by unfold dc_at; decide +kernel
theorem dX8_reset_27 : dc_at mX8_reset 27 (.iconst 0) 1 := by unfold dc_at; decide +kernel
theorem dX8_reset_28 : dc_at mX8_reset 28 (.putfield 70) 3 := by unfold dc_at; decide +kernel
theorem dX8_reset_31 : dc_at mX8_reset 31 (.iload_n 2) 1 := by unfold dc_at; decide +kernel
theorem dX8_reset_32 : dc_at mX8_reset 32 (.ireturn) 1 := by unfold dc_at; decide +kernel
theorem dX8_addLink_0 : dc_at mX8_addLink 0 (.aload_n 0) 1 := by unfold dc_at; decide +kernel
theorem dX8_addLink_1 : dc_at mX8_addLink 1 (.iload_n 1) 1 := by unfold dc_at; decide +kernel
theorem dX8_addLink_2 : dc_at mX8_addLink 2 (.iload_n 2) 1 := by unfold dc_at; decide +kernel
theorem dX8_addLink_3 : dc_at mX8_addLink 3 (.invokevirtual 74) 3 := by unfold dc_at; decide +kernel
theorem dX8_addLink_6 : dc_at mX8_addLink 6 (.ifCond .eq 26) 3 := by unfold dc_at; decide +kernel
theorem dX8_addLink_9 : dc_at mX8_addLink 9 (.iload_n 3) 1 := by unfold dc_at; decide +kernel
theorem dX8_addLink_10 : dc_at mX8_addLink 10 (.iconst 1) 1 := by unfold dc_at; decide +kernel
theorem dX8_addLink_11 : dc_at mX8_addLink 11 (.sipush 500) 3 := by unfold dc_at; decide +kernel
theorem dX8_addLink_14 : dc_at mX8_addLink 14 (.invokestatic 54) 3 := by unfold dc_at; decide +kernel
theorem dX8_addLink_17 : dc_at mX8_addLink 17 (.ifCond .eq 15) 3 := by unfold dc_at; decide +kernel
theorem dX8_addLink_20 : dc_at mX8_addLink 20 (.iload 4) 2 := by unfold dc_at; decide +kernel
theorem dX8_addLink_22 : dc_at mX8_addLink 22 (.iload_n 3) 1 := by unfold dc_at; decide +kernel
theorem dX8_addLink_23 : dc_at mX8_addLink 23 (.sipush 500) 3 := by unfold dc_at; decide +kernel
theorem dX8_addLink_26 : dc_at mX8_addLink 26 (.invokestatic 54) 3 := by unfold dc_at; decide +kernel
theorem dX8_addLink_29 : dc_at mX8_addLink 29 (.ifCond .ne 5) 3 := by unfold dc_at; decide +kernel
theorem dX8_addLink_32 : dc_at mX8_addLink 32 (.iconst (-1)) 1 := by unfold dc_at; decide +kernel
theorem dX8_addLink_33 : dc_at mX8_addLink 33 (.ireturn) 1 := by unfold dc_at; decide +kernel
theorem dX8_addLink_34 : dc_at mX8_addLink 34 (.aload_n 0) 1 := by unfold dc_at; decide +kernel
theorem dX8_addLink_35 : dc_at mX8_addLink 35 (.iload_n 1) 1 := by unfold dc_at; decide +kernel
theorem dX8_addLink_36 : dc_at mX8_addLink 36 (.iload_n 2) 1 := by unfold dc_at; decide +kernel
theorem dX8_addLink_37 : dc_at mX8_addLink 37 (.invokevirtual 66) 3 := by unfold dc_at; decide +kernel
theorem dX8_addLink_40 : dc_at mX8_addLink 40 (.ifCond .eq 6) 3 := by unfold dc_at; decide +kernel
theorem dX8_addLink_43 : dc_at mX8_addLink 43 (.bipush (-2)) 2 := by unfold dc_at; decide +kernel
theorem dX8_addLink_45 : dc_at mX8_addLink 45 (.ireturn) 1 := by unfold dc_at; decide +kernel
theorem dX8_addLink_46 : dc_at mX8_addLink 46 (.aload_n 0) 1 := by unfold dc_at; decide +kernel
theorem dX8_addLink_47 : dc_at mX8_addLink 47 (.getfield 13) 3 := by unfold dc_at; decide +kernel
theorem dX8_addLink_50 : dc_at mX8_addLink 50 (.sipush 3595) 3 := by unfold dc_at; decide +kernel
theorem dX8_addLink_53 : dc_at mX8_addLink 53 (.iaload) 1 := by unfold dc_at; decide +kernel
theorem dX8_addLink_54 : dc_at mX8_addLink 54 (.bipush 16) 2 := by unfold dc_at; decide +kernel
theorem dX8_addLink_56 : dc_at mX8_addLink 56 (.if_icmp .ne 6) 3 := by unfold dc_at; decide +kernel
theorem dX8_addLink_59 : dc_at mX8_addLink 59 (.bipush (-3)) 2 := by unfold dc_at; decide +kernel
theorem dX8_addLink_61 : dc_at mX8_addLink 61 (.ireturn) 1 := by unfold dc_at; decide +kernel
theorem dX8_addLink_62 : dc_at mX8_addLink 62 (.aload_n 0) 1 := by unfold dc_at; decide +kernel
theorem dX8_addLink_63 : dc_at mX8_addLink 63 (.iload_n 1) 1 := by unfold dc_at; decide +kernel
theorem dX8_addLink_64 : dc_at mX8_addLink 64 (.iload_n 2) 1 := by unfold dc_at; decide +kernel
theorem dX8_addLink_65 : dc_at mX8_addLink 65 (.iconst 0) 1 := by unfold dc_at; decide +kernel
theorem dX8_addLink_66 : dc_at mX8_addLink 66 (.iload_n 3) 1 := by unfold dc_at; decide +kernel
theorem dX8_addLink_67 : dc_at mX8_addLink 67 (.invokevirtual 77) 3 := by unfold dc_at; decide +kernel
theorem dX8_addLink_70 : dc_at mX8_addLink 70 (.aload_n 0) 1 := by unfold dc_at; decide +kernel
theorem dX8_addLink_71 : dc_at mX8_addLink 71 (.iload_n 1) 1 := by unfold dc_at; decide +kernel
theorem dX8_addLink_72 : dc_at mX8_addLink 72 (.iload_n 2) 1 := by unfold dc_at; decide +kernel
theorem dX8_addLink_73 : dc_at mX8_addLink 73 (.iconst 1) 1 := by unfold dc_at; decide +kernel
theorem dX8_addLink_74 : dc_at mX8_addLink 74 (.iload 4) 2 := by unfold dc_at; decide +kernel
theorem dX8_addLink_76 : dc_at mX8_addLink 76 (.invokevirtual 77) 3 := by unfold dc_at; decide +kernel
theorem dX8_addLink_79 : dc_at mX8_addLink 79 (.aload_n 0) 1 := by unfold dc_at; decide +kernel
theorem dX8_addLink_80 : dc_at mX8_addLink 80 (.iload_n 1) 1 := by unfold dc_at; decide +kernel
theorem dX8_addLink_81 : dc_at mX8_addLink 81 (.iload_n 2) 1 := by unfold dc_at; decide +kernel
theorem dX8_addLink_82 : dc_at mX8_addLink 82 (.iconst 2) 1 := by unfold dc_at; decide +kernel
theorem dX8_addLink_83 : dc_at mX8_addLink 83 (.iload_n 3) 1 := by unfold dc_at; decide +kernel
theorem dX8_addLink_84 : dc_at mX8_addLink 84 (.invokevirtual 77) 3 := by unfold dc_at; decide +kernel
theorem dX8_addLink_87 : dc_at mX8_addLink 87 (.aload_n 0) 1 := by unfold dc_at; decide +kernel
theorem dX8_addLink_88 : dc_at mX8_addLink 88 (.iload_n 1) 1 := by unfold dc_at; decide +kernel
theorem dX8_addLink_89 : dc_at mX8_addLink 89 (.iload_n 2) 1 := by unfold dc_at; decide +kernel
theorem dX8_addLink_90 : dc_at mX8_addLink 90 (.iconst 3) 1 := by unfold dc_at; decide +kernel
theorem dX8_addLink_91 : dc_at mX8_addLink 91 (.iconst 1) 1 := by unfold dc_at; decide +kernel
theorem dX8_addLink_92 : dc_at mX8_addLink 92 (.invokevirtual 77) 3 := by unfold dc_at; decide +kernel
theorem dX8_addLink_95 : dc_at mX8_addLink 95 (.aload_n 0) 1 := by unfold dc_at; decide +kernel
theorem dX8_addLink_96 : dc_at mX8_addLink 96 (.getfield 13) 3 := by unfold dc_at; decide +kernel
theorem dX8_addLink_99 : dc_at mX8_addLink 99 (.sipush 3595) 3 := by unfold dc_at; decide +kernel
theorem dX8_addLink_102 : dc_at mX8_addLink 102 (.dup2) 1 := by unfold dc_at; decide +kernel
theorem dX8_addLink_103 : dc_at mX8_addLink 103 (.iaload) 1 := by unfold dc_at; decide +kernel
theorem dX8_addLink_104 : dc_at mX8_addLink 104 (.iconst 1) 1 := by unfold dc_at; decide +kernel
theorem dX8_addLink_105 : dc_at mX8_addLink 105 (.iadd) 1 := by unfold dc_at; decide +kernel
theorem dX8_addLink_106 : dc_at mX8_addLink 106 (.iastore) 1 := by unfold dc_at; decide +kernel
theorem dX8_addLink_107 : dc_at mX8_addLink 107 (.aload_n 0) 1 := by unfold dc_at; decide +kernel
theorem dX8_addLink_108 : dc_at mX8_addLink 108 (.getfield 13) 3 := by unfold dc_at; decide +kernel
theorem dX8_addLink_111 : dc_at mX8_addLink 111 (.sipush 3595) 3 := by unfold dc_at; decide +kernel
theorem dX8_addLink_114 : dc_at mX8_addLink 114 (.iaload) 1 := by unfold dc_at; decide +kernel
theorem dX8_addLink_115 : dc_at mX8_addLink 115 (.ireturn) 1 := by unfold dc_at; decide +kernel
theorem dX8_removeLink_0 : dc_at mX8_removeLink 0 (.aload_n 0) 1 := by unfold dc_at; decide +kernel
theorem dX8_removeLink_1 : dc_at mX8_removeLink 1 (.iload_n 1) 1 := by unfold dc_at; decide +kernel
theorem dX8_removeLink_2 : dc_at mX8_removeLink 2 (.iload_n 2) 1 := by unfold dc_at; decide +kernel
theorem dX8_removeLink_3 : dc_at mX8_removeLink 3 (.invokevirtual 74) 3 := by unfold dc_at; decide +kernel
theorem dX8_removeLink_6 : dc_at mX8_removeLink 6 (.ifCond .ne 5) 3 := by unfold dc_at; decide +kernel
theorem dX8_removeLink_9 : dc_at mX8_removeLink 9 (.iconst (-1)) 1 := by unfold dc_at; decide +kernel
theorem dX8_removeLink_10 : dc_at mX8_removeLink 10 (.ireturn) 1 := by unfold dc_at; decide +kernel
theorem dX8_removeLink_11 : dc_at mX8_removeLink 11 (.aload_n 0) 1 := by unfold dc_at; decide +kernel
theorem dX8_removeLink_12 : dc_at mX8_removeLink 12 (.iload_n 1) 1 := by unfold dc_at; decide +kernel
theorem dX8_removeLink_13 : dc_at mX8_removeLink 13 (.iload_n 2) 1 := by unfold dc_at; decide +kernel
theorem dX8_removeLink_14 : dc_at mX8_removeLink 14 (.invokevirtual 66) 3 := by unfold dc_at; decide +kernel
theorem dX8_removeLink_17 : dc_at mX8_removeLink 17 (.ifCond .ne 6) 3 := by unfold dc_at; decide +kernel
theorem dX8_removeLink_20 : dc_at mX8_removeLink 20 (.bipush (-4)) 2 := by unfold dc_at; decide +kernel
theorem dX8_removeLink_22 : dc_at mX8_removeLink 22 (.ireturn) 1 := by unfold dc_at; decide +kernel
theorem dX8_removeLink_23 : dc_at mX8_removeLink 23 (.iconst 0) 1 := by unfold dc_at; decide +kernel
theorem dX8_removeLink_24 : dc_at mX8_removeLink 24 (.istore_n 3) 1 := by unfold dc_at; decide +kernel
theorem dX8_removeLink_25 : dc_at mX8_removeLink 25 (.iload_n 3) 1 := by unfold dc_at; decide +kernel
theorem dX8_removeLink_26 : dc_at mX8_removeLink 26 (.iconst 4) 1 := by unfold dc_at; decide +kernel
theorem dX8_removeLink_27 : dc_at mX8_removeLink 27 (.if_icmp .ge 17) 3 := by unfold dc_at; decide +kernel
theorem dX8_removeLink_30 : dc_at mX8_removeLink 30 (.aload_n 0) 1 := by unfold dc_at; decide +kernel
theorem dX8_removeLink_31 : dc_at mX8_removeLink 31 (.iload_n 1) 1 := by unfold dc_at; decide +kernel
theorem dX8_removeLink_32 : dc_at mX8_removeLink 32 (.iload_n 2) 1 := by unfold dc_at; decide +kernel
theorem dX8_removeLink_33 : dc_at mX8_removeLink 33 (.iload_n 3) 1 := by unfold dc_at; decide +kernel
theorem dX8_removeLink_34 : dc_at mX8_removeLink 34 (.iconst 0) 1 := by unfold dc_at; decide +kernel
theorem dX8_removeLink_35 : dc_at mX8_removeLink 35 (.invokevirtual 77) 3 := by unfold dc_at; decide +kernel
theorem dX8_removeLink_38 : dc_at mX8_removeLink 38 (.iinc 3 1) 3 := by unfold dc_at; decide +kernel
theorem dX8_removeLink_41 : dc_at mX8_removeLink 41 (.goto (-16)) 3 := by unfold dc_at; decide +kernel
theorem dX8_removeLink_44 : dc_at mX8_removeLink 44 (.aload_n 0) 1 := by unfold dc_at; decide +kernel
theorem dX8_removeLink_45 : dc_at mX8_removeLink 45 (.getfield 13) 3 := by unfold dc_at; decide +kernel
theorem dX8_removeLink_48 : dc_at mX8_removeLink 48 (.sipush 3595) 3 := by unfold dc_at; decide +kernel
theorem dX8_removeLink_51 : dc_at mX8_removeLink 51 (.dup2) 1 := by unfold dc_at; decide +kernel
theorem dX8_removeLink_52 : dc_at mX8_removeLink 52 (.iaload) 1 := by unfold dc_at; decide +kernel
theorem dX8_removeLink_53 : dc_at mX8_removeLink 53 (.iconst 1) 1 := by unfold dc_at; decide +kernel
theorem dX8_removeLink_54 : dc_at mX8_removeLink 54 (.isub) 1 := by unfold dc_at; decide +kernel
theorem dX8_removeLink_55 : dc_at mX8_removeLink 55 (.iastore) 1 := by unfold dc_at; decide +kernel
theorem dX8_removeLink_56 : dc_at mX8_removeLink 56 (.aload_n 0) 1 := by unfold dc_at; decide +kernel
theorem dX8_removeLink_57 : dc_at mX8_removeLink 57 (.getfield 13) 3 := by unfold dc_at; decide +kernel
theorem dX8_removeLink_60 : dc_at mX8_removeLink 60 (.sipush 3595) 3 := by unfold dc_at; decide +kernel
theorem dX8_removeLink_63 : dc_at mX8_removeLink 63 (.iaload) 1 := by unfold dc_at; decide +kernel
theorem dX8_removeLink_64 : dc_at mX8_removeLink 64 (.ireturn) 1 := by unfold dc_at; decide +kernel
theorem dX8_setCost_0 : dc_at mX8_setCost 0 (.aload_n 0) 1 := by unfold dc_at; decide +kernel
theorem dX8_setCost_1 : dc_at mX8_setCost 1 (.iload_n 1) 1 := by unfold dc_at; decide +kernel
theorem dX8_setCost_2 : dc_at mX8_setCost 2 (.iload_n 2) 1 := by unfold dc_at; decide +kernel
theorem dX8_setCost_3 : dc_at mX8_setCost 3 (.invokevirtual 74) 3 := by unfold dc_at; decide +kernel
theorem dX8_setCost_6 : dc_at mX8_setCost 6 (.ifCond .eq 14) 3 := by unfold dc_at; decide +kernel
theorem dX8_setCost_9 : dc_at mX8_setCost 9 (.iload_n 3) 1 := by unfold dc_at; decide +kernel
theorem dX8_setCost_10 : dc_at mX8_setCost 10 (.iconst 1) 1 := by unfold dc_at; decide +kernel
theorem dX8_setCost_11 : dc_at mX8_setCost 11 (.sipush 500) 3 := by unfold dc_at; decide +kernel
theorem dX8_setCost_14 : dc_at mX8_setCost 14 (.invokestatic 54) 3 := by unfold dc_at; decide +kernel
theorem dX8_setCost_17 : dc_at mX8_setCost 17 (.ifCond .ne 5) 3 := by unfold dc_at; decide +kernel
theorem dX8_setCost_20 : dc_at mX8_setCost 20 (.iconst (-1)) 1 := by unfold dc_at; decide +kernel
theorem dX8_setCost_21 : dc_at mX8_setCost 21 (.ireturn) 1 := by unfold dc_at; decide +kernel
theorem dX8_setCost_22 : dc_at mX8_setCost 22 (.aload_n 0) 1 := by unfold dc_at; decide +kernel
theorem dX8_setCost_23 : dc_at mX8_setCost 23 (.iload_n 1) 1 := by unfold dc_at; decide +kernel
theorem dX8_setCost_24 : dc_at mX8_setCost 24 (.iload_n 2) 1 := by unfold dc_at; decide +kernel
theorem dX8_setCost_25 : dc_at mX8_setCost 25 (.invokevirtual 66) 3 := by unfold dc_at; decide +kernel
theorem dX8_setCost_28 : dc_at mX8_setCost 28 (.ifCond .ne 6) 3 := by unfold dc_at; decide +kernel
theorem dX8_setCost_31 : dc_at mX8_setCost 31 (.bipush (-4)) 2 := by unfold dc_at; decide +kernel
theorem dX8_setCost_33 : dc_at mX8_setCost 33 (.ireturn) 1 := by unfold dc_at; decide +kernel
theorem dX8_setCost_34 : dc_at mX8_setCost 34 (.iload_n 3) 1 := by unfold dc_at; decide +kernel
theorem dX8_setCost_35 : dc_at mX8_setCost 35 (.aload_n 0) 1 := by unfold dc_at; decide +kernel
theorem dX8_setCost_36 : dc_at mX8_setCost 36 (.getfield 13) 3 := by unfold dc_at; decide +kernel
theorem dX8_setCost_39 : dc_at mX8_setCost 39 (.iload_n 1) 1 := by unfold dc_at; decide +kernel
theorem dX8_setCost_40 : dc_at mX8_setCost 40 (.iload_n 2) 1 := by unfold dc_at; decide +kernel
theorem dX8_setCost_41 : dc_at mX8_setCost 41 (.iconst 0) 1 := by unfold dc_at; decide +kernel
theorem dX8_setCost_42 : dc_at mX8_setCost 42 (.invokestatic 62) 3 := by unfold dc_at; decide +kernel
theorem dX8_setCost_45 : dc_at mX8_setCost 45 (.iaload) 1 := by unfold dc_at; decide +kernel
theorem dX8_setCost_46 : dc_at mX8_setCost 46 (.aload_n 0) 1 := by unfold dc_at; decide +kernel
theorem dX8_setCost_47 : dc_at mX8_setCost 47 (.getfield 13) 3 := by unfold dc_at; decide +kernel
theorem dX8_setCost_50 : dc_at mX8_setCost 50 (.iload_n 1) 1 := by unfold dc_at; decide +kernel
theorem dX8_setCost_51 : dc_at mX8_setCost 51 (.iload_n 2) 1 := by unfold dc_at; decide +kernel
theorem dX8_setCost_52 : dc_at mX8_setCost 52 (.iconst 1) 1 := by unfold dc_at; decide +kernel
theorem dX8_setCost_53 : dc_at mX8_setCost 53 (.invokestatic 62) 3 := by unfold dc_at; decide +kernel
theorem dX8_setCost_56 : dc_at mX8_setCost 56 (.iaload) 1 := by unfold dc_at; decide +kernel
theorem dX8_setCost_57 : dc_at mX8_setCost 57 (.invokestatic 54) 3 := by unfold dc_at; decide +kernel
theorem dX8_setCost_60 : dc_at mX8_setCost 60 (.ifCond .ne 6) 3 := by unfold dc_at; decide +kernel
theorem dX8_setCost_63 : dc_at mX8_setCost 63 (.bipush (-2)) 2 := by unfold dc_at; decide +kernel
theorem dX8_setCost_65 : dc_at mX8_setCost 65 (.ireturn) 1 := by unfold dc_at; decide +kernel
theorem dX8_setCost_66 : dc_at mX8_setCost 66 (.aload_n 0) 1 := by unfold dc_at; decide +kernel
theorem dX8_setCost_67 : dc_at mX8_setCost 67 (.getfield 13) 3 := by unfold dc_at; decide +kernel
theorem dX8_setCost_70 : dc_at mX8_setCost 70 (.iload_n 1) 1 := by unfold dc_at; decide +kernel
theorem dX8_setCost_71 : dc_at mX8_setCost 71 (.iload_n 2) 1 := by unfold dc_at; decide +kernel
theorem dX8_setCost_72 : dc_at mX8_setCost 72 (.iconst 2) 1 := by unfold dc_at; decide +kernel
theorem dX8_setCost_73 : dc_at mX8_setCost 73 (.invokestatic 62) 3 := by unfold dc_at; decide +kernel
theorem dX8_setCost_76 : dc_at mX8_setCost 76 (.iaload) 1 := by unfold dc_at; decide +kernel
theorem dX8_setCost_77 : dc_at mX8_setCost 77 (.istore 4) 2 := by unfold dc_at; decide +kernel
theorem dX8_setCost_79 : dc_at mX8_setCost 79 (.aload_n 0) 1 := by unfold dc_at; decide +kernel
theorem dX8_setCost_80 : dc_at mX8_setCost 80 (.iload_n 1) 1 := by unfold dc_at; decide +kernel
theorem dX8_setCost_81 : dc_at mX8_setCost 81 (.iload_n 2) 1 := by unfold dc_at; decide +kernel
theorem dX8_setCost_82 : dc_at mX8_setCost 82 (.iconst 2) 1 := by unfold dc_at; decide +kernel
theorem dX8_setCost_83 : dc_at mX8_setCost 83 (.iload_n 3) 1 := by unfold dc_at; decide +kernel
theorem dX8_setCost_84 : dc_at mX8_setCost 84 (.invokevirtual 77) 3 := by unfold dc_at; decide +kernel
theorem dX8_setCost_87 : dc_at mX8_setCost 87 (.iload 4) 2 := by unfold dc_at; decide +kernel
theorem dX8_setCost_89 : dc_at mX8_setCost 89 (.ireturn) 1 := by unfold dc_at; decide +kernel
theorem dX8_setUp_0 : dc_at mX8_setUp 0 (.aload_n 0) 1 := by unfold dc_at; decide +kernel
theorem dX8_setUp_1 : dc_at mX8_setUp 1 (.iload_n 1) 1 := by unfold dc_at; decide +kernel
theorem dX8_setUp_2 : dc_at mX8_setUp 2 (.iload_n 2) 1 := by unfold dc_at; decide +kernel
theorem dX8_setUp_3 : dc_at mX8_setUp 3 (.invokevirtual 74) 3 := by unfold dc_at; decide +kernel
theorem dX8_setUp_6 : dc_at mX8_setUp 6 (.ifCond .eq 12) 3 := by unfold dc_at; decide +kernel
theorem dX8_setUp_9 : dc_at mX8_setUp 9 (.iload_n 3) 1 := by unfold dc_at; decide +kernel
theorem dX8_setUp_10 : dc_at mX8_setUp 10 (.iconst 0) 1 := by unfold dc_at; decide +kernel
theorem dX8_setUp_11 : dc_at mX8_setUp 11 (.iconst 1) 1 := by unfold dc_at; decide +kernel
theorem dX8_setUp_12 : dc_at mX8_setUp 12 (.invokestatic 54) 3 := by unfold dc_at; decide +kernel
theorem dX8_setUp_15 : dc_at mX8_setUp 15 (.ifCond .ne 5) 3 := by unfold dc_at; decide +kernel
theorem dX8_setUp_18 : dc_at mX8_setUp 18 (.iconst (-1)) 1 := by unfold dc_at; decide +kernel
theorem dX8_setUp_19 : dc_at mX8_setUp 19 (.ireturn) 1 := by unfold dc_at; decide +kernel
theorem dX8_setUp_20 : dc_at mX8_setUp 20 (.aload_n 0) 1 := by unfold dc_at; decide +kernel
theorem dX8_setUp_21 : dc_at mX8_setUp 21 (.iload_n 1) 1 := by unfold dc_at; decide +kernel
theorem dX8_setUp_22 : dc_at mX8_setUp 22 (.iload_n 2) 1 := by unfold dc_at; decide +kernel
theorem dX8_setUp_23 : dc_at mX8_setUp 23 (.invokevirtual 66) 3 := by unfold dc_at; decide +kernel
theorem dX8_setUp_26 : dc_at mX8_setUp 26 (.ifCond .ne 6) 3 := by unfold dc_at; decide +kernel
theorem dX8_setUp_29 : dc_at mX8_setUp 29 (.bipush (-4)) 2 := by unfold dc_at; decide +kernel
theorem dX8_setUp_31 : dc_at mX8_setUp 31 (.ireturn) 1 := by unfold dc_at; decide +kernel
theorem dX8_setUp_32 : dc_at mX8_setUp 32 (.aload_n 0) 1 := by unfold dc_at; decide +kernel
theorem dX8_setUp_33 : dc_at mX8_setUp 33 (.getfield 13) 3 := by unfold dc_at; decide +kernel
theorem dX8_setUp_36 : dc_at mX8_setUp 36 (.iload_n 1) 1 := by unfold dc_at; decide +kernel
theorem dX8_setUp_37 : dc_at mX8_setUp 37 (.iload_n 2) 1 := by unfold dc_at; decide +kernel
theorem dX8_setUp_38 : dc_at mX8_setUp 38 (.iconst 3) 1 := by unfold dc_at; decide +kernel
theorem dX8_setUp_39 : dc_at mX8_setUp 39 (.invokestatic 62) 3 := by unfold dc_at; decide +kernel
theorem dX8_setUp_42 : dc_at mX8_setUp 42 (.iaload) 1 := by unfold dc_at; decide +kernel
theorem dX8_setUp_43 : dc_at mX8_setUp 43 (.istore 4) 2 := by unfold dc_at; decide +kernel
theorem dX8_setUp_45 : dc_at mX8_setUp 45 (.aload_n 0) 1 := by unfold dc_at; decide +kernel
theorem dX8_setUp_46 : dc_at mX8_setUp 46 (.iload_n 1) 1 := by unfold dc_at; decide +kernel
theorem dX8_setUp_47 : dc_at mX8_setUp 47 (.iload_n 2) 1 := by unfold dc_at; decide +kernel
theorem dX8_setUp_48 : dc_at mX8_setUp 48 (.iconst 3) 1 := by unfold dc_at; decide +kernel
theorem dX8_setUp_49 : dc_at mX8_setUp 49 (.iload_n 3) 1 := by unfold dc_at; decide +kernel
theorem dX8_setUp_50 : dc_at mX8_setUp 50 (.invokevirtual 77) 3 := by unfold dc_at; decide +kernel
theorem dX8_setUp_53 : dc_at mX8_setUp 53 (.iload 4) 2 := by unfold dc_at; decide +kernel
theorem dX8_setUp_55 : dc_at mX8_setUp 55 (.ireturn) 1 := by unfold dc_at; decide +kernel
theorem dX8_link_0 : dc_at mX8_link 0 (.aload_n 0) 1 := by unfold dc_at; decide +kernel
theorem dX8_link_1 : dc_at mX8_link 1 (.iload_n 1) 1 := by unfold dc_at; decide +kernel
theorem dX8_link_2 : dc_at mX8_link 2 (.iload_n 2) 1 := by unfold dc_at; decide +kernel
theorem dX8_link_3 : dc_at mX8_link 3 (.invokevirtual 74) 3 := by unfold dc_at; decide +kernel
theorem dX8_link_6 : dc_at mX8_link 6 (.ifCond .eq 12) 3 := by unfold dc_at; decide +kernel
theorem dX8_link_9 : dc_at mX8_link 9 (.iload_n 3) 1 := by unfold dc_at; decide +kernel
theorem dX8_link_10 : dc_at mX8_link 10 (.iconst 0) 1 := by unfold dc_at; decide +kernel
theorem dX8_link_11 : dc_at mX8_link 11 (.iconst 3) 1 := by unfold dc_at; decide +kernel
theorem dX8_link_12 : dc_at mX8_link 12 (.invokestatic 54) 3 := by unfold dc_at; decide +kernel
theorem dX8_link_15 : dc_at mX8_link 15 (.ifCond .ne 5) 3 := by unfold dc_at; decide +kernel
theorem dX8_link_18 : dc_at mX8_link 18 (.iconst (-1)) 1 := by unfold dc_at; decide +kernel
theorem dX8_link_19 : dc_at mX8_link 19 (.ireturn) 1 := by unfold dc_at; decide +kernel
theorem dX8_link_20 : dc_at mX8_link 20 (.aload_n 0) 1 := by unfold dc_at; decide +kernel
theorem dX8_link_21 : dc_at mX8_link 21 (.iload_n 1) 1 := by unfold dc_at; decide +kernel
theorem dX8_link_22 : dc_at mX8_link 22 (.iload_n 2) 1 := by unfold dc_at; decide +kernel
theorem dX8_link_23 : dc_at mX8_link 23 (.invokevirtual 66) 3 := by unfold dc_at; decide +kernel
theorem dX8_link_26 : dc_at mX8_link 26 (.ifCond .eq 17) 3 := by unfold dc_at; decide +kernel
theorem dX8_link_29 : dc_at mX8_link 29 (.aload_n 0) 1 := by unfold dc_at; decide +kernel
theorem dX8_link_30 : dc_at mX8_link 30 (.getfield 13) 3 := by unfold dc_at; decide +kernel
theorem dX8_link_33 : dc_at mX8_link 33 (.iload_n 1) 1 := by unfold dc_at; decide +kernel
theorem dX8_link_34 : dc_at mX8_link 34 (.iload_n 2) 1 := by unfold dc_at; decide +kernel
theorem dX8_link_35 : dc_at mX8_link 35 (.iload_n 3) 1 := by unfold dc_at; decide +kernel
theorem dX8_link_36 : dc_at mX8_link 36 (.invokestatic 62) 3 := by unfold dc_at; decide +kernel
theorem dX8_link_39 : dc_at mX8_link 39 (.iaload) 1 := by unfold dc_at; decide +kernel
theorem dX8_link_40 : dc_at mX8_link 40 (.goto 5) 3 := by unfold dc_at; decide +kernel
theorem dX8_link_43 : dc_at mX8_link 43 (.bipush (-4)) 2 := by unfold dc_at; decide +kernel
theorem dX8_link_45 : dc_at mX8_link 45 (.ireturn) 1 := by unfold dc_at; decide +kernel
theorem dX8_set_0 : dc_at mX8_set 0 (.iload_n 1) 1 := by unfold dc_at; decide +kernel
theorem dX8_set_1 : dc_at mX8_set 1 (.iconst 0) 1 := by unfold dc_at; decide +kernel
theorem dX8_set_2 : dc_at mX8_set 2 (.bipush 9) 2 := by unfold dc_at; decide +kernel
theorem dX8_set_4 : dc_at mX8_set 4 (.invokestatic 54) 3 := by unfold dc_at; decide +kernel
theorem dX8_set_7 : dc_at mX8_set 7 (.ifCond .eq 22) 3 := by unfold dc_at; decide +kernel
theorem dX8_set_10 : dc_at mX8_set 10 (.iload_n 2) 1 := by unfold dc_at; decide +kernel
theorem dX8_set_11 : dc_at mX8_set 11 (.aload_n 0) 1 := by unfold dc_at; decide +kernel
theorem dX8_set_12 : dc_at mX8_set 12 (.getfield 26) 3 := by unfold dc_at; decide +kernel
theorem dX8_set_15 : dc_at mX8_set 15 (.iload_n 1) 1 := by unfold dc_at; decide +kernel
theorem dX8_set_16 : dc_at mX8_set 16 (.iaload) 1 := by unfold dc_at; decide +kernel
theorem dX8_set_17 : dc_at mX8_set 17 (.aload_n 0) 1 := by unfold dc_at; decide +kernel
theorem dX8_set_18 : dc_at mX8_set 18 (.getfield 29) 3 := by unfold dc_at; decide +kernel
theorem dX8_set_21 : dc_at mX8_set 21 (.iload_n 1) 1 := by unfold dc_at; decide +kernel
theorem dX8_set_22 : dc_at mX8_set 22 (.iaload) 1 := by unfold dc_at; decide +kernel
theorem dX8_set_23 : dc_at mX8_set 23 (.invokestatic 54) 3 := by unfold dc_at; decide +kernel
theorem dX8_set_26 : dc_at mX8_set 26 (.ifCond .ne 5) 3 := by unfold dc_at; decide +kernel
theorem dX8_set_29 : dc_at mX8_set 29 (.iconst (-1)) 1 := by unfold dc_at; decide +kernel
theorem dX8_set_30 : dc_at mX8_set 30 (.ireturn) 1 := by unfold dc_at; decide +kernel
theorem dX8_set_31 : dc_at mX8_set 31 (.aload_n 0) 1 := by unfold dc_at; decide +kernel
theorem dX8_set_32 : dc_at mX8_set 32 (.getfield 23) 3 := by unfold dc_at; decide +kernel
theorem dX8_set_35 : dc_at mX8_set 35 (.iload_n 1) 1 := by unfold dc_at; decide +kernel
theorem dX8_set_36 : dc_at mX8_set 36 (.iaload) 1 := by unfold dc_at; decide +kernel
theorem dX8_set_37 : dc_at mX8_set 37 (.istore_n 3) 1 := by unfold dc_at; decide +kernel
theorem dX8_set_38 : dc_at mX8_set 38 (.aload_n 0) 1 := by unfold dc_at; decide +kernel
theorem dX8_set_39 : dc_at mX8_set 39 (.getfield 23) 3 := by unfold dc_at; decide +kernel
theorem dX8_set_42 : dc_at mX8_set 42 (.iload_n 1) 1 := by unfold dc_at; decide +kernel
theorem dX8_set_43 : dc_at mX8_set 43 (.iload_n 2) 1 := by unfold dc_at; decide +kernel
theorem dX8_set_44 : dc_at mX8_set 44 (.iastore) 1 := by unfold dc_at; decide +kernel
theorem dX8_set_45 : dc_at mX8_set 45 (.iload_n 3) 1 := by unfold dc_at; decide +kernel
theorem dX8_set_46 : dc_at mX8_set 46 (.ireturn) 1 := by unfold dc_at; decide +kernel
theorem dX8_of_0 : dc_at mX8_of 0 (.aload_n 0) 1 := by unfold dc_at; decide +kernel
theorem dX8_of_1 : dc_at mX8_of 1 (.getfield 13) 3 := by unfold dc_at; decide +kernel
theorem dX8_of_4 : dc_at mX8_of 4 (.iload_n 1) 1 := by unfold dc_at; decide +kernel
theorem dX8_of_5 : dc_at mX8_of 5 (.iload_n 2) 1 := by unfold dc_at; decide +kernel
theorem dX8_of_6 : dc_at mX8_of 6 (.iload_n 3) 1 := by unfold dc_at; decide +kernel
theorem dX8_of_7 : dc_at mX8_of 7 (.iload 4) 2 := by unfold dc_at; decide +kernel
theorem dX8_of_9 : dc_at mX8_of 9 (.invokestatic 81) 3 := by unfold dc_at; decide +kernel
theorem dX8_of_12 : dc_at mX8_of 12 (.iaload) 1 := by unfold dc_at; decide +kernel
theorem dX8_of_13 : dc_at mX8_of 13 (.ireturn) 1 := by unfold dc_at; decide +kernel
theorem dX8_isEntry_0 : dc_at mX8_isEntry 0 (.aload_n 0) 1 := by unfold dc_at; decide +kernel
theorem dX8_isEntry_1 : dc_at mX8_isEntry 1 (.iload_n 1) 1 := by unfold dc_at; decide +kernel
theorem dX8_isEntry_2 : dc_at mX8_isEntry 2 (.iload_n 2) 1 := by unfold dc_at; decide +kernel
theorem dX8_isEntry_3 : dc_at mX8_isEntry 3 (.iload_n 3) 1 := by unfold dc_at; decide +kernel
theorem dX8_isEntry_4 : dc_at mX8_isEntry 4 (.iconst 0) 1 := by unfold dc_at; decide +kernel
theorem dX8_isEntry_5 : dc_at mX8_isEntry 5 (.invokevirtual 85) 3 := by unfold dc_at; decide +kernel
theorem dX8_isEntry_8 : dc_at mX8_isEntry 8 (.iconst 1) 1 := by unfold dc_at; decide +kernel
theorem dX8_isEntry_9 : dc_at mX8_isEntry 9 (.if_icmp .ne 7) 3 := by unfold dc_at; decide +kernel
theorem dX8_isEntry_12 : dc_at mX8_isEntry 12 (.iconst 1) 1 := by unfold dc_at; decide +kernel
theorem dX8_isEntry_13 : dc_at mX8_isEntry 13 (.goto 4) 3 := by unfold dc_at; decide +kernel
theorem dX8_isEntry_16 : dc_at mX8_isEntry 16 (.iconst 0) 1 := by unfold dc_at; decide +kernel
theorem dX8_isEntry_17 : dc_at mX8_isEntry 17 (.ireturn) 1 := by unfold dc_at; decide +kernel
theorem dX8_isUsable_0 : dc_at mX8_isUsable 0 (.aload_n 0) 1 := by unfold dc_at; decide +kernel
theorem dX8_isUsable_1 : dc_at mX8_isUsable 1 (.getfield 13) 3 := by unfold dc_at; decide +kernel
theorem dX8_isUsable_4 : dc_at mX8_isUsable 4 (.sipush 3593) 3 := by unfold dc_at; decide +kernel
theorem dX8_isUsable_7 : dc_at mX8_isUsable 7 (.iaload) 1 := by unfold dc_at; decide +kernel
theorem dX8_isUsable_8 : dc_at mX8_isUsable 8 (.istore 4) 2 := by unfold dc_at; decide +kernel
theorem dX8_isUsable_10 : dc_at mX8_isUsable 10 (.aload_n 0) 1 := by unfold dc_at; decide +kernel
theorem dX8_isUsable_11 : dc_at mX8_isUsable 11 (.iload_n 1) 1 := by unfold dc_at; decide +kernel
theorem dX8_isUsable_12 : dc_at mX8_isUsable 12 (.iload_n 2) 1 := by unfold dc_at; decide +kernel
theorem dX8_isUsable_13 : dc_at mX8_isUsable 13 (.iload_n 3) 1 := by unfold dc_at; decide +kernel
theorem dX8_isUsable_14 : dc_at mX8_isUsable 14 (.invokevirtual 88) 3 := by unfold dc_at; decide +kernel
theorem dX8_isUsable_17 : dc_at mX8_isUsable 17 (.ifCond .eq 60) 3 := by unfold dc_at; decide +kernel
theorem dX8_isUsable_20 : dc_at mX8_isUsable 20 (.aload_n 0) 1 := by unfold dc_at; decide +kernel
theorem dX8_isUsable_21 : dc_at mX8_isUsable 21 (.iload_n 1) 1 := by unfold dc_at; decide +kernel
theorem dX8_isUsable_22 : dc_at mX8_isUsable 22 (.iload_n 2) 1 := by unfold dc_at; decide +kernel
theorem dX8_isUsable_23 : dc_at mX8_isUsable 23 (.iload_n 3) 1 := by unfold dc_at; decide +kernel
theorem dX8_isUsable_24 : dc_at mX8_isUsable 24 (.iconst 3) 1 := by unfold dc_at; decide +kernel
theorem dX8_isUsable_25 : dc_at mX8_isUsable 25 (.invokevirtual 85) 3 := by unfold dc_at; decide +kernel
theorem dX8_isUsable_28 : dc_at mX8_isUsable 28 (.iload 4) 2 := by unfold dc_at; decide +kernel
theorem dX8_isUsable_30 : dc_at mX8_isUsable 30 (.if_icmp .lt 47) 3 := by unfold dc_at; decide +kernel
theorem dX8_isUsable_33 : dc_at mX8_isUsable 33 (.aload_n 0) 1 := by unfold dc_at; decide +kernel
theorem dX8_isUsable_34 : dc_at mX8_isUsable 34 (.iload_n 1) 1 := by unfold dc_at; decide +kernel
theorem dX8_isUsable_35 : dc_at mX8_isUsable 35 (.iload_n 2) 1 := by unfold dc_at; decide +kernel
theorem dX8_isUsable_36 : dc_at mX8_isUsable 36 (.iload_n 3) 1 := by unfold dc_at; decide +kernel
theorem dX8_isUsable_37 : dc_at mX8_isUsable 37 (.iconst 2) 1 := by unfold dc_at; decide +kernel
theorem dX8_isUsable_38 : dc_at mX8_isUsable 38 (.invokevirtual 85) 3 := by unfold dc_at; decide +kernel
theorem dX8_isUsable_41 : dc_at mX8_isUsable 41 (.aload_n 0) 1 := by unfold dc_at; decide +kernel
theorem dX8_isUsable_42 : dc_at mX8_isUsable 42 (.getfield 23) 3 := by unfold dc_at; decide +kernel
theorem dX8_isUsable_45 : dc_at mX8_isUsable 45 (.bipush 6) 2 := by unfold dc_at; decide +kernel
theorem dX8_isUsable_47 : dc_at mX8_isUsable 47 (.iaload) 1 := by unfold dc_at; decide +kernel
theorem dX8_isUsable_48 : dc_at mX8_isUsable 48 (.if_icmp .ge 29) 3 := by unfold dc_at; decide +kernel
theorem dX8_isUsable_51 : dc_at mX8_isUsable 51 (.iload 4) 2 := by unfold dc_at; decide +kernel
theorem dX8_isUsable_53 : dc_at mX8_isUsable 53 (.aload_n 0) 1 := by unfold dc_at; decide +kernel
theorem dX8_isUsable_54 : dc_at mX8_isUsable 54 (.iload_n 1) 1 := by unfold dc_at; decide +kernel
theorem dX8_isUsable_55 : dc_at mX8_isUsable 55 (.iload_n 2) 1 := by unfold dc_at; decide +kernel
theorem dX8_isUsable_56 : dc_at mX8_isUsable 56 (.iload_n 3) 1 := by unfold dc_at; decide +kernel
theorem dX8_isUsable_57 : dc_at mX8_isUsable 57 (.iconst 5) 1 := by unfold dc_at; decide +kernel
theorem dX8_isUsable_58 : dc_at mX8_isUsable 58 (.invokevirtual 85) 3 := by unfold dc_at; decide +kernel
theorem dX8_isUsable_61 : dc_at mX8_isUsable 61 (.if_icmp .le 16) 3 := by unfold dc_at; decide +kernel
theorem dX8_isUsable_64 : dc_at mX8_isUsable 64 (.aload_n 0) 1 := by unfold dc_at; decide +kernel
theorem dX8_isUsable_65 : dc_at mX8_isUsable 65 (.iload_n 1) 1 := by unfold dc_at; decide +kernel
theorem dX8_isUsable_66 : dc_at mX8_isUsable 66 (.iload_n 3) 1 := by unfold dc_at; decide +kernel
theorem dX8_isUsable_67 : dc_at mX8_isUsable 67 (.invokevirtual 91) 3 := by unfold dc_at; decide +kernel
theorem dX8_isUsable_70 : dc_at mX8_isUsable 70 (.ifCond .eq 7) 3 := by unfold dc_at; decide +kernel
theorem dX8_isUsable_73 : dc_at mX8_isUsable 73 (.iconst 1) 1 := by unfold dc_at; decide +kernel
theorem dX8_isUsable_74 : dc_at mX8_isUsable 74 (.goto 4) 3 := by unfold dc_at; decide +kernel
theorem dX8_isUsable_77 : dc_at mX8_isUsable 77 (.iconst 0) 1 := by unfold dc_at; decide +kernel
theorem dX8_isUsable_78 : dc_at mX8_isUsable 78 (.ireturn) 1 := by unfold dc_at; decide +kernel
theorem dX8_least_0 : dc_at mX8_least 0 (.iconst (-1)) 1 := by unfold dc_at; decide +kernel
theorem dX8_least_1 : dc_at mX8_least 1 (.istore 5) 2 := by unfold dc_at; decide +kernel
theorem dX8_least_3 : dc_at mX8_least 3 (.iconst 0) 1 := by unfold dc_at; decide +kernel
theorem dX8_least_4 : dc_at mX8_least 4 (.istore 6) 2 := by unfold dc_at; decide +kernel
theorem dX8_least_6 : dc_at mX8_least 6 (.iload 6) 2 := by unfold dc_at; decide +kernel
theorem dX8_least_8 : dc_at mX8_least 8 (.aload_n 0) 1 := by unfold dc_at; decide +kernel
theorem dX8_least_9 : dc_at mX8_least 9 (.getfield 7) 3 := by unfold dc_at; decide +kernel
theorem dX8_least_12 : dc_at mX8_least 12 (.if_icmp .ge 65) 3 := by unfold dc_at; decide +kernel
theorem dX8_least_15 : dc_at mX8_least 15 (.iload 6) 2 := by unfold dc_at; decide +kernel
theorem dX8_least_17 : dc_at mX8_least 17 (.iload_n 1) 1 := by unfold dc_at; decide +kernel
theorem dX8_least_18 : dc_at mX8_least 18 (.if_icmp .eq 53) 3 := by unfold dc_at; decide +kernel
theorem dX8_least_21 : dc_at mX8_least 21 (.iload 6) 2 := by unfold dc_at; decide +kernel
theorem dX8_least_23 : dc_at mX8_least 23 (.iload 4) 2 := by unfold dc_at; decide +kernel
theorem dX8_least_25 : dc_at mX8_least 25 (.if_icmp .eq 46) 3 := by unfold dc_at; decide +kernel
theorem dX8_least_28 : dc_at mX8_least 28 (.aload_n 0) 1 := by unfold dc_at; decide +kernel
theorem dX8_least_29 : dc_at mX8_least 29 (.iload_n 1) 1 := by unfold dc_at; decide +kernel
theorem dX8_least_30 : dc_at mX8_least 30 (.iload_n 2) 1 := by unfold dc_at; decide +kernel
theorem dX8_least_31 : dc_at mX8_least 31 (.iload 6) 2 := by unfold dc_at; decide +kernel
theorem dX8_least_33 : dc_at mX8_least 33 (.invokevirtual 94) 3 := by unfold dc_at; decide +kernel
theorem dX8_least_36 : dc_at mX8_least 36 (.ifCond .eq 35) 3 := by unfold dc_at; decide +kernel
theorem dX8_least_39 : dc_at mX8_least 39 (.aload_n 0) 1 := by unfold dc_at; decide +kernel
theorem dX8_least_40 : dc_at mX8_least 40 (.iload_n 1) 1 := by unfold dc_at; decide +kernel
theorem dX8_least_41 : dc_at mX8_least 41 (.iload_n 2) 1 := by unfold dc_at; decide +kernel
theorem dX8_least_42 : dc_at mX8_least 42 (.iload 6) 2 := by unfold dc_at; decide +kernel
theorem dX8_least_44 : dc_at mX8_least 44 (.iload_n 3) 1 := by unfold dc_at; decide +kernel
theorem dX8_least_45 : dc_at mX8_least 45 (.invokevirtual 85) 3 := by unfold dc_at; decide +kernel
theorem dX8_least_48 : dc_at mX8_least 48 (.istore 7) 2 := by unfold dc_at; decide +kernel
theorem dX8_least_50 : dc_at mX8_least 50 (.iload 5) 2 := by unfold dc_at; decide +kernel
theorem dX8_least_52 : dc_at mX8_least 52 (.ifCond .lt 10) 3 := by unfold dc_at; decide +kernel
theorem dX8_least_55 : dc_at mX8_least 55 (.iload 7) 2 := by unfold dc_at; decide +kernel
theorem dX8_least_57 : dc_at mX8_least 57 (.iload 5) 2 := by unfold dc_at; decide +kernel
theorem dX8_least_59 : dc_at mX8_least 59 (.if_icmp .ge 8) 3 := by unfold dc_at; decide +kernel
theorem dX8_least_62 : dc_at mX8_least 62 (.iload 7) 2 := by unfold dc_at; decide +kernel
theorem dX8_least_64 : dc_at mX8_least 64 (.goto 5) 3 := by unfold dc_at; decide +kernel
theorem dX8_least_67 : dc_at mX8_least 67 (.iload 5) 2 := by unfold dc_at; decide +kernel
theorem dX8_least_69 : dc_at mX8_least 69 (.istore 5) 2 := by unfold dc_at; decide +kernel
theorem dX8_least_71 : dc_at mX8_least 71 (.iinc 6 1) 3 := by unfold dc_at; decide +kernel
theorem dX8_least_74 : dc_at mX8_least 74 (.goto (-68)) 3 := by unfold dc_at; decide +kernel
theorem dX8_least_77 : dc_at mX8_least 77 (.iload 5) 2 := by unfold dc_at; decide +kernel
theorem dX8_least_79 : dc_at mX8_least 79 (.ireturn) 1 := by unfold dc_at; decide +kernel
theorem dX8_boundOf_0 : dc_at mX8_boundOf 0 (.iload_n 1) 1 := by unfold dc_at; decide +kernel
theorem dX8_boundOf_1 : dc_at mX8_boundOf 1 (.iload_n 2) 1 := by unfold dc_at; decide +kernel
theorem dX8_boundOf_2 : dc_at mX8_boundOf 2 (.if_icmp .ne 7) 3 := by unfold dc_at; decide +kernel
theorem dX8_boundOf_5 : dc_at mX8_boundOf 5 (.iconst 0) 1 := by unfold dc_at; decide +kernel
theorem dX8_boundOf_6 : dc_at mX8_boundOf 6 (.goto 11) 3 := by unfold dc_at; decide +kernel
theorem dX8_boundOf_9 : dc_at mX8_boundOf 9 (.aload_n 0) 1 := by unfold dc_at; decide +kernel
theorem dX8_boundOf_10 : dc_at mX8_boundOf 10 (.iload_n 1) 1 := by unfold dc_at; decide +kernel
theorem dX8_boundOf_11 : dc_at mX8_boundOf 11 (.iload_n 2) 1 := by unfold dc_at; decide +kernel
theorem dX8_boundOf_12 : dc_at mX8_boundOf 12 (.iload_n 3) 1 := by unfold dc_at; decide +kernel
theorem dX8_boundOf_13 : dc_at mX8_boundOf 13 (.iconst (-1)) 1 := by unfold dc_at; decide +kernel
theorem dX8_boundOf_14 : dc_at mX8_boundOf 14 (.invokevirtual 97) 3 := by unfold dc_at; decide +kernel
theorem dX8_boundOf_17 : dc_at mX8_boundOf 17 (.ireturn) 1 := by unfold dc_at; decide +kernel
theorem dX8_weight_0 : dc_at mX8_weight 0 (.aload_n 0) 1 := by unfold dc_at; decide +kernel
theorem dX8_weight_1 : dc_at mX8_weight 1 (.iload_n 1) 1 := by unfold dc_at; decide +kernel
theorem dX8_weight_2 : dc_at mX8_weight 2 (.iload_n 2) 1 := by unfold dc_at; decide +kernel
theorem dX8_weight_3 : dc_at mX8_weight 3 (.iload_n 3) 1 := by unfold dc_at; decide +kernel
theorem dX8_weight_4 : dc_at mX8_weight 4 (.iconst 1) 1 := by unfold dc_at; decide +kernel
theorem dX8_weight_5 : dc_at mX8_weight 5 (.invokevirtual 85) 3 := by unfold dc_at; decide +kernel
theorem dX8_weight_8 : dc_at mX8_weight 8 (.istore 5) 2 := by unfold dc_at; decide +kernel
theorem dX8_weight_10 : dc_at mX8_weight 10 (.aload_n 0) 1 := by unfold dc_at; decide +kernel
theorem dX8_weight_11 : dc_at mX8_weight 11 (.iload_n 1) 1 := by unfold dc_at; decide +kernel
theorem dX8_weight_12 : dc_at mX8_weight 12 (.iload_n 2) 1 := by unfold dc_at; decide +kernel
theorem dX8_weight_13 : dc_at mX8_weight 13 (.iload_n 3) 1 := by unfold dc_at; decide +kernel
theorem dX8_weight_14 : dc_at mX8_weight 14 (.iconst 2) 1 := by unfold dc_at; decide +kernel
theorem dX8_weight_15 : dc_at mX8_weight 15 (.invokevirtual 85) 3 := by unfold dc_at; decide +kernel
theorem dX8_weight_18 : dc_at mX8_weight 18 (.istore 6) 2 := by unfold dc_at; decide +kernel
theorem dX8_weight_20 : dc_at mX8_weight 20 (.aload_n 0) 1 := by unfold dc_at; decide +kernel
theorem dX8_weight_21 : dc_at mX8_weight 21 (.getfield 23) 3 := by unfold dc_at; decide +kernel
theorem dX8_weight_24 : dc_at mX8_weight 24 (.iconst 2) 1 := by unfold dc_at; decide +kernel
theorem dX8_weight_25 : dc_at mX8_weight 25 (.iaload) 1 := by unfold dc_at; decide +kernel
theorem dX8_weight_26 : dc_at mX8_weight 26 (.iconst 1) 1 := by unfold dc_at; decide +kernel
theorem dX8_weight_27 : dc_at mX8_weight 27 (.if_icmp .ne 40) 3 := by unfold dc_at; decide +kernel
theorem dX8_weight_30 : dc_at mX8_weight 30 (.iload 4) 2 := by unfold dc_at; decide +kernel
theorem dX8_weight_32 : dc_at mX8_weight 32 (.ifCond .eq 35) 3 := by unfold dc_at; decide +kernel
theorem dX8_weight_35 : dc_at mX8_weight 35 (.aload_n 0) 1 := by unfold dc_at; decide +kernel
theorem dX8_weight_36 : dc_at mX8_weight 36 (.iload_n 1) 1 := by unfold dc_at; decide +kernel
theorem dX8_weight_37 : dc_at mX8_weight 37 (.iload_n 2) 1 := by unfold dc_at; decide +kernel
theorem dX8_weight_38 : dc_at mX8_weight 38 (.iconst 1) 1 := by unfold dc_at; decide +kernel
theorem dX8_weight_39 : dc_at mX8_weight 39 (.iload_n 3) 1 := by unfold dc_at; decide +kernel
theorem dX8_weight_40 : dc_at mX8_weight 40 (.invokevirtual 97) 3 := by unfold dc_at; decide +kernel
theorem dX8_weight_43 : dc_at mX8_weight 43 (.istore 7) 2 := by unfold dc_at; decide +kernel
theorem dX8_weight_45 : dc_at mX8_weight 45 (.iload 7) 2 := by unfold dc_at; decide +kernel
theorem dX8_weight_47 : dc_at mX8_weight 47 (.ifCond .lt 10) 3 := by unfold dc_at; decide +kernel
theorem dX8_weight_50 : dc_at mX8_weight 50 (.iload 6) 2 := by unfold dc_at; decide +kernel
theorem dX8_weight_52 : dc_at mX8_weight 52 (.iload 7) 2 := by unfold dc_at; decide +kernel
theorem dX8_weight_54 : dc_at mX8_weight 54 (.if_icmp .ge 7) 3 := by unfold dc_at; decide +kernel
theorem dX8_weight_57 : dc_at mX8_weight 57 (.iconst 0) 1 := by unfold dc_at; decide +kernel
theorem dX8_weight_58 : dc_at mX8_weight 58 (.goto 8) 3 := by unfold dc_at; decide +kernel
theorem dX8_weight_61 : dc_at mX8_weight 61 (.iload 6) 2 := by unfold dc_at; decide +kernel
theorem dX8_weight_63 : dc_at mX8_weight 63 (.iload 7) 2 := by unfold dc_at; decide +kernel
theorem dX8_weight_65 : dc_at mX8_weight 65 (.isub) 1 := by unfold dc_at; decide +kernel
theorem dX8_weight_66 : dc_at mX8_weight 66 (.ireturn) 1 := by unfold dc_at; decide +kernel
theorem dX8_weight_67 : dc_at mX8_weight 67 (.aload_n 0) 1 := by unfold dc_at; decide +kernel
theorem dX8_weight_68 : dc_at mX8_weight 68 (.getfield 23) 3 := by unfold dc_at; decide +kernel
theorem dX8_weight_71 : dc_at mX8_weight 71 (.iconst 2) 1 := by unfold dc_at; decide +kernel
theorem dX8_weight_72 : dc_at mX8_weight 72 (.iaload) 1 := by unfold dc_at; decide +kernel
theorem dX8_weight_73 : dc_at mX8_weight 73 (.ifCond .ne 7) 3 := by unfold dc_at; decide +kernel
theorem dX8_weight_76 : dc_at mX8_weight 76 (.iconst 1) 1 := by unfold dc_at; decide +kernel
theorem dX8_weight_77 : dc_at mX8_weight 77 (.goto 4) 3 := by unfold dc_at; decide +kernel
theorem dX8_weight_80 : dc_at mX8_weight 80 (.iconst 0) 1 := by unfold dc_at; decide +kernel
theorem dX8_weight_81 : dc_at mX8_weight 81 (.iload 4) 2 := by unfold dc_at; decide +kernel
theorem dX8_weight_83 : dc_at mX8_weight 83 (.if_icmp .eq 13) 3 := by unfold dc_at; decide +kernel
theorem dX8_weight_86 : dc_at mX8_weight 86 (.aload_n 0) 1 := by unfold dc_at; decide +kernel
theorem dX8_weight_87 : dc_at mX8_weight 87 (.getfield 23) 3 := by unfold dc_at; decide +kernel
theorem dX8_weight_90 : dc_at mX8_weight 90 (.iconst 2) 1 := by unfold dc_at; decide +kernel
theorem dX8_weight_91 : dc_at mX8_weight 91 (.iaload) 1 := by unfold dc_at; decide +kernel
theorem dX8_weight_92 : dc_at mX8_weight 92 (.iconst 1) 1 := by unfold dc_at; decide +kernel
theorem dX8_weight_93 : dc_at mX8_weight 93 (.if_icmp .ne 8) 3 := by unfold dc_at; decide +kernel
theorem dX8_weight_96 : dc_at mX8_weight 96 (.iload 6) 2 := by unfold dc_at; decide +kernel
theorem dX8_weight_98 : dc_at mX8_weight 98 (.goto 5) 3 := by unfold dc_at; decide +kernel
theorem dX8_weight_101 : dc_at mX8_weight 101 (.iload 5) 2 := by unfold dc_at; decide +kernel
theorem dX8_weight_103 : dc_at mX8_weight 103 (.ireturn) 1 := by unfold dc_at; decide +kernel
theorem dX8_choiceOf_0 : dc_at mX8_choiceOf 0 (.iconst (-1)) 1 := by unfold dc_at; decide +kernel
theorem dX8_choiceOf_1 : dc_at mX8_choiceOf 1 (.istore_n 3) 1 := by unfold dc_at; decide +kernel
theorem dX8_choiceOf_2 : dc_at mX8_choiceOf 2 (.iconst 0) 1 := by unfold dc_at; decide +kernel
theorem dX8_choiceOf_3 : dc_at mX8_choiceOf 3 (.istore 4) 2 := by unfold dc_at; decide +kernel
theorem dX8_choiceOf_5 : dc_at mX8_choiceOf 5 (.iload 4) 2 := by unfold dc_at; decide +kernel
theorem dX8_choiceOf_7 : dc_at mX8_choiceOf 7 (.aload_n 0) 1 := by unfold dc_at; decide +kernel
theorem dX8_choiceOf_8 : dc_at mX8_choiceOf 8 (.getfield 7) 3 := by unfold dc_at; decide +kernel
theorem dX8_choiceOf_11 : dc_at mX8_choiceOf 11 (.if_icmp .ge 101) 3 := by unfold dc_at; decide +kernel
theorem dX8_choiceOf_14 : dc_at mX8_choiceOf 14 (.iload_n 1) 1 := by unfold dc_at; decide +kernel
theorem dX8_choiceOf_15 : dc_at mX8_choiceOf 15 (.iload_n 2) 1 := by unfold dc_at; decide +kernel
theorem dX8_choiceOf_16 : dc_at mX8_choiceOf 16 (.if_icmp .eq 96) 3 := by unfold dc_at; decide +kernel
theorem dX8_choiceOf_19 : dc_at mX8_choiceOf 19 (.iload 4) 2 := by unfold dc_at; decide +kernel
theorem dX8_choiceOf_21 : dc_at mX8_choiceOf 21 (.iload_n 1) 1 := by unfold dc_at; decide +kernel
theorem dX8_choiceOf_22 : dc_at mX8_choiceOf 22 (.if_icmp .eq 84) 3 := by unfold dc_at; decide +kernel
theorem dX8_choiceOf_25 : dc_at mX8_choiceOf 25 (.aload_n 0) 1 := by unfold dc_at; decide +kernel
theorem dX8_choiceOf_26 : dc_at mX8_choiceOf 26 (.iload_n 1) 1 := by unfold dc_at; decide +kernel
theorem dX8_choiceOf_27 : dc_at mX8_choiceOf 27 (.iload_n 2) 1 := by unfold dc_at; decide +kernel
theorem dX8_choiceOf_28 : dc_at mX8_choiceOf 28 (.iload 4) 2 := by unfold dc_at; decide +kernel
theorem dX8_choiceOf_30 : dc_at mX8_choiceOf 30 (.invokevirtual 94) 3 := by unfold dc_at; decide +kernel
theorem dX8_choiceOf_33 : dc_at mX8_choiceOf 33 (.ifCond .eq 73) 3 := by unfold dc_at; decide +kernel
theorem dX8_choiceOf_36 : dc_at mX8_choiceOf 36 (.iload_n 3) 1 := by unfold dc_at; decide +kernel
theorem dX8_choiceOf_37 : dc_at mX8_choiceOf 37 (.ifCond .ge 7) 3 := by unfold dc_at; decide +kernel
theorem dX8_choiceOf_40 : dc_at mX8_choiceOf 40 (.iconst (-1)) 1 := by unfold dc_at; decide +kernel
theorem dX8_choiceOf_41 : dc_at mX8_choiceOf 41 (.goto 21) 3 := by unfold dc_at; decide +kernel
theorem dX8_choiceOf_44 : dc_at mX8_choiceOf 44 (.aload_n 0) 1 := by unfold dc_at; decide +kernel
theorem dX8_choiceOf_45 : dc_at mX8_choiceOf 45 (.iload_n 1) 1 := by unfold dc_at; decide +kernel
theorem dX8_choiceOf_46 : dc_at mX8_choiceOf 46 (.iload_n 2) 1 := by unfold dc_at; decide +kernel
theorem dX8_choiceOf_47 : dc_at mX8_choiceOf 47 (.iload 4) 2 := by unfold dc_at; decide +kernel
theorem dX8_choiceOf_49 : dc_at mX8_choiceOf 49 (.iconst 1) 1 := by unfold dc_at; decide +kernel
theorem dX8_choiceOf_50 : dc_at mX8_choiceOf 50 (.invokevirtual 100) 3 := by unfold dc_at; decide +kernel
theorem dX8_choiceOf_53 : dc_at mX8_choiceOf 53 (.aload_n 0) 1 := by unfold dc_at; decide +kernel
theorem dX8_choiceOf_54 : dc_at mX8_choiceOf 54 (.iload_n 1) 1 := by unfold dc_at; decide +kernel
theorem dX8_choiceOf_55 : dc_at mX8_choiceOf 55 (.iload_n 2) 1 := by unfold dc_at; decide +kernel
theorem dX8_choiceOf_56 : dc_at mX8_choiceOf 56 (.iload_n 3) 1 := by unfold dc_at; decide +kernel
theorem dX8_choiceOf_57 : dc_at mX8_choiceOf 57 (.iconst 1) 1 := by unfold dc_at; decide +kernel
theorem dX8_choiceOf_58 : dc_at mX8_choiceOf 58 (.invokevirtual 100) 3 := by unfold dc_at; decide +kernel
theorem dX8_choiceOf_61 : dc_at mX8_choiceOf 61 (.isub) 1 := by unfold dc_at; decide +kernel
theorem dX8_choiceOf_62 : dc_at mX8_choiceOf 62 (.istore 5) 2 := by unfold dc_at; decide +kernel
theorem dX8_choiceOf_64 : dc_at mX8_choiceOf 64 (.iload 5) 2 := by unfold dc_at; decide +kernel
theorem dX8_choiceOf_66 : dc_at mX8_choiceOf 66 (.ifCond .ne 24) 3 := by unfold dc_at; decide +kernel
theorem dX8_choiceOf_69 : dc_at mX8_choiceOf 69 (.aload_n 0) 1 := by unfold dc_at; decide +kernel
theorem dX8_choiceOf_70 : dc_at mX8_choiceOf 70 (.iload_n 1) 1 := by unfold dc_at; decide +kernel
theorem dX8_choiceOf_71 : dc_at mX8_choiceOf 71 (.iload_n 2) 1 := by unfold dc_at; decide +kernel
theorem dX8_choiceOf_72 : dc_at mX8_choiceOf 72 (.iload 4) 2 := by unfold dc_at; decide +kernel
theorem dX8_choiceOf_74 : dc_at mX8_choiceOf 74 (.iconst 0) 1 := by unfold dc_at; decide +kernel
theorem dX8_choiceOf_75 : dc_at mX8_choiceOf 75 (.invokevirtual 100) 3 := by unfold dc_at; decide +kernel
theorem dX8_choiceOf_78 : dc_at mX8_choiceOf 78 (.aload_n 0) 1 := by unfold dc_at; decide +kernel
theorem dX8_choiceOf_79 : dc_at mX8_choiceOf 79 (.iload_n 1) 1 := by unfold dc_at; decide +kernel
theorem dX8_choiceOf_80 : dc_at mX8_choiceOf 80 (.iload_n 2) 1 := by unfold dc_at; decide +kernel
theorem dX8_choiceOf_81 : dc_at mX8_choiceOf 81 (.iload_n 3) 1 := by unfold dc_at; decide +kernel
theorem dX8_choiceOf_82 : dc_at mX8_choiceOf 82 (.iconst 0) 1 := by unfold dc_at; decide +kernel
theorem dX8_choiceOf_83 : dc_at mX8_choiceOf 83 (.invokevirtual 100) 3 := by unfold dc_at; decide +kernel
theorem dX8_choiceOf_86 : dc_at mX8_choiceOf 86 (.isub) 1 := by unfold dc_at; decide +kernel
theorem dX8_choiceOf_87 : dc_at mX8_choiceOf 87 (.goto 5) 3 := by unfold dc_at; decide +kernel
theorem dX8_choiceOf_90 : dc_at mX8_choiceOf 90 (.iload 5) 2 := by unfold dc_at; decide +kernel
theorem dX8_choiceOf_92 : dc_at mX8_choiceOf 92 (.istore 5) 2 := by unfold dc_at; decide +kernel
theorem dX8_choiceOf_94 : dc_at mX8_choiceOf 94 (.iload 5) 2 := by unfold dc_at; decide +kernel
theorem dX8_choiceOf_96 : dc_at mX8_choiceOf 96 (.ifCond .ge 8) 3 := by unfold dc_at; decide +kernel
theorem dX8_choiceOf_99 : dc_at mX8_choiceOf 99 (.iload 4) 2 := by unfold dc_at; decide +kernel
theorem dX8_choiceOf_101 : dc_at mX8_choiceOf 101 (.goto 4) 3 := by unfold dc_at; decide +kernel
theorem dX8_choiceOf_104 : dc_at mX8_choiceOf 104 (.iload_n 3) 1 := by unfold dc_at; decide +kernel
theorem dX8_choiceOf_105 : dc_at mX8_choiceOf 105 (.istore_n 3) 1 := by unfold dc_at; decide +kernel
theorem dX8_choiceOf_106 : dc_at mX8_choiceOf 106 (.iinc 4 1) 3 := by unfold dc_at; decide +kernel
theorem dX8_choiceOf_109 : dc_at mX8_choiceOf 109 (.goto (-104)) 3 := by unfold dc_at; decide +kernel
theorem dX8_choiceOf_112 : dc_at mX8_choiceOf 112 (.iload_n 3) 1 := by unfold dc_at; decide +kernel
theorem dX8_choiceOf_113 : dc_at mX8_choiceOf 113 (.ireturn) 1 := by unfold dc_at; decide +kernel
theorem dX8_isDominated_0 : dc_at mX8_isDominated 0 (.aload_n 0) 1 := by unfold dc_at; decide +kernel
theorem dX8_isDominated_1 : dc_at mX8_isDominated 1 (.iload_n 1) 1 := by unfold dc_at; decide +kernel
theorem dX8_isDominated_2 : dc_at mX8_isDominated 2 (.iload_n 2) 1 := by unfold dc_at; decide +kernel
theorem dX8_isDominated_3 : dc_at mX8_isDominated 3 (.iload_n 3) 1 := by unfold dc_at; decide +kernel
theorem dX8_isDominated_4 : dc_at mX8_isDominated 4 (.invokevirtual 94) 3 := by unfold dc_at; decide +kernel
theorem dX8_isDominated_7 : dc_at mX8_isDominated 7 (.ifCond .ne 5) 3 := by unfold dc_at; decide +kernel
theorem dX8_isDominated_10 : dc_at mX8_isDominated 10 (.iconst 0) 1 := by unfold dc_at; decide +kernel
theorem dX8_isDominated_11 : dc_at mX8_isDominated 11 (.ireturn) 1 := by unfold dc_at; decide +kernel
theorem dX8_isDominated_12 : dc_at mX8_isDominated 12 (.iconst 0) 1 := by unfold dc_at; decide +kernel
theorem dX8_isDominated_13 : dc_at mX8_isDominated 13 (.istore 4) 2 := by unfold dc_at; decide +kernel
theorem dX8_isDominated_15 : dc_at mX8_isDominated 15 (.iconst 0) 1 := by unfold dc_at; decide +kernel
theorem dX8_isDominated_16 : dc_at mX8_isDominated 16 (.istore 5) 2 := by unfold dc_at; decide +kernel
theorem dX8_isDominated_18 : dc_at mX8_isDominated 18 (.iload 5) 2 := by unfold dc_at; decide +kernel
theorem dX8_isDominated_20 : dc_at mX8_isDominated 20 (.aload_n 0) 1 := by unfold dc_at; decide +kernel
theorem dX8_isDominated_21 : dc_at mX8_isDominated 21 (.getfield 7) 3 := by unfold dc_at; decide +kernel
theorem dX8_isDominated_24 : dc_at mX8_isDominated 24 (.if_icmp .ge 102) 3 := by unfold dc_at; decide +kernel
theorem dX8_isDominated_27 : dc_at mX8_isDominated 27 (.iload 5) 2 := by unfold dc_at; decide +kernel
theorem dX8_isDominated_29 : dc_at mX8_isDominated 29 (.iload_n 3) 1 := by unfold dc_at; decide +kernel
theorem dX8_isDominated_30 : dc_at mX8_isDominated 30 (.if_icmp .eq 90) 3 := by unfold dc_at; decide +kernel
theorem dX8_isDominated_33 : dc_at mX8_isDominated 33 (.iload 5) 2 := by unfold dc_at; decide +kernel
theorem dX8_isDominated_35 : dc_at mX8_isDominated 35 (.iload_n 1) 1 := by unfold dc_at; decide +kernel
theorem dX8_isDominated_36 : dc_at mX8_isDominated 36 (.if_icmp .eq 84) 3 := by unfold dc_at; decide +kernel
theorem dX8_isDominated_39 : dc_at mX8_isDominated 39 (.aload_n 0) 1 := by unfold dc_at; decide +kernel
theorem dX8_isDominated_40 : dc_at mX8_isDominated 40 (.iload_n 1) 1 := by unfold dc_at; decide +kernel
theorem dX8_isDominated_41 : dc_at mX8_isDominated 41 (.iload_n 2) 1 := by unfold dc_at; decide +kernel
theorem dX8_isDominated_42 : dc_at mX8_isDominated 42 (.iload 5) 2 := by unfold dc_at; decide +kernel
theorem dX8_isDominated_44 : dc_at mX8_isDominated 44 (.invokevirtual 94) 3 := by unfold dc_at; decide +kernel
theorem dX8_isDominated_47 : dc_at mX8_isDominated 47 (.ifCond .eq 73) 3 := by unfold dc_at; decide +kernel
theorem dX8_isDominated_50 : dc_at mX8_isDominated 50 (.aload_n 0) 1 := by unfold dc_at; decide +kernel
theorem dX8_isDominated_51 : dc_at mX8_isDominated 51 (.iload_n 1) 1 := by unfold dc_at; decide +kernel
theorem dX8_isDominated_52 : dc_at mX8_isDominated 52 (.iload_n 2) 1 := by unfold dc_at; decide +kernel
theorem dX8_isDominated_53 : dc_at mX8_isDominated 53 (.iload 5) 2 := by unfold dc_at; decide +kernel
theorem dX8_isDominated_55 : dc_at mX8_isDominated 55 (.iconst 2) 1 := by unfold dc_at; decide +kernel
theorem dX8_isDominated_56 : dc_at mX8_isDominated 56 (.invokevirtual 85) 3 := by unfold dc_at; decide +kernel
theorem dX8_isDominated_59 : dc_at mX8_isDominated 59 (.aload_n 0) 1 := by unfold dc_at; decide +kernel
theorem dX8_isDominated_60 : dc_at mX8_isDominated 60 (.iload_n 1) 1 := by unfold dc_at; decide +kernel
theorem dX8_isDominated_61 : dc_at mX8_isDominated 61 (.iload_n 2) 1 := by unfold dc_at; decide +kernel
theorem dX8_isDominated_62 : dc_at mX8_isDominated 62 (.iload_n 3) 1 := by unfold dc_at; decide +kernel
theorem dX8_isDominated_63 : dc_at mX8_isDominated 63 (.iconst 1) 1 := by unfold dc_at; decide +kernel
theorem dX8_isDominated_64 : dc_at mX8_isDominated 64 (.invokevirtual 85) 3 := by unfold dc_at; decide +kernel
theorem dX8_isDominated_67 : dc_at mX8_isDominated 67 (.if_icmp .gt 53) 3 := by unfold dc_at; decide +kernel
theorem dX8_isDominated_70 : dc_at mX8_isDominated 70 (.aload_n 0) 1 := by unfold dc_at; decide +kernel
theorem dX8_isDominated_71 : dc_at mX8_isDominated 71 (.iload_n 1) 1 := by unfold dc_at; decide +kernel
theorem dX8_isDominated_72 : dc_at mX8_isDominated 72 (.iload_n 2) 1 := by unfold dc_at; decide +kernel
theorem dX8_isDominated_73 : dc_at mX8_isDominated 73 (.iload_n 3) 1 := by unfold dc_at; decide +kernel
theorem dX8_isDominated_74 : dc_at mX8_isDominated 74 (.iconst 2) 1 := by unfold dc_at; decide +kernel
theorem dX8_isDominated_75 : dc_at mX8_isDominated 75 (.invokevirtual 85) 3 := by unfold dc_at; decide +kernel
theorem dX8_isDominated_78 : dc_at mX8_isDominated 78 (.aload_n 0) 1 := by unfold dc_at; decide +kernel
theorem dX8_isDominated_79 : dc_at mX8_isDominated 79 (.iload_n 1) 1 := by unfold dc_at; decide +kernel
theorem dX8_isDominated_80 : dc_at mX8_isDominated 80 (.iload_n 2) 1 := by unfold dc_at; decide +kernel
theorem dX8_isDominated_81 : dc_at mX8_isDominated 81 (.iload 5) 2 := by unfold dc_at; decide +kernel
theorem dX8_isDominated_83 : dc_at mX8_isDominated 83 (.iconst 1) 1 := by unfold dc_at; decide +kernel
theorem dX8_isDominated_84 : dc_at mX8_isDominated 84 (.invokevirtual 85) 3 := by unfold dc_at; decide +kernel
theorem dX8_isDominated_87 : dc_at mX8_isDominated 87 (.if_icmp .gt 7) 3 := by unfold dc_at; decide +kernel
theorem dX8_isDominated_90 : dc_at mX8_isDominated 90 (.iconst 1) 1 := by unfold dc_at; decide +kernel
theorem dX8_isDominated_91 : dc_at mX8_isDominated 91 (.goto 4) 3 := by unfold dc_at; decide +kernel
theorem dX8_isDominated_94 : dc_at mX8_isDominated 94 (.iconst 0) 1 := by unfold dc_at; decide +kernel
theorem dX8_isDominated_95 : dc_at mX8_isDominated 95 (.istore 6) 2 := by unfold dc_at; decide +kernel
theorem dX8_isDominated_97 : dc_at mX8_isDominated 97 (.iload 4) 2 := by unfold dc_at; decide +kernel
theorem dX8_isDominated_99 : dc_at mX8_isDominated 99 (.ifCond .ne 14) 3 := by unfold dc_at; decide +kernel
theorem dX8_isDominated_102 : dc_at mX8_isDominated 102 (.iload 6) 2 := by unfold dc_at; decide +kernel
theorem dX8_isDominated_104 : dc_at mX8_isDominated 104 (.ifCond .eq 9) 3 := by unfold dc_at; decide +kernel
theorem dX8_isDominated_107 : dc_at mX8_isDominated 107 (.iload_n 3) 1 := by unfold dc_at; decide +kernel
theorem dX8_isDominated_108 : dc_at mX8_isDominated 108 (.iload 5) 2 := by unfold dc_at; decide +kernel
theorem dX8_isDominated_110 : dc_at mX8_isDominated 110 (.if_icmp .le 7) 3 := by unfold dc_at; decide +kernel
theorem dX8_isDominated_113 : dc_at mX8_isDominated 113 (.iconst 1) 1 := by unfold dc_at; decide +kernel
theorem dX8_isDominated_114 : dc_at mX8_isDominated 114 (.goto 4) 3 := by unfold dc_at; decide +kernel
theorem dX8_isDominated_117 : dc_at mX8_isDominated 117 (.iconst 0) 1 := by unfold dc_at; decide +kernel
theorem dX8_isDominated_118 : dc_at mX8_isDominated 118 (.istore 4) 2 := by unfold dc_at; decide +kernel
theorem dX8_isDominated_120 : dc_at mX8_isDominated 120 (.iinc 5 1) 3 := by unfold dc_at; decide +kernel
theorem dX8_isDominated_123 : dc_at mX8_isDominated 123 (.goto (-105)) 3 := by unfold dc_at; decide +kernel
theorem dX8_isDominated_126 : dc_at mX8_isDominated 126 (.iload 4) 2 := by unfold dc_at; decide +kernel
theorem dX8_isDominated_128 : dc_at mX8_isDominated 128 (.ireturn) 1 := by unfold dc_at; decide +kernel
theorem dX8_looks_0 : dc_at mX8_looks 0 (.iconst 0) 1 := by unfold dc_at; decide +kernel
theorem dX8_looks_1 : dc_at mX8_looks 1 (.istore_n 1) 1 := by unfold dc_at; decide +kernel
theorem dX8_looks_2 : dc_at mX8_looks 2 (.iload_n 1) 1 := by unfold dc_at; decide +kernel
theorem dX8_looks_3 : dc_at mX8_looks 3 (.bipush 64) 2 := by unfold dc_at; decide +kernel
theorem dX8_looks_5 : dc_at mX8_looks 5 (.if_icmp .ge 107) 3 := by unfold dc_at; decide +kernel
theorem dX8_looks_8 : dc_at mX8_looks 8 (.iload_n 1) 1 := by unfold dc_at; decide +kernel
theorem dX8_looks_9 : dc_at mX8_looks 9 (.bipush 8) 2 := by unfold dc_at; decide +kernel
theorem dX8_looks_11 : dc_at mX8_looks 11 (.idiv) 1 := by unfold dc_at; decide +kernel
theorem dX8_looks_12 : dc_at mX8_looks 12 (.istore_n 2) 1 := by unfold dc_at; decide +kernel
theorem dX8_looks_13 : dc_at mX8_looks 13 (.iload_n 1) 1 := by unfold dc_at; decide +kernel
theorem dX8_looks_14 : dc_at mX8_looks 14 (.bipush 8) 2 := by unfold dc_at; decide +kernel
theorem dX8_looks_16 : dc_at mX8_looks 16 (.irem) 1 := by unfold dc_at; decide +kernel
theorem dX8_looks_17 : dc_at mX8_looks 17 (.istore_n 3) 1 := by unfold dc_at; decide +kernel
theorem dX8_looks_18 : dc_at mX8_looks 18 (.iload_n 2) 1 := by unfold dc_at; decide +kernel
theorem dX8_looks_19 : dc_at mX8_looks 19 (.aload_n 0) 1 := by unfold dc_at; decide +kernel
theorem dX8_looks_20 : dc_at mX8_looks 20 (.getfield 7) 3 := by unfold dc_at; decide +kernel
theorem dX8_looks_23 : dc_at mX8_looks 23 (.if_icmp .ge 15) 3 := by unfold dc_at; decide +kernel
theorem dX8_looks_26 : dc_at mX8_looks 26 (.iload_n 3) 1 := by unfold dc_at; decide +kernel
theorem dX8_looks_27 : dc_at mX8_looks 27 (.aload_n 0) 1 := by unfold dc_at; decide +kernel
theorem dX8_looks_28 : dc_at mX8_looks 28 (.getfield 7) 3 := by unfold dc_at; decide +kernel
theorem dX8_looks_31 : dc_at mX8_looks 31 (.if_icmp .ge 7) 3 := by unfold dc_at; decide +kernel
theorem dX8_looks_34 : dc_at mX8_looks 34 (.iconst 1) 1 := by unfold dc_at; decide +kernel
theorem dX8_looks_35 : dc_at mX8_looks 35 (.goto 4) 3 := by unfold dc_at; decide +kernel
theorem dX8_looks_38 : dc_at mX8_looks 38 (.iconst 0) 1 := by unfold dc_at; decide +kernel
theorem dX8_looks_39 : dc_at mX8_looks 39 (.istore 4) 2 := by unfold dc_at; decide +kernel
theorem dX8_looks_41 : dc_at mX8_looks 41 (.aload_n 0) 1 := by unfold dc_at; decide +kernel
theorem dX8_looks_42 : dc_at mX8_looks 42 (.getfield 32) 3 := by unfold dc_at; decide +kernel
theorem dX8_looks_45 : dc_at mX8_looks 45 (.iload_n 1) 1 := by unfold dc_at; decide +kernel
theorem dX8_looks_46 : dc_at mX8_looks 46 (.iload 4) 2 := by unfold dc_at; decide +kernel
theorem dX8_looks_48 : dc_at mX8_looks 48 (.ifCond .eq 13) 3 := by unfold dc_at; decide +kernel
theorem dX8_looks_51 : dc_at mX8_looks 51 (.aload_n 0) 1 := by unfold dc_at; decide +kernel
theorem dX8_looks_52 : dc_at mX8_looks 52 (.iload_n 2) 1 := by unfold dc_at; decide +kernel
theorem dX8_looks_53 : dc_at mX8_looks 53 (.iload_n 3) 1 := by unfold dc_at; decide +kernel
theorem dX8_looks_54 : dc_at mX8_looks 54 (.iconst 1) 1 := by unfold dc_at; decide +kernel
theorem dX8_looks_55 : dc_at mX8_looks 55 (.invokevirtual 104) 3 := by unfold dc_at; decide +kernel
theorem dX8_looks_58 : dc_at mX8_looks 58 (.goto 4) 3 := by unfold dc_at; decide +kernel
theorem dX8_looks_61 : dc_at mX8_looks 61 (.iconst (-1)) 1 := by unfold dc_at; decide +kernel
theorem dX8_looks_62 : dc_at mX8_looks 62 (.iastore) 1 := by unfold dc_at; decide +kernel
theorem dX8_looks_63 : dc_at mX8_looks 63 (.aload_n 0) 1 := by unfold dc_at; decide +kernel
theorem dX8_looks_64 : dc_at mX8_looks 64 (.getfield 35) 3 := by unfold dc_at; decide +kernel
theorem dX8_looks_67 : dc_at mX8_looks 67 (.iload_n 1) 1 := by unfold dc_at; decide +kernel
theorem dX8_looks_68 : dc_at mX8_looks 68 (.iload 4) 2 := by unfold dc_at; decide +kernel
theorem dX8_looks_70 : dc_at mX8_looks 70 (.ifCond .eq 13) 3 := by unfold dc_at; decide +kernel
theorem dX8_looks_73 : dc_at mX8_looks 73 (.aload_n 0) 1 := by unfold dc_at; decide +kernel
theorem dX8_looks_74 : dc_at mX8_looks 74 (.iload_n 2) 1 := by unfold dc_at; decide +kernel
theorem dX8_looks_75 : dc_at mX8_looks 75 (.iload_n 3) 1 := by unfold dc_at; decide +kernel
theorem dX8_looks_76 : dc_at mX8_looks 76 (.iconst 2) 1 := by unfold dc_at; decide +kernel
theorem dX8_looks_77 : dc_at mX8_looks 77 (.invokevirtual 104) 3 := by unfold dc_at; decide +kernel
theorem dX8_looks_80 : dc_at mX8_looks 80 (.goto 4) 3 := by unfold dc_at; decide +kernel
theorem dX8_looks_83 : dc_at mX8_looks 83 (.iconst (-1)) 1 := by unfold dc_at; decide +kernel
theorem dX8_looks_84 : dc_at mX8_looks 84 (.iastore) 1 := by unfold dc_at; decide +kernel
theorem dX8_looks_85 : dc_at mX8_looks 85 (.aload_n 0) 1 := by unfold dc_at; decide +kernel
theorem dX8_looks_86 : dc_at mX8_looks 86 (.getfield 38) 3 := by unfold dc_at; decide +kernel
theorem dX8_looks_89 : dc_at mX8_looks 89 (.iload_n 1) 1 := by unfold dc_at; decide +kernel
theorem dX8_looks_90 : dc_at mX8_looks 90 (.iload 4) 2 := by unfold dc_at; decide +kernel
theorem dX8_looks_92 : dc_at mX8_looks 92 (.ifCond .eq 12) 3 := by unfold dc_at; decide +kernel
theorem dX8_looks_95 : dc_at mX8_looks 95 (.aload_n 0) 1 := by unfold dc_at; decide +kernel
theorem dX8_looks_96 : dc_at mX8_looks 96 (.iload_n 2) 1 := by unfold dc_at; decide +kernel
theorem dX8_looks_97 : dc_at mX8_looks 97 (.iload_n 3) 1 := by unfold dc_at; decide +kernel
theorem dX8_looks_98 : dc_at mX8_looks 98 (.invokevirtual 107) 3 := by unfold dc_at; decide +kernel
theorem dX8_looks_101 : dc_at mX8_looks 101 (.goto 4) 3 := by unfold dc_at; decide +kernel
theorem dX8_looks_104 : dc_at mX8_looks 104 (.iconst (-1)) 1 := by unfold dc_at; decide +kernel
theorem dX8_looks_105 : dc_at mX8_looks 105 (.iastore) 1 := by unfold dc_at; decide +kernel
theorem dX8_looks_106 : dc_at mX8_looks 106 (.iinc 1 1) 3 := by unfold dc_at; decide +kernel
theorem dX8_looks_109 : dc_at mX8_looks 109 (.goto (-107)) 3 := by unfold dc_at; decide +kernel
theorem dX8_looks_112 : dc_at mX8_looks 112 (.return_) 1 := by unfold dc_at; decide +kernel
theorem dX8_sentAt_0 : dc_at mX8_sentAt 0 (.sipush 3328) 3 := by unfold dc_at; decide +kernel
theorem dX8_sentAt_3 : dc_at mX8_sentAt 3 (.bipush 17) 2 := by unfold dc_at; decide +kernel
theorem dX8_sentAt_5 : dc_at mX8_sentAt 5 (.iload_n 0) 1 := by unfold dc_at; decide +kernel
theorem dX8_sentAt_6 : dc_at mX8_sentAt 6 (.imul) 1 := by unfold dc_at; decide +kernel
theorem dX8_sentAt_7 : dc_at mX8_sentAt 7 (.iadd) 1 := by unfold dc_at; decide +kernel
theorem dX8_sentAt_8 : dc_at mX8_sentAt 8 (.iload_n 1) 1 := by unfold dc_at; decide +kernel
theorem dX8_sentAt_9 : dc_at mX8_sentAt 9 (.iadd) 1 := by unfold dc_at; decide +kernel
theorem dX8_sentAt_10 : dc_at mX8_sentAt 10 (.ireturn) 1 := by unfold dc_at; decide +kernel
theorem dX8_isNew_0 : dc_at mX8_isNew 0 (.aload_n 0) 1 := by unfold dc_at; decide +kernel
theorem dX8_isNew_1 : dc_at mX8_isNew 1 (.getfield 13) 3 := by unfold dc_at; decide +kernel
theorem dX8_isNew_4 : dc_at mX8_isNew 4 (.iload_n 1) 1 := by unfold dc_at; decide +kernel
theorem dX8_isNew_5 : dc_at mX8_isNew 5 (.iconst 0) 1 := by unfold dc_at; decide +kernel
theorem dX8_isNew_6 : dc_at mX8_isNew 6 (.invokestatic 111) 3 := by unfold dc_at; decide +kernel
theorem dX8_isNew_9 : dc_at mX8_isNew 9 (.iaload) 1 := by unfold dc_at; decide +kernel
theorem dX8_isNew_10 : dc_at mX8_isNew 10 (.ifCond .ne 7) 3 := by unfold dc_at; decide +kernel
theorem dX8_isNew_13 : dc_at mX8_isNew 13 (.iconst 1) 1 := by unfold dc_at; decide +kernel
theorem dX8_isNew_14 : dc_at mX8_isNew 14 (.goto 4) 3 := by unfold dc_at; decide +kernel
theorem dX8_isNew_17 : dc_at mX8_isNew 17 (.iconst 0) 1 := by unfold dc_at; decide +kernel
theorem dX8_isNew_18 : dc_at mX8_isNew 18 (.istore_n 2) 1 := by unfold dc_at; decide +kernel
theorem dX8_isNew_19 : dc_at mX8_isNew 19 (.iconst 0) 1 := by unfold dc_at; decide +kernel
theorem dX8_isNew_20 : dc_at mX8_isNew 20 (.istore_n 3) 1 := by unfold dc_at; decide +kernel
theorem dX8_isNew_21 : dc_at mX8_isNew 21 (.iload_n 3) 1 := by unfold dc_at; decide +kernel
theorem dX8_isNew_22 : dc_at mX8_isNew 22 (.aload_n 0) 1 := by unfold dc_at; decide +kernel
theorem dX8_isNew_23 : dc_at mX8_isNew 23 (.getfield 7) 3 := by unfold dc_at; decide +kernel
theorem dX8_isNew_26 : dc_at mX8_isNew 26 (.if_icmp .ge 72) 3 := by unfold dc_at; decide +kernel
theorem dX8_isNew_29 : dc_at mX8_isNew 29 (.iload_n 2) 1 := by unfold dc_at; decide +kernel
theorem dX8_isNew_30 : dc_at mX8_isNew 30 (.ifCond .ne 56) 3 := by unfold dc_at; decide +kernel
theorem dX8_isNew_33 : dc_at mX8_isNew 33 (.aload_n 0) 1 := by unfold dc_at; decide +kernel
theorem dX8_isNew_34 : dc_at mX8_isNew 34 (.getfield 13) 3 := by unfold dc_at; decide +kernel
theorem dX8_isNew_37 : dc_at mX8_isNew 37 (.iload_n 1) 1 := by unfold dc_at; decide +kernel
theorem dX8_isNew_38 : dc_at mX8_isNew 38 (.iconst 1) 1 := by unfold dc_at; decide +kernel
theorem dX8_isNew_39 : dc_at mX8_isNew 39 (.iload_n 3) 1 := by unfold dc_at; decide +kernel
theorem dX8_isNew_40 : dc_at mX8_isNew 40 (.iadd) 1 := by unfold dc_at; decide +kernel
theorem dX8_isNew_41 : dc_at mX8_isNew 41 (.invokestatic 111) 3 := by unfold dc_at; decide +kernel
theorem dX8_isNew_44 : dc_at mX8_isNew 44 (.iaload) 1 := by unfold dc_at; decide +kernel
theorem dX8_isNew_45 : dc_at mX8_isNew 45 (.aload_n 0) 1 := by unfold dc_at; decide +kernel
theorem dX8_isNew_46 : dc_at mX8_isNew 46 (.getfield 32) 3 := by unfold dc_at; decide +kernel
theorem dX8_isNew_49 : dc_at mX8_isNew 49 (.bipush 8) 2 := by unfold dc_at; decide +kernel
theorem dX8_isNew_51 : dc_at mX8_isNew 51 (.iload_n 1) 1 := by unfold dc_at; decide +kernel
theorem dX8_isNew_52 : dc_at mX8_isNew 52 (.imul) 1 := by unfold dc_at; decide +kernel
theorem dX8_isNew_53 : dc_at mX8_isNew 53 (.iload_n 3) 1 := by unfold dc_at; decide +kernel
theorem dX8_isNew_54 : dc_at mX8_isNew 54 (.iadd) 1 := by unfold dc_at; decide +kernel
theorem dX8_isNew_55 : dc_at mX8_isNew 55 (.iaload) 1 := by unfold dc_at; decide +kernel
theorem dX8_isNew_56 : dc_at mX8_isNew 56 (.if_icmp .ne 30) 3 := by unfold dc_at; decide +kernel
theorem dX8_isNew_59 : dc_at mX8_isNew 59 (.aload_n 0) 1 := by unfold dc_at; decide +kernel
theorem dX8_isNew_60 : dc_at mX8_isNew 60 (.getfield 13) 3 := by unfold dc_at; decide +kernel
theorem dX8_isNew_63 : dc_at mX8_isNew 63 (.iload_n 1) 1 := by unfold dc_at; decide +kernel
theorem dX8_isNew_64 : dc_at mX8_isNew 64 (.bipush 9) 2 := by unfold dc_at; decide +kernel
theorem dX8_isNew_66 : dc_at mX8_isNew 66 (.iload_n 3) 1 := by unfold dc_at; decide +kernel
theorem dX8_isNew_67 : dc_at mX8_isNew 67 (.iadd) 1 := by unfold dc_at; decide +kernel
theorem dX8_isNew_68 : dc_at mX8_isNew 68 (.invokestatic 111) 3 := by unfold dc_at; decide +kernel
theorem dX8_isNew_71 : dc_at mX8_isNew 71 (.iaload) 1 := by unfold dc_at; decide +kernel
theorem dX8_isNew_72 : dc_at mX8_isNew 72 (.aload_n 0) 1 := by unfold dc_at; decide +kernel
theorem dX8_isNew_73 : dc_at mX8_isNew 73 (.getfield 35) 3 := by unfold dc_at; decide +kernel
theorem dX8_isNew_76 : dc_at mX8_isNew 76 (.bipush 8) 2 := by unfold dc_at; decide +kernel
theorem dX8_isNew_78 : dc_at mX8_isNew 78 (.iload_n 1) 1 := by unfold dc_at; decide +kernel
theorem dX8_isNew_79 : dc_at mX8_isNew 79 (.imul) 1 := by unfold dc_at; decide +kernel
theorem dX8_isNew_80 : dc_at mX8_isNew 80 (.iload_n 3) 1 := by unfold dc_at; decide +kernel
theorem dX8_isNew_81 : dc_at mX8_isNew 81 (.iadd) 1 := by unfold dc_at; decide +kernel
theorem dX8_isNew_82 : dc_at mX8_isNew 82 (.iaload) 1 := by unfold dc_at; decide +kernel
theorem dX8_isNew_83 : dc_at mX8_isNew 83 (.if_icmp .eq 7) 3 := by unfold dc_at; decide +kernel
theorem dX8_isNew_86 : dc_at mX8_isNew 86 (.iconst 1) 1 := by unfold dc_at; decide +kernel
theorem dX8_isNew_87 : dc_at mX8_isNew 87 (.goto 4) 3 := by unfold dc_at; decide +kernel
theorem dX8_isNew_90 : dc_at mX8_isNew 90 (.iconst 0) 1 := by unfold dc_at; decide +kernel
theorem dX8_isNew_91 : dc_at mX8_isNew 91 (.istore_n 2) 1 := by unfold dc_at; decide +kernel
theorem dX8_isNew_92 : dc_at mX8_isNew 92 (.iinc 3 1) 3 := by unfold dc_at; decide +kernel
theorem dX8_isNew_95 : dc_at mX8_isNew 95 (.goto (-74)) 3 := by unfold dc_at; decide +kernel
theorem dX8_isNew_98 : dc_at mX8_isNew 98 (.iload_n 2) 1 := by unfold dc_at; decide +kernel
theorem dX8_isNew_99 : dc_at mX8_isNew 99 (.ireturn) 1 := by unfold dc_at; decide +kernel
theorem dX8_keepsSent_0 : dc_at mX8_keepsSent 0 (.aload_n 0) 1 := by unfold dc_at; decide +kernel
theorem dX8_keepsSent_1 : dc_at mX8_keepsSent 1 (.getfield 13) 3 := by unfold dc_at; decide +kernel
theorem dX8_keepsSent_4 : dc_at mX8_keepsSent 4 (.iload_n 1) 1 := by unfold dc_at; decide +kernel
theorem dX8_keepsSent_5 : dc_at mX8_keepsSent 5 (.iconst 0) 1 := by unfold dc_at; decide +kernel
theorem dX8_keepsSent_6 : dc_at mX8_keepsSent 6 (.invokestatic 111) 3 := by unfold dc_at; decide +kernel
theorem dX8_keepsSent_9 : dc_at mX8_keepsSent 9 (.iconst 1) 1 := by unfold dc_at; decide +kernel
theorem dX8_keepsSent_10 : dc_at mX8_keepsSent 10 (.iastore) 1 := by unfold dc_at; decide +kernel
theorem dX8_keepsSent_11 : dc_at mX8_keepsSent 11 (.iconst 0) 1 := by unfold dc_at; decide +kernel
theorem dX8_keepsSent_12 : dc_at mX8_keepsSent 12 (.istore_n 2) 1 := by unfold dc_at; decide +kernel
theorem dX8_keepsSent_13 : dc_at mX8_keepsSent 13 (.iload_n 2) 1 := by unfold dc_at; decide +kernel
theorem dX8_keepsSent_14 : dc_at mX8_keepsSent 14 (.aload_n 0) 1 := by unfold dc_at; decide +kernel
theorem dX8_keepsSent_15 : dc_at mX8_keepsSent 15 (.getfield 7) 3 := by unfold dc_at; decide +kernel
theorem dX8_keepsSent_18 : dc_at mX8_keepsSent 18 (.if_icmp .ge 56) 3 := by unfold dc_at; decide +kernel
theorem dX8_keepsSent_21 : dc_at mX8_keepsSent 21 (.aload_n 0) 1 := by unfold dc_at; decide +kernel
theorem dX8_keepsSent_22 : dc_at mX8_keepsSent 22 (.getfield 13) 3 := by unfold dc_at; decide +kernel
theorem dX8_keepsSent_25 : dc_at mX8_keepsSent 25 (.iload_n 1) 1 := by unfold dc_at; decide +kernel
theorem dX8_keepsSent_26 : dc_at mX8_keepsSent 26 (.iconst 1) 1 := by unfold dc_at; decide +kernel
theorem dX8_keepsSent_27 : dc_at mX8_keepsSent 27 (.iload_n 2) 1 := by unfold dc_at; decide +kernel
theorem dX8_keepsSent_28 : dc_at mX8_keepsSent 28 (.iadd) 1 := by unfold dc_at; decide +kernel
theorem dX8_keepsSent_29 : dc_at mX8_keepsSent 29 (.invokestatic 111) 3 := by unfold dc_at; decide +kernel
theorem dX8_keepsSent_32 : dc_at mX8_keepsSent 32 (.aload_n 0) 1 := by unfold dc_at; decide +kernel
theorem dX8_keepsSent_33 : dc_at mX8_keepsSent 33 (.getfield 32) 3 := by unfold dc_at; decide +kernel
theorem dX8_keepsSent_36 : dc_at mX8_keepsSent 36 (.bipush 8) 2 := by unfold dc_at; decide +kernel
theorem dX8_keepsSent_38 : dc_at mX8_keepsSent 38 (.iload_n 1) 1 := by unfold dc_at; decide +kernel
theorem dX8_keepsSent_39 : dc_at mX8_keepsSent 39 (.imul) 1 := by unfold dc_at; decide +kernel
theorem dX8_keepsSent_40 : dc_at mX8_keepsSent 40 (.iload_n 2) 1 := by unfold dc_at; decide +kernel
theorem dX8_keepsSent_41 : dc_at mX8_keepsSent 41 (.iadd) 1 := by unfold dc_at; decide +kernel
theorem dX8_keepsSent_42 : dc_at mX8_keepsSent 42 (.iaload) 1 := by unfold dc_at; decide +kernel
theorem dX8_keepsSent_43 : dc_at mX8_keepsSent 43 (.iastore) 1 := by unfold dc_at; decide +kernel
theorem dX8_keepsSent_44 : dc_at mX8_keepsSent 44 (.aload_n 0) 1 := by unfold dc_at; decide +kernel
theorem dX8_keepsSent_45 : dc_at mX8_keepsSent 45 (.getfield 13) 3 := by unfold dc_at; decide +kernel
theorem dX8_keepsSent_48 : dc_at mX8_keepsSent 48 (.iload_n 1) 1 := by unfold dc_at; decide +kernel
theorem dX8_keepsSent_49 : dc_at mX8_keepsSent 49 (.bipush 9) 2 := by unfold dc_at; decide +kernel
theorem dX8_keepsSent_51 : dc_at mX8_keepsSent 51 (.iload_n 2) 1 := by unfold dc_at; decide +kernel
theorem dX8_keepsSent_52 : dc_at mX8_keepsSent 52 (.iadd) 1 := by unfold dc_at; decide +kernel
theorem dX8_keepsSent_53 : dc_at mX8_keepsSent 53 (.invokestatic 111) 3 := by unfold dc_at; decide +kernel
theorem dX8_keepsSent_56 : dc_at mX8_keepsSent 56 (.aload_n 0) 1 := by unfold dc_at; decide +kernel
theorem dX8_keepsSent_57 : dc_at mX8_keepsSent 57 (.getfield 35) 3 := by unfold dc_at; decide +kernel
theorem dX8_keepsSent_60 : dc_at mX8_keepsSent 60 (.bipush 8) 2 := by unfold dc_at; decide +kernel
theorem dX8_keepsSent_62 : dc_at mX8_keepsSent 62 (.iload_n 1) 1 := by unfold dc_at; decide +kernel
theorem dX8_keepsSent_63 : dc_at mX8_keepsSent 63 (.imul) 1 := by unfold dc_at; decide +kernel
theorem dX8_keepsSent_64 : dc_at mX8_keepsSent 64 (.iload_n 2) 1 := by unfold dc_at; decide +kernel
theorem dX8_keepsSent_65 : dc_at mX8_keepsSent 65 (.iadd) 1 := by unfold dc_at; decide +kernel
theorem dX8_keepsSent_66 : dc_at mX8_keepsSent 66 (.iaload) 1 := by unfold dc_at; decide +kernel
theorem dX8_keepsSent_67 : dc_at mX8_keepsSent 67 (.iastore) 1 := by unfold dc_at; decide +kernel
theorem dX8_keepsSent_68 : dc_at mX8_keepsSent 68 (.iinc 2 1) 3 := by unfold dc_at; decide +kernel
theorem dX8_keepsSent_71 : dc_at mX8_keepsSent 71 (.goto (-58)) 3 := by unfold dc_at; decide +kernel
theorem dX8_keepsSent_74 : dc_at mX8_keepsSent 74 (.return_) 1 := by unfold dc_at; decide +kernel
theorem dX8_limited_0 : dc_at mX8_limited 0 (.iload_n 0) 1 := by unfold dc_at; decide +kernel
theorem dX8_limited_1 : dc_at mX8_limited 1 (.iload_n 1) 1 := by unfold dc_at; decide +kernel
theorem dX8_limited_2 : dc_at mX8_limited 2 (.if_icmp .ge 7) 3 := by unfold dc_at; decide +kernel
theorem dX8_limited_5 : dc_at mX8_limited 5 (.iload_n 0) 1 := by unfold dc_at; decide +kernel
theorem dX8_limited_6 : dc_at mX8_limited 6 (.goto 4) 3 := by unfold dc_at; decide +kernel
theorem dX8_limited_9 : dc_at mX8_limited 9 (.iload_n 1) 1 := by unfold dc_at; decide +kernel
theorem dX8_limited_10 : dc_at mX8_limited 10 (.ireturn) 1 := by unfold dc_at; decide +kernel
theorem dX8_receives_0 : dc_at mX8_receives 0 (.iload_n 1) 1 := by unfold dc_at; decide +kernel
theorem dX8_receives_1 : dc_at mX8_receives 1 (.iload_n 2) 1 := by unfold dc_at; decide +kernel
theorem dX8_receives_2 : dc_at mX8_receives 2 (.iload_n 3) 1 := by unfold dc_at; decide +kernel
theorem dX8_receives_3 : dc_at mX8_receives 3 (.iconst 0) 1 := by unfold dc_at; decide +kernel
theorem dX8_receives_4 : dc_at mX8_receives 4 (.invokestatic 81) 3 := by unfold dc_at; decide +kernel
theorem dX8_receives_7 : dc_at mX8_receives 7 (.istore 5) 2 := by unfold dc_at; decide +kernel
theorem dX8_receives_9 : dc_at mX8_receives 9 (.bipush 8) 2 := by unfold dc_at; decide +kernel
theorem dX8_receives_11 : dc_at mX8_receives 11 (.iload_n 3) 1 := by unfold dc_at; decide +kernel
theorem dX8_receives_12 : dc_at mX8_receives 12 (.imul) 1 := by unfold dc_at; decide +kernel
theorem dX8_receives_13 : dc_at mX8_receives 13 (.iload_n 2) 1 := by unfold dc_at; decide +kernel
theorem dX8_receives_14 : dc_at mX8_receives 14 (.iadd) 1 := by unfold dc_at; decide +kernel
theorem dX8_receives_15 : dc_at mX8_receives 15 (.istore 6) 2 := by unfold dc_at; decide +kernel
theorem dX8_receives_17 : dc_at mX8_receives 17 (.aload_n 0) 1 := by unfold dc_at; decide +kernel
theorem dX8_receives_18 : dc_at mX8_receives 18 (.getfield 23) 3 := by unfold dc_at; decide +kernel
theorem dX8_receives_21 : dc_at mX8_receives 21 (.bipush 6) 2 := by unfold dc_at; decide +kernel
theorem dX8_receives_23 : dc_at mX8_receives 23 (.iaload) 1 := by unfold dc_at; decide +kernel
theorem dX8_receives_24 : dc_at mX8_receives 24 (.istore 7) 2 := by unfold dc_at; decide +kernel
theorem dX8_receives_26 : dc_at mX8_receives 26 (.iload 4) 2 := by unfold dc_at; decide +kernel
theorem dX8_receives_28 : dc_at mX8_receives 28 (.ifCond .eq 30) 3 := by unfold dc_at; decide +kernel
theorem dX8_receives_31 : dc_at mX8_receives 31 (.aload_n 0) 1 := by unfold dc_at; decide +kernel
theorem dX8_receives_32 : dc_at mX8_receives 32 (.getfield 32) 3 := by unfold dc_at; decide +kernel
theorem dX8_receives_35 : dc_at mX8_receives 35 (.iload 6) 2 := by unfold dc_at; decide +kernel
theorem dX8_receives_37 : dc_at mX8_receives 37 (.iaload) 1 := by unfold dc_at; decide +kernel
theorem dX8_receives_38 : dc_at mX8_receives 38 (.aload_n 0) 1 := by unfold dc_at; decide +kernel
theorem dX8_receives_39 : dc_at mX8_receives 39 (.getfield 13) 3 := by unfold dc_at; decide +kernel
theorem dX8_receives_42 : dc_at mX8_receives 42 (.iload_n 3) 1 := by unfold dc_at; decide +kernel
theorem dX8_receives_43 : dc_at mX8_receives 43 (.iload_n 1) 1 := by unfold dc_at; decide +kernel
theorem dX8_receives_44 : dc_at mX8_receives 44 (.iconst 0) 1 := by unfold dc_at; decide +kernel
theorem dX8_receives_45 : dc_at mX8_receives 45 (.invokestatic 62) 3 := by unfold dc_at; decide +kernel
theorem dX8_receives_48 : dc_at mX8_receives 48 (.iaload) 1 := by unfold dc_at; decide +kernel
theorem dX8_receives_49 : dc_at mX8_receives 49 (.iadd) 1 := by unfold dc_at; decide +kernel
theorem dX8_receives_50 : dc_at mX8_receives 50 (.iload 7) 2 := by unfold dc_at; decide +kernel
theorem dX8_receives_52 : dc_at mX8_receives 52 (.invokestatic 114) 3 := by unfold dc_at; decide +kernel
theorem dX8_receives_55 : dc_at mX8_receives 55 (.goto 5) 3 := by unfold dc_at; decide +kernel
theorem dX8_receives_58 : dc_at mX8_receives 58 (.iload 7) 2 := by unfold dc_at; decide +kernel
theorem dX8_receives_60 : dc_at mX8_receives 60 (.istore 8) 2 := by unfold dc_at; decide +kernel
theorem dX8_receives_62 : dc_at mX8_receives 62 (.iload 4) 2 := by unfold dc_at; decide +kernel
theorem dX8_receives_64 : dc_at mX8_receives 64 (.ifCond .eq 30) 3 := by unfold dc_at; decide +kernel
theorem dX8_receives_67 : dc_at mX8_receives 67 (.aload_n 0) 1 := by unfold dc_at; decide +kernel
theorem dX8_receives_68 : dc_at mX8_receives 68 (.getfield 35) 3 := by unfold dc_at; decide +kernel
theorem dX8_receives_71 : dc_at mX8_receives 71 (.iload 6) 2 := by unfold dc_at; decide +kernel
theorem dX8_receives_73 : dc_at mX8_receives 73 (.iaload) 1 := by unfold dc_at; decide +kernel
theorem dX8_receives_74 : dc_at mX8_receives 74 (.aload_n 0) 1 := by unfold dc_at; decide +kernel
theorem dX8_receives_75 : dc_at mX8_receives 75 (.getfield 13) 3 := by unfold dc_at; decide +kernel
theorem dX8_receives_78 : dc_at mX8_receives 78 (.iload_n 3) 1 := by unfold dc_at; decide +kernel
theorem dX8_receives_79 : dc_at mX8_receives 79 (.iload_n 1) 1 := by unfold dc_at; decide +kernel
theorem dX8_receives_80 : dc_at mX8_receives 80 (.iconst 1) 1 := by unfold dc_at; decide +kernel
theorem dX8_receives_81 : dc_at mX8_receives 81 (.invokestatic 62) 3 := by unfold dc_at; decide +kernel
theorem dX8_receives_84 : dc_at mX8_receives 84 (.iaload) 1 := by unfold dc_at; decide +kernel
theorem dX8_receives_85 : dc_at mX8_receives 85 (.iadd) 1 := by unfold dc_at; decide +kernel
theorem dX8_receives_86 : dc_at mX8_receives 86 (.iload 7) 2 := by unfold dc_at; decide +kernel
theorem dX8_receives_88 : dc_at mX8_receives 88 (.invokestatic 114) 3 := by unfold dc_at; decide +kernel
theorem dX8_receives_91 : dc_at mX8_receives 91 (.goto 5) 3 := by unfold dc_at; decide +kernel
theorem dX8_receives_94 : dc_at mX8_receives 94 (.iload 7) 2 := by unfold dc_at; decide +kernel
theorem dX8_receives_96 : dc_at mX8_receives 96 (.istore 9) 2 := by unfold dc_at; decide +kernel
theorem dX8_receives_98 : dc_at mX8_receives 98 (.aload_n 0) 1 := by unfold dc_at; decide +kernel
theorem dX8_receives_99 : dc_at mX8_receives 99 (.getfield 13) 3 := by unfold dc_at; decide +kernel
theorem dX8_receives_102 : dc_at mX8_receives 102 (.sipush 3593) 3 := by unfold dc_at; decide +kernel
theorem dX8_receives_105 : dc_at mX8_receives 105 (.iaload) 1 := by unfold dc_at; decide +kernel
theorem dX8_receives_106 : dc_at mX8_receives 106 (.istore 10) 2 := by unfold dc_at; decide +kernel
theorem dX8_receives_108 : dc_at mX8_receives 108 (.aload_n 0) 1 := by unfold dc_at; decide +kernel
theorem dX8_receives_109 : dc_at mX8_receives 109 (.getfield 13) 3 := by unfold dc_at; decide +kernel
theorem dX8_receives_112 : dc_at mX8_receives 112 (.iload 5) 2 := by unfold dc_at; decide +kernel
theorem dX8_receives_114 : dc_at mX8_receives 114 (.iaload) 1 := by unfold dc_at; decide +kernel
theorem dX8_receives_115 : dc_at mX8_receives 115 (.ifCond .eq 17) 3 := by unfold dc_at; decide +kernel
theorem dX8_receives_118 : dc_at mX8_receives 118 (.aload_n 0) 1 := by unfold dc_at; decide +kernel
theorem dX8_receives_119 : dc_at mX8_receives 119 (.getfield 13) 3 := by unfold dc_at; decide +kernel
theorem dX8_receives_122 : dc_at mX8_receives 122 (.iload 5) 2 := by unfold dc_at; decide +kernel
theorem dX8_receives_124 : dc_at mX8_receives 124 (.iconst 3) 1 := by unfold dc_at; decide +kernel
theorem dX8_receives_125 : dc_at mX8_receives 125 (.iadd) 1 := by unfold dc_at; decide +kernel
theorem dX8_receives_126 : dc_at mX8_receives 126 (.iaload) 1 := by unfold dc_at; decide +kernel
theorem dX8_receives_127 : dc_at mX8_receives 127 (.iload 10) 2 := by unfold dc_at; decide +kernel
theorem dX8_receives_129 : dc_at mX8_receives 129 (.if_icmp .ge 34) 3 := by unfold dc_at; decide +kernel
theorem dX8_receives_132 : dc_at mX8_receives 132 (.aload_n 0) 1 := by unfold dc_at; decide +kernel
theorem dX8_receives_133 : dc_at mX8_receives 133 (.getfield 13) 3 := by unfold dc_at; decide +kernel
theorem dX8_receives_136 : dc_at mX8_receives 136 (.iload 5) 2 := by unfold dc_at; decide +kernel
theorem dX8_receives_138 : dc_at mX8_receives 138 (.iconst 1) 1 := by unfold dc_at; decide +kernel
theorem dX8_receives_139 : dc_at mX8_receives 139 (.iastore) 1 := by unfold dc_at; decide +kernel
theorem dX8_receives_140 : dc_at mX8_receives 140 (.aload_n 0) 1 := by unfold dc_at; decide +kernel
theorem dX8_receives_141 : dc_at mX8_receives 141 (.getfield 13) 3 := by unfold dc_at; decide +kernel
theorem dX8_receives_144 : dc_at mX8_receives 144 (.iload 5) 2 := by unfold dc_at; decide +kernel
theorem dX8_receives_146 : dc_at mX8_receives 146 (.iconst 4) 1 := by unfold dc_at; decide +kernel
theorem dX8_receives_147 : dc_at mX8_receives 147 (.iadd) 1 := by unfold dc_at; decide +kernel
theorem dX8_receives_148 : dc_at mX8_receives 148 (.iconst 0) 1 := by unfold dc_at; decide +kernel
theorem dX8_receives_149 : dc_at mX8_receives 149 (.iastore) 1 := by unfold dc_at; decide +kernel
theorem dX8_receives_150 : dc_at mX8_receives 150 (.aload_n 0) 1 := by unfold dc_at; decide +kernel
theorem dX8_receives_151 : dc_at mX8_receives 151 (.getfield 13) 3 := by unfold dc_at; decide +kernel
theorem dX8_receives_154 : dc_at mX8_receives 154 (.iload 5) 2 := by unfold dc_at; decide +kernel
theorem dX8_receives_156 : dc_at mX8_receives 156 (.iconst 5) 1 := by unfold dc_at; decide +kernel
theorem dX8_receives_157 : dc_at mX8_receives 157 (.iadd) 1 := by unfold dc_at; decide +kernel
theorem dX8_receives_158 : dc_at mX8_receives 158 (.iconst 0) 1 := by unfold dc_at; decide +kernel
theorem dX8_receives_159 : dc_at mX8_receives 159 (.iastore) 1 := by unfold dc_at; decide +kernel
theorem dX8_receives_160 : dc_at mX8_receives 160 (.goto 67) 3 := by unfold dc_at; decide +kernel
theorem dX8_receives_163 : dc_at mX8_receives 163 (.aload_n 0) 1 := by unfold dc_at; decide +kernel
theorem dX8_receives_164 : dc_at mX8_receives 164 (.getfield 13) 3 := by unfold dc_at; decide +kernel
theorem dX8_receives_167 : dc_at mX8_receives 167 (.iload 5) 2 := by unfold dc_at; decide +kernel
theorem dX8_receives_169 : dc_at mX8_receives 169 (.iconst 4) 1 := by unfold dc_at; decide +kernel
theorem dX8_receives_170 : dc_at mX8_receives 170 (.iadd) 1 := by unfold dc_at; decide +kernel
theorem dX8_receives_171 : dc_at mX8_receives 171 (.iload 9) 2 := by unfold dc_at; decide +kernel
theorem dX8_receives_173 : dc_at mX8_receives 173 (.aload_n 0) 1 := by unfold dc_at; decide +kernel
theorem dX8_receives_174 : dc_at mX8_receives 174 (.getfield 13) 3 := by unfold dc_at; decide +kernel
theorem dX8_receives_177 : dc_at mX8_receives 177 (.iload 5) 2 := by unfold dc_at; decide +kernel
theorem dX8_receives_179 : dc_at mX8_receives 179 (.iconst 2) 1 := by unfold dc_at; decide +kernel
theorem dX8_receives_180 : dc_at mX8_receives 180 (.iadd) 1 := by unfold dc_at; decide +kernel
theorem dX8_receives_181 : dc_at mX8_receives 181 (.iaload) 1 := by unfold dc_at; decide +kernel
theorem dX8_receives_182 : dc_at mX8_receives 182 (.if_icmp .le 17) 3 := by unfold dc_at; decide +kernel
theorem dX8_receives_185 : dc_at mX8_receives 185 (.aload_n 0) 1 := by unfold dc_at; decide +kernel
theorem dX8_receives_186 : dc_at mX8_receives 186 (.getfield 13) 3 := by unfold dc_at; decide +kernel
theorem dX8_receives_189 : dc_at mX8_receives 189 (.iload 5) 2 := by unfold dc_at; decide +kernel
theorem dX8_receives_191 : dc_at mX8_receives 191 (.iconst 4) 1 := by unfold dc_at; decide +kernel
theorem dX8_receives_192 : dc_at mX8_receives 192 (.iadd) 1 := by unfold dc_at; decide +kernel
theorem dX8_receives_193 : dc_at mX8_receives 193 (.iaload) 1 := by unfold dc_at; decide +kernel
theorem dX8_receives_194 : dc_at mX8_receives 194 (.iconst 1) 1 := by unfold dc_at; decide +kernel
theorem dX8_receives_195 : dc_at mX8_receives 195 (.iadd) 1 := by unfold dc_at; decide +kernel
theorem dX8_receives_196 : dc_at mX8_receives 196 (.goto 30) 3 := by unfold dc_at; decide +kernel
theorem dX8_receives_199 : dc_at mX8_receives 199 (.iload 9) 2 := by unfold dc_at; decide +kernel
theorem dX8_receives_201 : dc_at mX8_receives 201 (.aload_n 0) 1 := by unfold dc_at; decide +kernel
theorem dX8_receives_202 : dc_at mX8_receives 202 (.getfield 13) 3 := by unfold dc_at; decide +kernel
theorem dX8_receives_205 : dc_at mX8_receives 205 (.iload 5) 2 := by unfold dc_at; decide +kernel
theorem dX8_receives_207 : dc_at mX8_receives 207 (.iconst 2) 1 := by unfold dc_at; decide +kernel
theorem dX8_receives_208 : dc_at mX8_receives 208 (.iadd) 1 := by unfold dc_at; decide +kernel
theorem dX8_receives_209 : dc_at mX8_receives 209 (.iaload) 1 := by unfold dc_at; decide +kernel
theorem dX8_receives_210 : dc_at mX8_receives 210 (.if_icmp .ge 7) 3 := by unfold dc_at; decide +kernel
theorem dX8_receives_213 : dc_at mX8_receives 213 (.iconst 0) 1 := by unfold dc_at; decide +kernel
theorem dX8_receives_214 : dc_at mX8_receives 214 (.goto 12) 3 := by unfold dc_at; decide +kernel
theorem dX8_receives_217 : dc_at mX8_receives 217 (.aload_n 0) 1 := by unfold dc_at; decide +kernel
theorem dX8_receives_218 : dc_at mX8_receives 218 (.getfield 13) 3 := by unfold dc_at; decide +kernel
theorem dX8_receives_221 : dc_at mX8_receives 221 (.iload 5) 2 := by unfold dc_at; decide +kernel
theorem dX8_receives_223 : dc_at mX8_receives 223 (.iconst 4) 1 := by unfold dc_at; decide +kernel
theorem dX8_receives_224 : dc_at mX8_receives 224 (.iadd) 1 := by unfold dc_at; decide +kernel
theorem dX8_receives_225 : dc_at mX8_receives 225 (.iaload) 1 := by unfold dc_at; decide +kernel
theorem dX8_receives_226 : dc_at mX8_receives 226 (.iastore) 1 := by unfold dc_at; decide +kernel
theorem dX8_receives_227 : dc_at mX8_receives 227 (.aload_n 0) 1 := by unfold dc_at; decide +kernel
theorem dX8_receives_228 : dc_at mX8_receives 228 (.getfield 13) 3 := by unfold dc_at; decide +kernel
theorem dX8_receives_231 : dc_at mX8_receives 231 (.iload 5) 2 := by unfold dc_at; decide +kernel
theorem dX8_receives_233 : dc_at mX8_receives 233 (.iconst 4) 1 := by unfold dc_at; decide +kernel
theorem dX8_receives_234 : dc_at mX8_receives 234 (.iadd) 1 := by unfold dc_at; decide +kernel
theorem dX8_receives_235 : dc_at mX8_receives 235 (.iaload) 1 := by unfold dc_at; decide +kernel
theorem dX8_receives_236 : dc_at mX8_receives 236 (.aload_n 0) 1 := by unfold dc_at; decide +kernel
theorem dX8_receives_237 : dc_at mX8_receives 237 (.getfield 23) 3 := by unfold dc_at; decide +kernel
theorem dX8_receives_240 : dc_at mX8_receives 240 (.bipush 8) 2 := by unfold dc_at; decide +kernel
theorem dX8_receives_242 : dc_at mX8_receives 242 (.iaload) 1 := by unfold dc_at; decide +kernel
theorem dX8_receives_243 : dc_at mX8_receives 243 (.if_icmp .lt 32) 3 := by unfold dc_at; decide +kernel
theorem dX8_receives_246 : dc_at mX8_receives 246 (.aload_n 0) 1 := by unfold dc_at; decide +kernel
theorem dX8_receives_247 : dc_at mX8_receives 247 (.getfield 13) 3 := by unfold dc_at; decide +kernel
theorem dX8_receives_250 : dc_at mX8_receives 250 (.iload 5) 2 := by unfold dc_at; decide +kernel
theorem dX8_receives_252 : dc_at mX8_receives 252 (.iconst 5) 1 := by unfold dc_at; decide +kernel
theorem dX8_receives_253 : dc_at mX8_receives 253 (.iadd) 1 := by unfold dc_at; decide +kernel
theorem dX8_receives_254 : dc_at mX8_receives 254 (.iload 10) 2 := by unfold dc_at; decide +kernel
theorem dX8_receives_256 : dc_at mX8_receives 256 (.aload_n 0) 1 := by unfold dc_at; decide +kernel
theorem dX8_receives_257 : dc_at mX8_receives 257 (.getfield 23) 3 := by unfold dc_at; decide +kernel
theorem dX8_receives_260 : dc_at mX8_receives 260 (.bipush 9) 2 := by unfold dc_at; decide +kernel
theorem dX8_receives_262 : dc_at mX8_receives 262 (.iaload) 1 := by unfold dc_at; decide +kernel
theorem dX8_receives_263 : dc_at mX8_receives 263 (.iadd) 1 := by unfold dc_at; decide +kernel
theorem dX8_receives_264 : dc_at mX8_receives 264 (.iastore) 1 := by unfold dc_at; decide +kernel
theorem dX8_receives_265 : dc_at mX8_receives 265 (.aload_n 0) 1 := by unfold dc_at; decide +kernel
theorem dX8_receives_266 : dc_at mX8_receives 266 (.getfield 13) 3 := by unfold dc_at; decide +kernel
theorem dX8_receives_269 : dc_at mX8_receives 269 (.iload 5) 2 := by unfold dc_at; decide +kernel
theorem dX8_receives_271 : dc_at mX8_receives 271 (.iconst 4) 1 := by unfold dc_at; decide +kernel
theorem dX8_receives_272 : dc_at mX8_receives 272 (.iadd) 1 := by unfold dc_at; decide +kernel
theorem dX8_receives_273 : dc_at mX8_receives 273 (.iconst 0) 1 := by unfold dc_at; decide +kernel
theorem dX8_receives_274 : dc_at mX8_receives 274 (.iastore) 1 := by unfold dc_at; decide +kernel
theorem dX8_receives_275 : dc_at mX8_receives 275 (.aload_n 0) 1 := by unfold dc_at; decide +kernel
theorem dX8_receives_276 : dc_at mX8_receives 276 (.getfield 13) 3 := by unfold dc_at; decide +kernel
theorem dX8_receives_279 : dc_at mX8_receives 279 (.iload 5) 2 := by unfold dc_at; decide +kernel
theorem dX8_receives_281 : dc_at mX8_receives 281 (.iconst 1) 1 := by unfold dc_at; decide +kernel
theorem dX8_receives_282 : dc_at mX8_receives 282 (.iadd) 1 := by unfold dc_at; decide +kernel
theorem dX8_receives_283 : dc_at mX8_receives 283 (.iload 8) 2 := by unfold dc_at; decide +kernel
theorem dX8_receives_285 : dc_at mX8_receives 285 (.iastore) 1 := by unfold dc_at; decide +kernel
theorem dX8_receives_286 : dc_at mX8_receives 286 (.aload_n 0) 1 := by unfold dc_at; decide +kernel
theorem dX8_receives_287 : dc_at mX8_receives 287 (.getfield 13) 3 := by unfold dc_at; decide +kernel
theorem dX8_receives_290 : dc_at mX8_receives 290 (.iload 5) 2 := by unfold dc_at; decide +kernel
theorem dX8_receives_292 : dc_at mX8_receives 292 (.iconst 2) 1 := by unfold dc_at; decide +kernel
theorem dX8_receives_293 : dc_at mX8_receives 293 (.iadd) 1 := by unfold dc_at; decide +kernel
theorem dX8_receives_294 : dc_at mX8_receives 294 (.iload 9) 2 := by unfold dc_at; decide +kernel
theorem dX8_receives_296 : dc_at mX8_receives 296 (.iastore) 1 := by unfold dc_at; decide +kernel
theorem dX8_receives_297 : dc_at mX8_receives 297 (.aload_n 0) 1 := by unfold dc_at; decide +kernel
theorem dX8_receives_298 : dc_at mX8_receives 298 (.getfield 13) 3 := by unfold dc_at; decide +kernel
theorem dX8_receives_301 : dc_at mX8_receives 301 (.iload 5) 2 := by unfold dc_at; decide +kernel
theorem dX8_receives_303 : dc_at mX8_receives 303 (.iconst 3) 1 := by unfold dc_at; decide +kernel
theorem dX8_receives_304 : dc_at mX8_receives 304 (.iadd) 1 := by unfold dc_at; decide +kernel
theorem dX8_receives_305 : dc_at mX8_receives 305 (.iload 10) 2 := by unfold dc_at; decide +kernel
theorem dX8_receives_307 : dc_at mX8_receives 307 (.aload_n 0) 1 := by unfold dc_at; decide +kernel
theorem dX8_receives_308 : dc_at mX8_receives 308 (.getfield 23) 3 := by unfold dc_at; decide +kernel
theorem dX8_receives_311 : dc_at mX8_receives 311 (.iconst 1) 1 := by unfold dc_at; decide +kernel
theorem dX8_receives_312 : dc_at mX8_receives 312 (.iaload) 1 := by unfold dc_at; decide +kernel
theorem dX8_receives_313 : dc_at mX8_receives 313 (.iadd) 1 := by unfold dc_at; decide +kernel
theorem dX8_receives_314 : dc_at mX8_receives 314 (.iastore) 1 := by unfold dc_at; decide +kernel
theorem dX8_receives_315 : dc_at mX8_receives 315 (.return_) 1 := by unfold dc_at; decide +kernel
theorem dX8_sendsAll_0 : dc_at mX8_sendsAll 0 (.iconst 0) 1 := by unfold dc_at; decide +kernel
theorem dX8_sendsAll_1 : dc_at mX8_sendsAll 1 (.istore_n 2) 1 := by unfold dc_at; decide +kernel
theorem dX8_sendsAll_2 : dc_at mX8_sendsAll 2 (.iload_n 2) 1 := by unfold dc_at; decide +kernel
theorem dX8_sendsAll_3 : dc_at mX8_sendsAll 3 (.aload_n 0) 1 := by unfold dc_at; decide +kernel
theorem dX8_sendsAll_4 : dc_at mX8_sendsAll 4 (.getfield 7) 3 := by unfold dc_at; decide +kernel
theorem dX8_sendsAll_7 : dc_at mX8_sendsAll 7 (.if_icmp .ge 129) 3 := by unfold dc_at; decide +kernel
theorem dX8_sendsAll_10 : dc_at mX8_sendsAll 10 (.iconst 0) 1 := by unfold dc_at; decide +kernel
theorem dX8_sendsAll_11 : dc_at mX8_sendsAll 11 (.istore_n 3) 1 := by unfold dc_at; decide +kernel
theorem dX8_sendsAll_12 : dc_at mX8_sendsAll 12 (.iload_n 3) 1 := by unfold dc_at; decide +kernel
theorem dX8_sendsAll_13 : dc_at mX8_sendsAll 13 (.aload_n 0) 1 := by unfold dc_at; decide +kernel
theorem dX8_sendsAll_14 : dc_at mX8_sendsAll 14 (.getfield 7) 3 := by unfold dc_at; decide +kernel
theorem dX8_sendsAll_17 : dc_at mX8_sendsAll 17 (.if_icmp .ge 113) 3 := by unfold dc_at; decide +kernel
theorem dX8_sendsAll_20 : dc_at mX8_sendsAll 20 (.aload_n 0) 1 := by unfold dc_at; decide +kernel
theorem dX8_sendsAll_21 : dc_at mX8_sendsAll 21 (.iload_n 1) 1 := by unfold dc_at; decide +kernel
theorem dX8_sendsAll_22 : dc_at mX8_sendsAll 22 (.iload_n 2) 1 := by unfold dc_at; decide +kernel
theorem dX8_sendsAll_23 : dc_at mX8_sendsAll 23 (.invokevirtual 91) 3 := by unfold dc_at; decide +kernel
theorem dX8_sendsAll_26 : dc_at mX8_sendsAll 26 (.ifCond .eq 104) 3 := by unfold dc_at; decide +kernel
theorem dX8_sendsAll_29 : dc_at mX8_sendsAll 29 (.bipush 8) 2 := by unfold dc_at; decide +kernel
theorem dX8_sendsAll_31 : dc_at mX8_sendsAll 31 (.iload_n 1) 1 := by unfold dc_at; decide +kernel
theorem dX8_sendsAll_32 : dc_at mX8_sendsAll 32 (.imul) 1 := by unfold dc_at; decide +kernel
theorem dX8_sendsAll_33 : dc_at mX8_sendsAll 33 (.iload_n 3) 1 := by unfold dc_at; decide +kernel
theorem dX8_sendsAll_34 : dc_at mX8_sendsAll 34 (.iadd) 1 := by unfold dc_at; decide +kernel
theorem dX8_sendsAll_35 : dc_at mX8_sendsAll 35 (.istore 4) 2 := by unfold dc_at; decide +kernel
theorem dX8_sendsAll_37 : dc_at mX8_sendsAll 37 (.aload_n 0) 1 := by unfold dc_at; decide +kernel
theorem dX8_sendsAll_38 : dc_at mX8_sendsAll 38 (.getfield 38) 3 := by unfold dc_at; decide +kernel
theorem dX8_sendsAll_41 : dc_at mX8_sendsAll 41 (.iload 4) 2 := by unfold dc_at; decide +kernel
theorem dX8_sendsAll_43 : dc_at mX8_sendsAll 43 (.iaload) 1 := by unfold dc_at; decide +kernel
theorem dX8_sendsAll_44 : dc_at mX8_sendsAll 44 (.iload_n 2) 1 := by unfold dc_at; decide +kernel
theorem dX8_sendsAll_45 : dc_at mX8_sendsAll 45 (.if_icmp .ne 7) 3 := by unfold dc_at; decide +kernel
theorem dX8_sendsAll_48 : dc_at mX8_sendsAll 48 (.iconst 1) 1 := by unfold dc_at; decide +kernel
theorem dX8_sendsAll_49 : dc_at mX8_sendsAll 49 (.goto 4) 3 := by unfold dc_at; decide +kernel
theorem dX8_sendsAll_52 : dc_at mX8_sendsAll 52 (.iconst 0) 1 := by unfold dc_at; decide +kernel
theorem dX8_sendsAll_53 : dc_at mX8_sendsAll 53 (.istore 5) 2 := by unfold dc_at; decide +kernel
theorem dX8_sendsAll_55 : dc_at mX8_sendsAll 55 (.iload_n 3) 1 := by unfold dc_at; decide +kernel
theorem dX8_sendsAll_56 : dc_at mX8_sendsAll 56 (.iload_n 2) 1 := by unfold dc_at; decide +kernel
theorem dX8_sendsAll_57 : dc_at mX8_sendsAll 57 (.if_icmp .eq 67) 3 := by unfold dc_at; decide +kernel
theorem dX8_sendsAll_60 : dc_at mX8_sendsAll 60 (.iload 5) 2 := by unfold dc_at; decide +kernel
theorem dX8_sendsAll_62 : dc_at mX8_sendsAll 62 (.ifCond .eq 13) 3 := by unfold dc_at; decide +kernel
theorem dX8_sendsAll_65 : dc_at mX8_sendsAll 65 (.aload_n 0) 1 := by unfold dc_at; decide +kernel
theorem dX8_sendsAll_66 : dc_at mX8_sendsAll 66 (.getfield 23) 3 := by unfold dc_at; decide +kernel
theorem dX8_sendsAll_69 : dc_at mX8_sendsAll 69 (.iconst 3) 1 := by unfold dc_at; decide +kernel
theorem dX8_sendsAll_70 : dc_at mX8_sendsAll 70 (.iaload) 1 := by unfold dc_at; decide +kernel
theorem dX8_sendsAll_71 : dc_at mX8_sendsAll 71 (.iconst 1) 1 := by unfold dc_at; decide +kernel
theorem dX8_sendsAll_72 : dc_at mX8_sendsAll 72 (.if_icmp .eq 52) 3 := by unfold dc_at; decide +kernel
theorem dX8_sendsAll_75 : dc_at mX8_sendsAll 75 (.aload_n 0) 1 := by unfold dc_at; decide +kernel
theorem dX8_sendsAll_76 : dc_at mX8_sendsAll 76 (.iload_n 2) 1 := by unfold dc_at; decide +kernel
theorem dX8_sendsAll_77 : dc_at mX8_sendsAll 77 (.iload_n 3) 1 := by unfold dc_at; decide +kernel
theorem dX8_sendsAll_78 : dc_at mX8_sendsAll 78 (.iload_n 1) 1 := by unfold dc_at; decide +kernel
theorem dX8_sendsAll_79 : dc_at mX8_sendsAll 79 (.aload_n 0) 1 := by unfold dc_at; decide +kernel
theorem dX8_sendsAll_80 : dc_at mX8_sendsAll 80 (.getfield 35) 3 := by unfold dc_at; decide +kernel
theorem dX8_sendsAll_83 : dc_at mX8_sendsAll 83 (.iload 4) 2 := by unfold dc_at; decide +kernel
theorem dX8_sendsAll_85 : dc_at mX8_sendsAll 85 (.iaload) 1 := by unfold dc_at; decide +kernel
theorem dX8_sendsAll_86 : dc_at mX8_sendsAll 86 (.ifCond .lt 22) 3 := by unfold dc_at; decide +kernel
theorem dX8_sendsAll_89 : dc_at mX8_sendsAll 89 (.iload 5) 2 := by unfold dc_at; decide +kernel
theorem dX8_sendsAll_91 : dc_at mX8_sendsAll 91 (.ifCond .eq 13) 3 := by unfold dc_at; decide +kernel
theorem dX8_sendsAll_94 : dc_at mX8_sendsAll 94 (.aload_n 0) 1 := by unfold dc_at; decide +kernel
theorem dX8_sendsAll_95 : dc_at mX8_sendsAll 95 (.getfield 23) 3 := by unfold dc_at; decide +kernel
theorem dX8_sendsAll_98 : dc_at mX8_sendsAll 98 (.iconst 3) 1 := by unfold dc_at; decide +kernel
theorem dX8_sendsAll_99 : dc_at mX8_sendsAll 99 (.iaload) 1 := by unfold dc_at; decide +kernel
theorem dX8_sendsAll_100 : dc_at mX8_sendsAll 100 (.iconst 2) 1 := by unfold dc_at; decide +kernel
theorem dX8_sendsAll_101 : dc_at mX8_sendsAll 101 (.if_icmp .eq 7) 3 := by unfold dc_at; decide +kernel
theorem dX8_sendsAll_104 : dc_at mX8_sendsAll 104 (.iconst 1) 1 := by unfold dc_at; decide +kernel
theorem dX8_sendsAll_105 : dc_at mX8_sendsAll 105 (.goto 4) 3 := by unfold dc_at; decide +kernel
theorem dX8_sendsAll_108 : dc_at mX8_sendsAll 108 (.iconst 0) 1 := by unfold dc_at; decide +kernel
theorem dX8_sendsAll_109 : dc_at mX8_sendsAll 109 (.invokevirtual 117) 3 := by unfold dc_at; decide +kernel
theorem dX8_sendsAll_112 : dc_at mX8_sendsAll 112 (.aload_n 0) 1 := by unfold dc_at; decide +kernel
theorem dX8_sendsAll_113 : dc_at mX8_sendsAll 113 (.getfield 13) 3 := by unfold dc_at; decide +kernel
theorem dX8_sendsAll_116 : dc_at mX8_sendsAll 116 (.sipush 3594) 3 := by unfold dc_at; decide +kernel
theorem dX8_sendsAll_119 : dc_at mX8_sendsAll 119 (.dup2) 1 := by unfold dc_at; decide +kernel
theorem dX8_sendsAll_120 : dc_at mX8_sendsAll 120 (.iaload) 1 := by unfold dc_at; decide +kernel
theorem dX8_sendsAll_121 : dc_at mX8_sendsAll 121 (.iconst 1) 1 := by unfold dc_at; decide +kernel
theorem dX8_sendsAll_122 : dc_at mX8_sendsAll 122 (.iadd) 1 := by unfold dc_at; decide +kernel
theorem dX8_sendsAll_123 : dc_at mX8_sendsAll 123 (.iastore) 1 := by unfold dc_at; decide +kernel
theorem dX8_sendsAll_124 : dc_at mX8_sendsAll 124 (.iinc 3 1) 3 := by unfold dc_at; decide +kernel
theorem dX8_sendsAll_127 : dc_at mX8_sendsAll 127 (.goto (-115)) 3 := by unfold dc_at; decide +kernel
theorem dX8_sendsAll_130 : dc_at mX8_sendsAll 130 (.iinc 2 1) 3 := by unfold dc_at; decide +kernel
theorem dX8_sendsAll_133 : dc_at mX8_sendsAll 133 (.goto (-131)) 3 := by unfold dc_at; decide +kernel
theorem dX8_sendsAll_136 : dc_at mX8_sendsAll 136 (.return_) 1 := by unfold dc_at; decide +kernel
theorem dX8_notes_0 : dc_at mX8_notes 0 (.sipush 3591) 3 := by unfold dc_at; decide +kernel
theorem dX8_notes_3 : dc_at mX8_notes 3 (.istore 4) 2 := by unfold dc_at; decide +kernel
theorem dX8_notes_5 : dc_at mX8_notes 5 (.iload 4) 2 := by unfold dc_at; decide +kernel
theorem dX8_notes_7 : dc_at mX8_notes 7 (.sipush 3532) 3 := by unfold dc_at; decide +kernel
theorem dX8_notes_10 : dc_at mX8_notes 10 (.if_icmp .lt 25) 3 := by unfold dc_at; decide +kernel
theorem dX8_notes_13 : dc_at mX8_notes 13 (.aload_n 0) 1 := by unfold dc_at; decide +kernel
theorem dX8_notes_14 : dc_at mX8_notes 14 (.getfield 13) 3 := by unfold dc_at; decide +kernel
theorem dX8_notes_17 : dc_at mX8_notes 17 (.iload 4) 2 := by unfold dc_at; decide +kernel
theorem dX8_notes_19 : dc_at mX8_notes 19 (.aload_n 0) 1 := by unfold dc_at; decide +kernel
theorem dX8_notes_20 : dc_at mX8_notes 20 (.getfield 13) 3 := by unfold dc_at; decide +kernel
theorem dX8_notes_23 : dc_at mX8_notes 23 (.iload 4) 2 := by unfold dc_at; decide +kernel
theorem dX8_notes_25 : dc_at mX8_notes 25 (.iconst 4) 1 := by unfold dc_at; decide +kernel
theorem dX8_notes_26 : dc_at mX8_notes 26 (.isub) 1 := by unfold dc_at; decide +kernel
theorem dX8_notes_27 : dc_at mX8_notes 27 (.iaload) 1 := by unfold dc_at; decide +kernel
theorem dX8_notes_28 : dc_at mX8_notes 28 (.iastore) 1 := by unfold dc_at; decide +kernel
theorem dX8_notes_29 : dc_at mX8_notes 29 (.iinc 4 (-1)) 3 := by unfold dc_at; decide +kernel
theorem dX8_notes_32 : dc_at mX8_notes 32 (.goto (-27)) 3 := by unfold dc_at; decide +kernel
theorem dX8_notes_35 : dc_at mX8_notes 35 (.aload_n 0) 1 := by unfold dc_at; decide +kernel
theorem dX8_notes_36 : dc_at mX8_notes 36 (.getfield 13) 3 := by unfold dc_at; decide +kernel
theorem dX8_notes_39 : dc_at mX8_notes 39 (.sipush 3528) 3 := by unfold dc_at; decide +kernel
theorem dX8_notes_42 : dc_at mX8_notes 42 (.aload_n 0) 1 := by unfold dc_at; decide +kernel
theorem dX8_notes_43 : dc_at mX8_notes 43 (.getfield 13) 3 := by unfold dc_at; decide +kernel
theorem dX8_notes_46 : dc_at mX8_notes 46 (.sipush 3593) 3 := by unfold dc_at; decide +kernel
theorem dX8_notes_49 : dc_at mX8_notes 49 (.iaload) 1 := by unfold dc_at; decide +kernel
theorem dX8_notes_50 : dc_at mX8_notes 50 (.iastore) 1 := by unfold dc_at; decide +kernel
theorem dX8_notes_51 : dc_at mX8_notes 51 (.aload_n 0) 1 := by unfold dc_at; decide +kernel
theorem dX8_notes_52 : dc_at mX8_notes 52 (.getfield 13) 3 := by unfold dc_at; decide +kernel
theorem dX8_notes_55 : dc_at mX8_notes 55 (.sipush 3529) 3 := by unfold dc_at; decide +kernel
theorem dX8_notes_58 : dc_at mX8_notes 58 (.iload_n 1) 1 := by unfold dc_at; decide +kernel
theorem dX8_notes_59 : dc_at mX8_notes 59 (.iastore) 1 := by unfold dc_at; decide +kernel
theorem dX8_notes_60 : dc_at mX8_notes 60 (.aload_n 0) 1 := by unfold dc_at; decide +kernel
theorem dX8_notes_61 : dc_at mX8_notes 61 (.getfield 13) 3 := by unfold dc_at; decide +kernel
theorem dX8_notes_64 : dc_at mX8_notes 64 (.sipush 3530) 3 := by unfold dc_at; decide +kernel
theorem dX8_notes_67 : dc_at mX8_notes 67 (.iload_n 2) 1 := by unfold dc_at; decide +kernel
theorem dX8_notes_68 : dc_at mX8_notes 68 (.iastore) 1 := by unfold dc_at; decide +kernel
theorem dX8_notes_69 : dc_at mX8_notes 69 (.aload_n 0) 1 := by unfold dc_at; decide +kernel
theorem dX8_notes_70 : dc_at mX8_notes 70 (.getfield 13) 3 := by unfold dc_at; decide +kernel
theorem dX8_notes_73 : dc_at mX8_notes 73 (.sipush 3531) 3 := by unfold dc_at; decide +kernel
theorem dX8_notes_76 : dc_at mX8_notes 76 (.iload_n 3) 1 := by unfold dc_at; decide +kernel
theorem dX8_notes_77 : dc_at mX8_notes 77 (.iastore) 1 := by unfold dc_at; decide +kernel
theorem dX8_notes_78 : dc_at mX8_notes 78 (.aload_n 0) 1 := by unfold dc_at; decide +kernel
theorem dX8_notes_79 : dc_at mX8_notes 79 (.getfield 13) 3 := by unfold dc_at; decide +kernel
theorem dX8_notes_82 : dc_at mX8_notes 82 (.sipush 3592) 3 := by unfold dc_at; decide +kernel
theorem dX8_notes_85 : dc_at mX8_notes 85 (.aload_n 0) 1 := by unfold dc_at; decide +kernel
theorem dX8_notes_86 : dc_at mX8_notes 86 (.getfield 13) 3 := by unfold dc_at; decide +kernel
theorem dX8_notes_89 : dc_at mX8_notes 89 (.sipush 3592) 3 := by unfold dc_at; decide +kernel
theorem dX8_notes_92 : dc_at mX8_notes 92 (.iaload) 1 := by unfold dc_at; decide +kernel
theorem dX8_notes_93 : dc_at mX8_notes 93 (.bipush 16) 2 := by unfold dc_at; decide +kernel
theorem dX8_notes_95 : dc_at mX8_notes 95 (.if_icmp .ge 16) 3 := by unfold dc_at; decide +kernel
theorem dX8_notes_98 : dc_at mX8_notes 98 (.aload_n 0) 1 := by unfold dc_at; decide +kernel
theorem dX8_notes_99 : dc_at mX8_notes 99 (.getfield 13) 3 := by unfold dc_at; decide +kernel
theorem dX8_notes_102 : dc_at mX8_notes 102 (.sipush 3592) 3 := by unfold dc_at; decide +kernel
theorem dX8_notes_105 : dc_at mX8_notes 105 (.iaload) 1 := by unfold dc_at; decide +kernel
theorem dX8_notes_106 : dc_at mX8_notes 106 (.iconst 1) 1 := by unfold dc_at; decide +kernel
theorem dX8_notes_107 : dc_at mX8_notes 107 (.iadd) 1 := by unfold dc_at; decide +kernel
theorem dX8_notes_108 : dc_at mX8_notes 108 (.goto 5) 3 := by unfold dc_at; decide +kernel
theorem dX8_notes_111 : dc_at mX8_notes 111 (.bipush 16) 2 := by unfold dc_at; decide +kernel
theorem dX8_notes_113 : dc_at mX8_notes 113 (.iastore) 1 := by unfold dc_at; decide +kernel
theorem dX8_notes_114 : dc_at mX8_notes 114 (.aload_n 0) 1 := by unfold dc_at; decide +kernel
theorem dX8_notes_115 : dc_at mX8_notes 115 (.dup) 1 := by unfold dc_at; decide +kernel
theorem dX8_notes_116 : dc_at mX8_notes 116 (.getfield 121) 3 := by unfold dc_at; decide +kernel
theorem dX8_notes_119 : dc_at mX8_notes 119 (.iconst 1) 1 := by unfold dc_at; decide +kernel
theorem dX8_notes_120 : dc_at mX8_notes 120 (.iadd) 1 := by unfold dc_at; decide +kernel
theorem dX8_notes_121 : dc_at mX8_notes 121 (.putfield 121) 3 := by unfold dc_at; decide +kernel
theorem dX8_notes_124 : dc_at mX8_notes 124 (.return_) 1 := by unfold dc_at; decide +kernel
theorem dX8_tick_0 : dc_at mX8_tick 0 (.aload_n 0) 1 := by unfold dc_at; decide +kernel
theorem dX8_tick_1 : dc_at mX8_tick 1 (.getfield 13) 3 := by unfold dc_at; decide +kernel
theorem dX8_tick_4 : dc_at mX8_tick 4 (.sipush 3593) 3 := by unfold dc_at; decide +kernel
theorem dX8_tick_7 : dc_at mX8_tick 7 (.dup2) 1 := by unfold dc_at; decide +kernel
theorem dX8_tick_8 : dc_at mX8_tick 8 (.iaload) 1 := by unfold dc_at; decide +kernel
theorem dX8_tick_9 : dc_at mX8_tick 9 (.iconst 1) 1 := by unfold dc_at; decide +kernel
theorem dX8_tick_10 : dc_at mX8_tick 10 (.iadd) 1 := by unfold dc_at; decide +kernel
theorem dX8_tick_11 : dc_at mX8_tick 11 (.iastore) 1 := by unfold dc_at; decide +kernel
theorem dX8_tick_12 : dc_at mX8_tick 12 (.aload_n 0) 1 := by unfold dc_at; decide +kernel
theorem dX8_tick_13 : dc_at mX8_tick 13 (.invokevirtual 124) 3 := by unfold dc_at; decide +kernel
theorem dX8_tick_16 : dc_at mX8_tick 16 (.iconst 0) 1 := by unfold dc_at; decide +kernel
theorem dX8_tick_17 : dc_at mX8_tick 17 (.istore_n 1) 1 := by unfold dc_at; decide +kernel
theorem dX8_tick_18 : dc_at mX8_tick 18 (.iload_n 1) 1 := by unfold dc_at; decide +kernel
theorem dX8_tick_19 : dc_at mX8_tick 19 (.aload_n 0) 1 := by unfold dc_at; decide +kernel
theorem dX8_tick_20 : dc_at mX8_tick 20 (.getfield 7) 3 := by unfold dc_at; decide +kernel
theorem dX8_tick_23 : dc_at mX8_tick 23 (.if_icmp .ge 59) 3 := by unfold dc_at; decide +kernel
theorem dX8_tick_26 : dc_at mX8_tick 26 (.aload_n 0) 1 := by unfold dc_at; decide +kernel
theorem dX8_tick_27 : dc_at mX8_tick 27 (.getfield 41) 3 := by unfold dc_at; decide +kernel
theorem dX8_tick_30 : dc_at mX8_tick 30 (.iload_n 1) 1 := by unfold dc_at; decide +kernel
theorem dX8_tick_31 : dc_at mX8_tick 31 (.aload_n 0) 1 := by unfold dc_at; decide +kernel
theorem dX8_tick_32 : dc_at mX8_tick 32 (.getfield 13) 3 := by unfold dc_at; decide +kernel
theorem dX8_tick_35 : dc_at mX8_tick 35 (.sipush 3593) 3 := by unfold dc_at; decide +kernel
theorem dX8_tick_38 : dc_at mX8_tick 38 (.iaload) 1 := by unfold dc_at; decide +kernel
theorem dX8_tick_39 : dc_at mX8_tick 39 (.iload_n 1) 1 := by unfold dc_at; decide +kernel
theorem dX8_tick_40 : dc_at mX8_tick 40 (.iadd) 1 := by unfold dc_at; decide +kernel
theorem dX8_tick_41 : dc_at mX8_tick 41 (.aload_n 0) 1 := by unfold dc_at; decide +kernel
theorem dX8_tick_42 : dc_at mX8_tick 42 (.getfield 23) 3 := by unfold dc_at; decide +kernel
theorem dX8_tick_45 : dc_at mX8_tick 45 (.iconst 0) 1 := by unfold dc_at; decide +kernel
theorem dX8_tick_46 : dc_at mX8_tick 46 (.iaload) 1 := by unfold dc_at; decide +kernel
theorem dX8_tick_47 : dc_at mX8_tick 47 (.irem) 1 := by unfold dc_at; decide +kernel
theorem dX8_tick_48 : dc_at mX8_tick 48 (.ifCond .eq 22) 3 := by unfold dc_at; decide +kernel
theorem dX8_tick_51 : dc_at mX8_tick 51 (.aload_n 0) 1 := by unfold dc_at; decide +kernel
theorem dX8_tick_52 : dc_at mX8_tick 52 (.getfield 23) 3 := by unfold dc_at; decide +kernel
theorem dX8_tick_55 : dc_at mX8_tick 55 (.bipush 7) 2 := by unfold dc_at; decide +kernel
theorem dX8_tick_57 : dc_at mX8_tick 57 (.iaload) 1 := by unfold dc_at; decide +kernel
theorem dX8_tick_58 : dc_at mX8_tick 58 (.iconst 1) 1 := by unfold dc_at; decide +kernel
theorem dX8_tick_59 : dc_at mX8_tick 59 (.if_icmp .ne 15) 3 := by unfold dc_at; decide +kernel
theorem dX8_tick_62 : dc_at mX8_tick 62 (.aload_n 0) 1 := by unfold dc_at; decide +kernel
theorem dX8_tick_63 : dc_at mX8_tick 63 (.iload_n 1) 1 := by unfold dc_at; decide +kernel
theorem dX8_tick_64 : dc_at mX8_tick 64 (.invokevirtual 127) 3 := by unfold dc_at; decide +kernel
theorem dX8_tick_67 : dc_at mX8_tick 67 (.ifCond .eq 7) 3 := by unfold dc_at; decide +kernel
theorem dX8_tick_70 : dc_at mX8_tick 70 (.iconst 1) 1 := by unfold dc_at; decide +kernel
theorem dX8_tick_71 : dc_at mX8_tick 71 (.goto 4) 3 := by unfold dc_at; decide +kernel
theorem dX8_tick_74 : dc_at mX8_tick 74 (.iconst 0) 1 := by unfold dc_at; decide +kernel
theorem dX8_tick_75 : dc_at mX8_tick 75 (.bastore) 1 := by unfold dc_at; decide +kernel
theorem dX8_tick_76 : dc_at mX8_tick 76 (.iinc 1 1) 3 := by unfold dc_at; decide +kernel
theorem dX8_tick_79 : dc_at mX8_tick 79 (.goto (-61)) 3 := by unfold dc_at; decide +kernel
theorem dX8_tick_82 : dc_at mX8_tick 82 (.iconst 0) 1 := by unfold dc_at; decide +kernel
theorem dX8_tick_83 : dc_at mX8_tick 83 (.istore_n 1) 1 := by unfold dc_at; decide +kernel
theorem dX8_tick_84 : dc_at mX8_tick 84 (.iload_n 1) 1 := by unfold dc_at; decide +kernel
theorem dX8_tick_85 : dc_at mX8_tick 85 (.aload_n 0) 1 := by unfold dc_at; decide +kernel
theorem dX8_tick_86 : dc_at mX8_tick 86 (.getfield 7) 3 := by unfold dc_at; decide +kernel
theorem dX8_tick_89 : dc_at mX8_tick 89 (.if_icmp .ge 28) 3 := by unfold dc_at; decide +kernel
theorem dX8_tick_92 : dc_at mX8_tick 92 (.aload_n 0) 1 := by unfold dc_at; decide +kernel
theorem dX8_tick_93 : dc_at mX8_tick 93 (.getfield 41) 3 := by unfold dc_at; decide +kernel
theorem dX8_tick_96 : dc_at mX8_tick 96 (.iload_n 1) 1 := by unfold dc_at; decide +kernel
theorem dX8_tick_97 : dc_at mX8_tick 97 (.baload) 1 := by unfold dc_at; decide +kernel
theorem dX8_tick_98 : dc_at mX8_tick 98 (.ifCond .eq 13) 3 := by unfold dc_at; decide +kernel
theorem dX8_tick_101 : dc_at mX8_tick 101 (.aload_n 0) 1 := by unfold dc_at; decide +kernel
theorem dX8_tick_102 : dc_at mX8_tick 102 (.iload_n 1) 1 := by unfold dc_at; decide +kernel
theorem dX8_tick_103 : dc_at mX8_tick 103 (.invokevirtual 130) 3 := by unfold dc_at; decide +kernel
theorem dX8_tick_106 : dc_at mX8_tick 106 (.aload_n 0) 1 := by unfold dc_at; decide +kernel
theorem dX8_tick_107 : dc_at mX8_tick 107 (.iload_n 1) 1 := by unfold dc_at; decide +kernel
theorem dX8_tick_108 : dc_at mX8_tick 108 (.invokevirtual 134) 3 := by unfold dc_at; decide +kernel
theorem dX8_tick_111 : dc_at mX8_tick 111 (.iinc 1 1) 3 := by unfold dc_at; decide +kernel
theorem dX8_tick_114 : dc_at mX8_tick 114 (.goto (-30)) 3 := by unfold dc_at; decide +kernel
theorem dX8_tick_117 : dc_at mX8_tick 117 (.aload_n 0) 1 := by unfold dc_at; decide +kernel
theorem dX8_tick_118 : dc_at mX8_tick 118 (.iconst 0) 1 := by unfold dc_at; decide +kernel
theorem dX8_tick_119 : dc_at mX8_tick 119 (.putfield 121) 3 := by unfold dc_at; decide +kernel
theorem dX8_tick_122 : dc_at mX8_tick 122 (.iconst 0) 1 := by unfold dc_at; decide +kernel
theorem dX8_tick_123 : dc_at mX8_tick 123 (.istore_n 1) 1 := by unfold dc_at; decide +kernel
theorem dX8_tick_124 : dc_at mX8_tick 124 (.iload_n 1) 1 := by unfold dc_at; decide +kernel
theorem dX8_tick_125 : dc_at mX8_tick 125 (.aload_n 0) 1 := by unfold dc_at; decide +kernel
theorem dX8_tick_126 : dc_at mX8_tick 126 (.getfield 7) 3 := by unfold dc_at; decide +kernel
theorem dX8_tick_129 : dc_at mX8_tick 129 (.if_icmp .ge 74) 3 := by unfold dc_at; decide +kernel
theorem dX8_tick_132 : dc_at mX8_tick 132 (.iconst 0) 1 := by unfold dc_at; decide +kernel
theorem dX8_tick_133 : dc_at mX8_tick 133 (.istore_n 2) 1 := by unfold dc_at; decide +kernel
theorem dX8_tick_134 : dc_at mX8_tick 134 (.iload_n 2) 1 := by unfold dc_at; decide +kernel
theorem dX8_tick_135 : dc_at mX8_tick 135 (.aload_n 0) 1 := by unfold dc_at; decide +kernel
theorem dX8_tick_136 : dc_at mX8_tick 136 (.getfield 7) 3 := by unfold dc_at; decide +kernel
theorem dX8_tick_139 : dc_at mX8_tick 139 (.if_icmp .ge 58) 3 := by unfold dc_at; decide +kernel
theorem dX8_tick_142 : dc_at mX8_tick 142 (.aload_n 0) 1 := by unfold dc_at; decide +kernel
theorem dX8_tick_143 : dc_at mX8_tick 143 (.iload_n 1) 1 := by unfold dc_at; decide +kernel
theorem dX8_tick_144 : dc_at mX8_tick 144 (.iload_n 2) 1 := by unfold dc_at; decide +kernel
theorem dX8_tick_145 : dc_at mX8_tick 145 (.invokevirtual 107) 3 := by unfold dc_at; decide +kernel
theorem dX8_tick_148 : dc_at mX8_tick 148 (.istore_n 3) 1 := by unfold dc_at; decide +kernel
theorem dX8_tick_149 : dc_at mX8_tick 149 (.aload_n 0) 1 := by unfold dc_at; decide +kernel
theorem dX8_tick_150 : dc_at mX8_tick 150 (.getfield 13) 3 := by unfold dc_at; decide +kernel
theorem dX8_tick_153 : dc_at mX8_tick 153 (.sipush 3464) 3 := by unfold dc_at; decide +kernel
theorem dX8_tick_156 : dc_at mX8_tick 156 (.bipush 8) 2 := by unfold dc_at; decide +kernel
theorem dX8_tick_158 : dc_at mX8_tick 158 (.iload_n 1) 1 := by unfold dc_at; decide +kernel
theorem dX8_tick_159 : dc_at mX8_tick 159 (.imul) 1 := by unfold dc_at; decide +kernel
theorem dX8_tick_160 : dc_at mX8_tick 160 (.iadd) 1 := by unfold dc_at; decide +kernel
theorem dX8_tick_161 : dc_at mX8_tick 161 (.iload_n 2) 1 := by unfold dc_at; decide +kernel
theorem dX8_tick_162 : dc_at mX8_tick 162 (.iadd) 1 := by unfold dc_at; decide +kernel
theorem dX8_tick_163 : dc_at mX8_tick 163 (.iaload) 1 := by unfold dc_at; decide +kernel
theorem dX8_tick_164 : dc_at mX8_tick 164 (.iload_n 3) 1 := by unfold dc_at; decide +kernel
theorem dX8_tick_165 : dc_at mX8_tick 165 (.if_icmp .eq 26) 3 := by unfold dc_at; decide +kernel
theorem dX8_tick_168 : dc_at mX8_tick 168 (.aload_n 0) 1 := by unfold dc_at; decide +kernel
theorem dX8_tick_169 : dc_at mX8_tick 169 (.getfield 13) 3 := by unfold dc_at; decide +kernel
theorem dX8_tick_172 : dc_at mX8_tick 172 (.sipush 3464) 3 := by unfold dc_at; decide +kernel
theorem dX8_tick_175 : dc_at mX8_tick 175 (.bipush 8) 2 := by unfold dc_at; decide +kernel
theorem dX8_tick_177 : dc_at mX8_tick 177 (.iload_n 1) 1 := by unfold dc_at; decide +kernel
theorem dX8_tick_178 : dc_at mX8_tick 178 (.imul) 1 := by unfold dc_at; decide +kernel
theorem dX8_tick_179 : dc_at mX8_tick 179 (.iadd) 1 := by unfold dc_at; decide +kernel
theorem dX8_tick_180 : dc_at mX8_tick 180 (.iload_n 2) 1 := by unfold dc_at; decide +kernel
theorem dX8_tick_181 : dc_at mX8_tick 181 (.iadd) 1 := by unfold dc_at; decide +kernel
theorem dX8_tick_182 : dc_at mX8_tick 182 (.iload_n 3) 1 := by unfold dc_at; decide +kernel
theorem dX8_tick_183 : dc_at mX8_tick 183 (.iastore) 1 := by unfold dc_at; decide +kernel
theorem dX8_tick_184 : dc_at mX8_tick 184 (.aload_n 0) 1 := by unfold dc_at; decide +kernel
theorem dX8_tick_185 : dc_at mX8_tick 185 (.iload_n 1) 1 := by unfold dc_at; decide +kernel
theorem dX8_tick_186 : dc_at mX8_tick 186 (.iload_n 2) 1 := by unfold dc_at; decide +kernel
theorem dX8_tick_187 : dc_at mX8_tick 187 (.iload_n 3) 1 := by unfold dc_at; decide +kernel
theorem dX8_tick_188 : dc_at mX8_tick 188 (.invokevirtual 137) 3 := by unfold dc_at; decide +kernel
theorem dX8_tick_191 : dc_at mX8_tick 191 (.iinc 2 1) 3 := by unfold dc_at; decide +kernel
theorem dX8_tick_194 : dc_at mX8_tick 194 (.goto (-60)) 3 := by unfold dc_at; decide +kernel
theorem dX8_tick_197 : dc_at mX8_tick 197 (.iinc 1 1) 3 := by unfold dc_at; decide +kernel
theorem dX8_tick_200 : dc_at mX8_tick 200 (.goto (-76)) 3 := by unfold dc_at; decide +kernel
theorem dX8_tick_203 : dc_at mX8_tick 203 (.return_) 1 := by unfold dc_at; decide +kernel
theorem dX8_run_0 : dc_at mX8_run 0 (.iload_n 1) 1 := by unfold dc_at; decide +kernel
theorem dX8_run_1 : dc_at mX8_run 1 (.iconst 1) 1 := by unfold dc_at; decide +kernel
theorem dX8_run_2 : dc_at mX8_run 2 (.sipush 200) 3 := by unfold dc_at; decide +kernel
theorem dX8_run_5 : dc_at mX8_run 5 (.invokestatic 54) 3 := by unfold dc_at; decide +kernel
theorem dX8_run_8 : dc_at mX8_run 8 (.ifCond .ne 5) 3 := by unfold dc_at; decide +kernel
theorem dX8_run_11 : dc_at mX8_run 11 (.iconst (-1)) 1 := by unfold dc_at; decide +kernel
theorem dX8_run_12 : dc_at mX8_run 12 (.ireturn) 1 := by unfold dc_at; decide +kernel
theorem dX8_run_13 : dc_at mX8_run 13 (.aload_n 0) 1 := by unfold dc_at; decide +kernel
theorem dX8_run_14 : dc_at mX8_run 14 (.getfield 13) 3 := by unfold dc_at; decide +kernel
theorem dX8_run_17 : dc_at mX8_run 17 (.sipush 3593) 3 := by unfold dc_at; decide +kernel
theorem dX8_run_20 : dc_at mX8_run 20 (.iaload) 1 := by unfold dc_at; decide +kernel
theorem dX8_run_21 : dc_at mX8_run 21 (.iload_n 1) 1 := by unfold dc_at; decide +kernel
theorem dX8_run_22 : dc_at mX8_run 22 (.iadd) 1 := by unfold dc_at; decide +kernel
theorem dX8_run_23 : dc_at mX8_run 23 (.ldc 141) 2 := by unfold dc_at; decide +kernel
theorem dX8_run_25 : dc_at mX8_run 25 (.if_icmp .le 6) 3 := by unfold dc_at; decide +kernel
theorem dX8_run_28 : dc_at mX8_run 28 (.bipush (-3)) 2 := by unfold dc_at; decide +kernel
theorem dX8_run_30 : dc_at mX8_run 30 (.ireturn) 1 := by unfold dc_at; decide +kernel
theorem dX8_run_31 : dc_at mX8_run 31 (.iconst 0) 1 := by unfold dc_at; decide +kernel
theorem dX8_run_32 : dc_at mX8_run 32 (.istore_n 2) 1 := by unfold dc_at; decide +kernel
theorem dX8_run_33 : dc_at mX8_run 33 (.iload_n 2) 1 := by unfold dc_at; decide +kernel
theorem dX8_run_34 : dc_at mX8_run 34 (.iload_n 1) 1 := by unfold dc_at; decide +kernel
theorem dX8_run_35 : dc_at mX8_run 35 (.if_icmp .ge 13) 3 := by unfold dc_at; decide +kernel
theorem dX8_run_38 : dc_at mX8_run 38 (.aload_n 0) 1 := by unfold dc_at; decide +kernel
theorem dX8_run_39 : dc_at mX8_run 39 (.invokevirtual 142) 3 := by unfold dc_at; decide +kernel
theorem dX8_run_42 : dc_at mX8_run 42 (.iinc 2 1) 3 := by unfold dc_at; decide +kernel
theorem dX8_run_45 : dc_at mX8_run 45 (.goto (-12)) 3 := by unfold dc_at; decide +kernel
theorem dX8_run_48 : dc_at mX8_run 48 (.aload_n 0) 1 := by unfold dc_at; decide +kernel
theorem dX8_run_49 : dc_at mX8_run 49 (.getfield 13) 3 := by unfold dc_at; decide +kernel
theorem dX8_run_52 : dc_at mX8_run 52 (.sipush 3593) 3 := by unfold dc_at; decide +kernel
theorem dX8_run_55 : dc_at mX8_run 55 (.iaload) 1 := by unfold dc_at; decide +kernel
theorem dX8_run_56 : dc_at mX8_run 56 (.ireturn) 1 := by unfold dc_at; decide +kernel
theorem dX8_time_0 : dc_at mX8_time 0 (.aload_n 0) 1 := by unfold dc_at; decide +kernel
theorem dX8_time_1 : dc_at mX8_time 1 (.getfield 13) 3 := by unfold dc_at; decide +kernel
theorem dX8_time_4 : dc_at mX8_time 4 (.sipush 3593) 3 := by unfold dc_at; decide +kernel
theorem dX8_time_7 : dc_at mX8_time 7 (.iaload) 1 := by unfold dc_at; decide +kernel
theorem dX8_time_8 : dc_at mX8_time 8 (.ireturn) 1 := by unfold dc_at; decide +kernel
theorem dX8_sent_0 : dc_at mX8_sent 0 (.aload_n 0) 1 := by unfold dc_at; decide +kernel
theorem dX8_sent_1 : dc_at mX8_sent 1 (.getfield 13) 3 := by unfold dc_at; decide +kernel
theorem dX8_sent_4 : dc_at mX8_sent 4 (.sipush 3594) 3 := by unfold dc_at; decide +kernel
theorem dX8_sent_7 : dc_at mX8_sent 7 (.iaload) 1 := by unfold dc_at; decide +kernel
theorem dX8_sent_8 : dc_at mX8_sent 8 (.ireturn) 1 := by unfold dc_at; decide +kernel
theorem dX8_entry_0 : dc_at mX8_entry 0 (.aload_n 0) 1 := by unfold dc_at; decide +kernel
theorem dX8_entry_1 : dc_at mX8_entry 1 (.iload_n 1) 1 := by unfold dc_at; decide +kernel
theorem dX8_entry_2 : dc_at mX8_entry 2 (.iload_n 2) 1 := by unfold dc_at; decide +kernel
theorem dX8_entry_3 : dc_at mX8_entry 3 (.invokevirtual 74) 3 := by unfold dc_at; decide +kernel
theorem dX8_entry_6 : dc_at mX8_entry 6 (.ifCond .eq 23) 3 := by unfold dc_at; decide +kernel
theorem dX8_entry_9 : dc_at mX8_entry 9 (.aload_n 0) 1 := by unfold dc_at; decide +kernel
theorem dX8_entry_10 : dc_at mX8_entry 10 (.iload_n 1) 1 := by unfold dc_at; decide +kernel
theorem dX8_entry_11 : dc_at mX8_entry 11 (.iload_n 3) 1 := by unfold dc_at; decide +kernel
theorem dX8_entry_12 : dc_at mX8_entry 12 (.invokevirtual 74) 3 := by unfold dc_at; decide +kernel
theorem dX8_entry_15 : dc_at mX8_entry 15 (.ifCond .eq 14) 3 := by unfold dc_at; decide +kernel
theorem dX8_entry_18 : dc_at mX8_entry 18 (.iload 4) 2 := by unfold dc_at; decide +kernel
theorem dX8_entry_20 : dc_at mX8_entry 20 (.iconst 0) 1 := by unfold dc_at; decide +kernel
theorem dX8_entry_21 : dc_at mX8_entry 21 (.bipush 6) 2 := by unfold dc_at; decide +kernel
theorem dX8_entry_23 : dc_at mX8_entry 23 (.invokestatic 54) 3 := by unfold dc_at; decide +kernel
theorem dX8_entry_26 : dc_at mX8_entry 26 (.ifCond .ne 5) 3 := by unfold dc_at; decide +kernel
theorem dX8_entry_29 : dc_at mX8_entry 29 (.iconst (-1)) 1 := by unfold dc_at; decide +kernel
theorem dX8_entry_30 : dc_at mX8_entry 30 (.ireturn) 1 := by unfold dc_at; decide +kernel
theorem dX8_entry_31 : dc_at mX8_entry 31 (.aload_n 0) 1 := by unfold dc_at; decide +kernel
theorem dX8_entry_32 : dc_at mX8_entry 32 (.iload_n 1) 1 := by unfold dc_at; decide +kernel
theorem dX8_entry_33 : dc_at mX8_entry 33 (.iload_n 2) 1 := by unfold dc_at; decide +kernel
theorem dX8_entry_34 : dc_at mX8_entry 34 (.iload_n 3) 1 := by unfold dc_at; decide +kernel
theorem dX8_entry_35 : dc_at mX8_entry 35 (.invokevirtual 88) 3 := by unfold dc_at; decide +kernel
theorem dX8_entry_38 : dc_at mX8_entry 38 (.ifCond .ne 6) 3 := by unfold dc_at; decide +kernel
theorem dX8_entry_41 : dc_at mX8_entry 41 (.bipush (-4)) 2 := by unfold dc_at; decide +kernel
theorem dX8_entry_43 : dc_at mX8_entry 43 (.ireturn) 1 := by unfold dc_at; decide +kernel
theorem dX8_entry_44 : dc_at mX8_entry 44 (.iload 4) 2 := by unfold dc_at; decide +kernel
theorem dX8_entry_46 : dc_at mX8_entry 46 (.iconst 5) 1 := by unfold dc_at; decide +kernel
theorem dX8_entry_47 : dc_at mX8_entry 47 (.if_icmp .ge 17) 3 := by unfold dc_at; decide +kernel
theorem dX8_entry_50 : dc_at mX8_entry 50 (.aload_n 0) 1 := by unfold dc_at; decide +kernel
theorem dX8_entry_51 : dc_at mX8_entry 51 (.iload_n 1) 1 := by unfold dc_at; decide +kernel
theorem dX8_entry_52 : dc_at mX8_entry 52 (.iload_n 2) 1 := by unfold dc_at; decide +kernel
theorem dX8_entry_53 : dc_at mX8_entry 53 (.iload_n 3) 1 := by unfold dc_at; decide +kernel
theorem dX8_entry_54 : dc_at mX8_entry 54 (.iload 4) 2 := by unfold dc_at; decide +kernel
theorem dX8_entry_56 : dc_at mX8_entry 56 (.iconst 1) 1 := by unfold dc_at; decide +kernel
theorem dX8_entry_57 : dc_at mX8_entry 57 (.iadd) 1 := by unfold dc_at; decide +kernel
theorem dX8_entry_58 : dc_at mX8_entry 58 (.invokevirtual 85) 3 := by unfold dc_at; decide +kernel
theorem dX8_entry_61 : dc_at mX8_entry 61 (.goto 42) 3 := by unfold dc_at; decide +kernel
theorem dX8_entry_64 : dc_at mX8_entry 64 (.iload 4) 2 := by unfold dc_at; decide +kernel
theorem dX8_entry_66 : dc_at mX8_entry 66 (.iconst 5) 1 := by unfold dc_at; decide +kernel
theorem dX8_entry_67 : dc_at mX8_entry 67 (.if_icmp .ne 21) 3 := by unfold dc_at; decide +kernel
theorem dX8_entry_70 : dc_at mX8_entry 70 (.aload_n 0) 1 := by unfold dc_at; decide +kernel
theorem dX8_entry_71 : dc_at mX8_entry 71 (.iload_n 1) 1 := by unfold dc_at; decide +kernel
theorem dX8_entry_72 : dc_at mX8_entry 72 (.iload_n 2) 1 := by unfold dc_at; decide +kernel
theorem dX8_entry_73 : dc_at mX8_entry 73 (.iload_n 3) 1 := by unfold dc_at; decide +kernel
theorem dX8_entry_74 : dc_at mX8_entry 74 (.invokevirtual 94) 3 := by unfold dc_at; decide +kernel
theorem dX8_entry_77 : dc_at mX8_entry 77 (.ifCond .eq 7) 3 := by unfold dc_at; decide +kernel
theorem dX8_entry_80 : dc_at mX8_entry 80 (.iconst 1) 1 := by unfold dc_at; decide +kernel
theorem dX8_entry_81 : dc_at mX8_entry 81 (.goto 22) 3 := by unfold dc_at; decide +kernel
theorem dX8_entry_84 : dc_at mX8_entry 84 (.iconst 0) 1 := by unfold dc_at; decide +kernel
theorem dX8_entry_85 : dc_at mX8_entry 85 (.goto 18) 3 := by unfold dc_at; decide +kernel
theorem dX8_entry_88 : dc_at mX8_entry 88 (.aload_n 0) 1 := by unfold dc_at; decide +kernel
theorem dX8_entry_89 : dc_at mX8_entry 89 (.iload_n 1) 1 := by unfold dc_at; decide +kernel
theorem dX8_entry_90 : dc_at mX8_entry 90 (.iload_n 2) 1 := by unfold dc_at; decide +kernel
theorem dX8_entry_91 : dc_at mX8_entry 91 (.iload_n 3) 1 := by unfold dc_at; decide +kernel
theorem dX8_entry_92 : dc_at mX8_entry 92 (.invokevirtual 145) 3 := by unfold dc_at; decide +kernel
theorem dX8_entry_95 : dc_at mX8_entry 95 (.ifCond .eq 7) 3 := by unfold dc_at; decide +kernel
theorem dX8_entry_98 : dc_at mX8_entry 98 (.iconst 1) 1 := by unfold dc_at; decide +kernel
theorem dX8_entry_99 : dc_at mX8_entry 99 (.goto 4) 3 := by unfold dc_at; decide +kernel
theorem dX8_entry_102 : dc_at mX8_entry 102 (.iconst 0) 1 := by unfold dc_at; decide +kernel
theorem dX8_entry_103 : dc_at mX8_entry 103 (.ireturn) 1 := by unfold dc_at; decide +kernel
theorem dX8_distance_0 : dc_at mX8_distance 0 (.aload_n 0) 1 := by unfold dc_at; decide +kernel
theorem dX8_distance_1 : dc_at mX8_distance 1 (.iload_n 1) 1 := by unfold dc_at; decide +kernel
theorem dX8_distance_2 : dc_at mX8_distance 2 (.invokevirtual 58) 3 := by unfold dc_at; decide +kernel
theorem dX8_distance_5 : dc_at mX8_distance 5 (.ifCond .eq 20) 3 := by unfold dc_at; decide +kernel
theorem dX8_distance_8 : dc_at mX8_distance 8 (.aload_n 0) 1 := by unfold dc_at; decide +kernel
theorem dX8_distance_9 : dc_at mX8_distance 9 (.iload_n 2) 1 := by unfold dc_at; decide +kernel
theorem dX8_distance_10 : dc_at mX8_distance 10 (.invokevirtual 58) 3 := by unfold dc_at; decide +kernel
theorem dX8_distance_13 : dc_at mX8_distance 13 (.ifCond .eq 12) 3 := by unfold dc_at; decide +kernel
theorem dX8_distance_16 : dc_at mX8_distance 16 (.iload_n 3) 1 := by unfold dc_at; decide +kernel
theorem dX8_distance_17 : dc_at mX8_distance 17 (.iconst 0) 1 := by unfold dc_at; decide +kernel
theorem dX8_distance_18 : dc_at mX8_distance 18 (.iconst 1) 1 := by unfold dc_at; decide +kernel
theorem dX8_distance_19 : dc_at mX8_distance 19 (.invokestatic 54) 3 := by unfold dc_at; decide +kernel
theorem dX8_distance_22 : dc_at mX8_distance 22 (.ifCond .ne 5) 3 := by unfold dc_at; decide +kernel
theorem dX8_distance_25 : dc_at mX8_distance 25 (.iconst (-1)) 1 := by unfold dc_at; decide +kernel
theorem dX8_distance_26 : dc_at mX8_distance 26 (.ireturn) 1 := by unfold dc_at; decide +kernel
theorem dX8_distance_27 : dc_at mX8_distance 27 (.aload_n 0) 1 := by unfold dc_at; decide +kernel
theorem dX8_distance_28 : dc_at mX8_distance 28 (.iload_n 1) 1 := by unfold dc_at; decide +kernel
theorem dX8_distance_29 : dc_at mX8_distance 29 (.iload_n 2) 1 := by unfold dc_at; decide +kernel
theorem dX8_distance_30 : dc_at mX8_distance 30 (.iload_n 3) 1 := by unfold dc_at; decide +kernel
theorem dX8_distance_31 : dc_at mX8_distance 31 (.iconst 1) 1 := by unfold dc_at; decide +kernel
theorem dX8_distance_32 : dc_at mX8_distance 32 (.iadd) 1 := by unfold dc_at; decide +kernel
theorem dX8_distance_33 : dc_at mX8_distance 33 (.invokevirtual 104) 3 := by unfold dc_at; decide +kernel
theorem dX8_distance_36 : dc_at mX8_distance 36 (.istore 4) 2 := by unfold dc_at; decide +kernel
theorem dX8_distance_38 : dc_at mX8_distance 38 (.iload 4) 2 := by unfold dc_at; decide +kernel
theorem dX8_distance_40 : dc_at mX8_distance 40 (.ifCond .ge 8) 3 := by unfold dc_at; decide +kernel
theorem dX8_distance_43 : dc_at mX8_distance 43 (.bipush (-4)) 2 := by unfold dc_at; decide +kernel
theorem dX8_distance_45 : dc_at mX8_distance 45 (.goto 5) 3 := by unfold dc_at; decide +kernel
theorem dX8_distance_48 : dc_at mX8_distance 48 (.iload 4) 2 := by unfold dc_at; decide +kernel
theorem dX8_distance_50 : dc_at mX8_distance 50 (.ireturn) 1 := by unfold dc_at; decide +kernel
theorem dX8_choice_0 : dc_at mX8_choice 0 (.aload_n 0) 1 := by unfold dc_at; decide +kernel
theorem dX8_choice_1 : dc_at mX8_choice 1 (.iload_n 1) 1 := by unfold dc_at; decide +kernel
theorem dX8_choice_2 : dc_at mX8_choice 2 (.iload_n 2) 1 := by unfold dc_at; decide +kernel
theorem dX8_choice_3 : dc_at mX8_choice 3 (.invokevirtual 74) 3 := by unfold dc_at; decide +kernel
theorem dX8_choice_6 : dc_at mX8_choice 6 (.ifCond .ne 5) 3 := by unfold dc_at; decide +kernel
theorem dX8_choice_9 : dc_at mX8_choice 9 (.iconst (-1)) 1 := by unfold dc_at; decide +kernel
theorem dX8_choice_10 : dc_at mX8_choice 10 (.ireturn) 1 := by unfold dc_at; decide +kernel
theorem dX8_choice_11 : dc_at mX8_choice 11 (.aload_n 0) 1 := by unfold dc_at; decide +kernel
theorem dX8_choice_12 : dc_at mX8_choice 12 (.iload_n 1) 1 := by unfold dc_at; decide +kernel
theorem dX8_choice_13 : dc_at mX8_choice 13 (.iload_n 2) 1 := by unfold dc_at; decide +kernel
theorem dX8_choice_14 : dc_at mX8_choice 14 (.invokevirtual 107) 3 := by unfold dc_at; decide +kernel
theorem dX8_choice_17 : dc_at mX8_choice 17 (.istore_n 3) 1 := by unfold dc_at; decide +kernel
theorem dX8_choice_18 : dc_at mX8_choice 18 (.iload_n 3) 1 := by unfold dc_at; decide +kernel
theorem dX8_choice_19 : dc_at mX8_choice 19 (.ifCond .ge 8) 3 := by unfold dc_at; decide +kernel
theorem dX8_choice_22 : dc_at mX8_choice 22 (.bipush (-4)) 2 := by unfold dc_at; decide +kernel
theorem dX8_choice_24 : dc_at mX8_choice 24 (.goto 4) 3 := by unfold dc_at; decide +kernel
theorem dX8_choice_27 : dc_at mX8_choice 27 (.iload_n 3) 1 := by unfold dc_at; decide +kernel
theorem dX8_choice_28 : dc_at mX8_choice 28 (.ireturn) 1 := by unfold dc_at; decide +kernel
theorem dX8_entries_0 : dc_at mX8_entries 0 (.aload_n 0) 1 := by unfold dc_at; decide +kernel
theorem dX8_entries_1 : dc_at mX8_entries 1 (.iload_n 1) 1 := by unfold dc_at; decide +kernel
theorem dX8_entries_2 : dc_at mX8_entries 2 (.iload_n 2) 1 := by unfold dc_at; decide +kernel
theorem dX8_entries_3 : dc_at mX8_entries 3 (.invokevirtual 74) 3 := by unfold dc_at; decide +kernel
theorem dX8_entries_6 : dc_at mX8_entries 6 (.ifCond .eq 12) 3 := by unfold dc_at; decide +kernel
theorem dX8_entries_9 : dc_at mX8_entries 9 (.iload_n 3) 1 := by unfold dc_at; decide +kernel
theorem dX8_entries_10 : dc_at mX8_entries 10 (.iconst 0) 1 := by unfold dc_at; decide +kernel
theorem dX8_entries_11 : dc_at mX8_entries 11 (.iconst 3) 1 := by unfold dc_at; decide +kernel
theorem dX8_entries_12 : dc_at mX8_entries 12 (.invokestatic 54) 3 := by unfold dc_at; decide +kernel
theorem dX8_entries_15 : dc_at mX8_entries 15 (.ifCond .ne 5) 3 := by unfold dc_at; decide +kernel
theorem dX8_entries_18 : dc_at mX8_entries 18 (.iconst (-1)) 1 := by unfold dc_at; decide +kernel
theorem dX8_entries_19 : dc_at mX8_entries 19 (.ireturn) 1 := by unfold dc_at; decide +kernel
theorem dX8_entries_20 : dc_at mX8_entries 20 (.iconst 0) 1 := by unfold dc_at; decide +kernel
theorem dX8_entries_21 : dc_at mX8_entries 21 (.istore 4) 2 := by unfold dc_at; decide +kernel
theorem dX8_entries_23 : dc_at mX8_entries 23 (.iconst 0) 1 := by unfold dc_at; decide +kernel
theorem dX8_entries_24 : dc_at mX8_entries 24 (.istore 5) 2 := by unfold dc_at; decide +kernel
theorem dX8_entries_26 : dc_at mX8_entries 26 (.iload 5) 2 := by unfold dc_at; decide +kernel
theorem dX8_entries_28 : dc_at mX8_entries 28 (.aload_n 0) 1 := by unfold dc_at; decide +kernel
theorem dX8_entries_29 : dc_at mX8_entries 29 (.getfield 7) 3 := by unfold dc_at; decide +kernel
theorem dX8_entries_32 : dc_at mX8_entries 32 (.if_icmp .ge 121) 3 := by unfold dc_at; decide +kernel
theorem dX8_entries_35 : dc_at mX8_entries 35 (.iload 5) 2 := by unfold dc_at; decide +kernel
theorem dX8_entries_37 : dc_at mX8_entries 37 (.iload_n 1) 1 := by unfold dc_at; decide +kernel
theorem dX8_entries_38 : dc_at mX8_entries 38 (.if_icmp .eq 18) 3 := by unfold dc_at; decide +kernel
theorem dX8_entries_41 : dc_at mX8_entries 41 (.aload_n 0) 1 := by unfold dc_at; decide +kernel
theorem dX8_entries_42 : dc_at mX8_entries 42 (.iload_n 1) 1 := by unfold dc_at; decide +kernel
theorem dX8_entries_43 : dc_at mX8_entries 43 (.iload_n 2) 1 := by unfold dc_at; decide +kernel
theorem dX8_entries_44 : dc_at mX8_entries 44 (.iload 5) 2 := by unfold dc_at; decide +kernel
theorem dX8_entries_46 : dc_at mX8_entries 46 (.invokevirtual 88) 3 := by unfold dc_at; decide +kernel
theorem dX8_entries_49 : dc_at mX8_entries 49 (.ifCond .eq 7) 3 := by unfold dc_at; decide +kernel
theorem dX8_entries_52 : dc_at mX8_entries 52 (.iconst 1) 1 := by unfold dc_at; decide +kernel
theorem dX8_entries_53 : dc_at mX8_entries 53 (.goto 4) 3 := by unfold dc_at; decide +kernel
theorem dX8_entries_56 : dc_at mX8_entries 56 (.iconst 0) 1 := by unfold dc_at; decide +kernel
theorem dX8_entries_57 : dc_at mX8_entries 57 (.istore 6) 2 := by unfold dc_at; decide +kernel
theorem dX8_entries_59 : dc_at mX8_entries 59 (.iload 6) 2 := by unfold dc_at; decide +kernel
theorem dX8_entries_61 : dc_at mX8_entries 61 (.ifCond .eq 68) 3 := by unfold dc_at; decide +kernel
theorem dX8_entries_64 : dc_at mX8_entries 64 (.iload_n 3) 1 := by unfold dc_at; decide +kernel
theorem dX8_entries_65 : dc_at mX8_entries 65 (.ifCond .eq 60) 3 := by unfold dc_at; decide +kernel
theorem dX8_entries_68 : dc_at mX8_entries 68 (.iload_n 3) 1 := by unfold dc_at; decide +kernel
theorem dX8_entries_69 : dc_at mX8_entries 69 (.iconst 1) 1 := by unfold dc_at; decide +kernel
theorem dX8_entries_70 : dc_at mX8_entries 70 (.if_icmp .ne 14) 3 := by unfold dc_at; decide +kernel
theorem dX8_entries_73 : dc_at mX8_entries 73 (.aload_n 0) 1 := by unfold dc_at; decide +kernel
theorem dX8_entries_74 : dc_at mX8_entries 74 (.iload_n 1) 1 := by unfold dc_at; decide +kernel
theorem dX8_entries_75 : dc_at mX8_entries 75 (.iload_n 2) 1 := by unfold dc_at; decide +kernel
theorem dX8_entries_76 : dc_at mX8_entries 76 (.iload 5) 2 := by unfold dc_at; decide +kernel
theorem dX8_entries_78 : dc_at mX8_entries 78 (.invokevirtual 94) 3 := by unfold dc_at; decide +kernel
theorem dX8_entries_81 : dc_at mX8_entries 81 (.ifCond .ne 44) 3 := by unfold dc_at; decide +kernel
theorem dX8_entries_84 : dc_at mX8_entries 84 (.iload_n 3) 1 := by unfold dc_at; decide +kernel
theorem dX8_entries_85 : dc_at mX8_entries 85 (.iconst 2) 1 := by unfold dc_at; decide +kernel
theorem dX8_entries_86 : dc_at mX8_entries 86 (.if_icmp .ne 14) 3 := by unfold dc_at; decide +kernel
theorem dX8_entries_89 : dc_at mX8_entries 89 (.aload_n 0) 1 := by unfold dc_at; decide +kernel
theorem dX8_entries_90 : dc_at mX8_entries 90 (.iload_n 1) 1 := by unfold dc_at; decide +kernel
theorem dX8_entries_91 : dc_at mX8_entries 91 (.iload_n 2) 1 := by unfold dc_at; decide +kernel
theorem dX8_entries_92 : dc_at mX8_entries 92 (.iload 5) 2 := by unfold dc_at; decide +kernel
theorem dX8_entries_94 : dc_at mX8_entries 94 (.invokevirtual 145) 3 := by unfold dc_at; decide +kernel
theorem dX8_entries_97 : dc_at mX8_entries 97 (.ifCond .ne 28) 3 := by unfold dc_at; decide +kernel
theorem dX8_entries_100 : dc_at mX8_entries 100 (.iload_n 3) 1 := by unfold dc_at; decide +kernel
theorem dX8_entries_101 : dc_at mX8_entries 101 (.iconst 3) 1 := by unfold dc_at; decide +kernel
theorem dX8_entries_102 : dc_at mX8_entries 102 (.if_icmp .ne 27) 3 := by unfold dc_at; decide +kernel
theorem dX8_entries_105 : dc_at mX8_entries 105 (.aload_n 0) 1 := by unfold dc_at; decide +kernel
theorem dX8_entries_106 : dc_at mX8_entries 106 (.getfield 13) 3 := by unfold dc_at; decide +kernel
theorem dX8_entries_109 : dc_at mX8_entries 109 (.sipush 3593) 3 := by unfold dc_at; decide +kernel
theorem dX8_entries_112 : dc_at mX8_entries 112 (.iaload) 1 := by unfold dc_at; decide +kernel
theorem dX8_entries_113 : dc_at mX8_entries 113 (.aload_n 0) 1 := by unfold dc_at; decide +kernel
theorem dX8_entries_114 : dc_at mX8_entries 114 (.iload_n 1) 1 := by unfold dc_at; decide +kernel
theorem dX8_entries_115 : dc_at mX8_entries 115 (.iload_n 2) 1 := by unfold dc_at; decide +kernel
theorem dX8_entries_116 : dc_at mX8_entries 116 (.iload 5) 2 := by unfold dc_at; decide +kernel
theorem dX8_entries_118 : dc_at mX8_entries 118 (.iconst 5) 1 := by unfold dc_at; decide +kernel
theorem dX8_entries_119 : dc_at mX8_entries 119 (.invokevirtual 85) 3 := by unfold dc_at; decide +kernel
theorem dX8_entries_122 : dc_at mX8_entries 122 (.if_icmp .gt 7) 3 := by unfold dc_at; decide +kernel
theorem dX8_entries_125 : dc_at mX8_entries 125 (.iconst 1) 1 := by unfold dc_at; decide +kernel
theorem dX8_entries_126 : dc_at mX8_entries 126 (.goto 4) 3 := by unfold dc_at; decide +kernel
theorem dX8_entries_129 : dc_at mX8_entries 129 (.iconst 0) 1 := by unfold dc_at; decide +kernel
theorem dX8_entries_130 : dc_at mX8_entries 130 (.istore 6) 2 := by unfold dc_at; decide +kernel
theorem dX8_entries_132 : dc_at mX8_entries 132 (.iload 4) 2 := by unfold dc_at; decide +kernel
theorem dX8_entries_134 : dc_at mX8_entries 134 (.iload 6) 2 := by unfold dc_at; decide +kernel
theorem dX8_entries_136 : dc_at mX8_entries 136 (.ifCond .eq 7) 3 := by unfold dc_at; decide +kernel
theorem dX8_entries_139 : dc_at mX8_entries 139 (.iconst 1) 1 := by unfold dc_at; decide +kernel
theorem dX8_entries_140 : dc_at mX8_entries 140 (.goto 4) 3 := by unfold dc_at; decide +kernel
theorem dX8_entries_143 : dc_at mX8_entries 143 (.iconst 0) 1 := by unfold dc_at; decide +kernel
theorem dX8_entries_144 : dc_at mX8_entries 144 (.iadd) 1 := by unfold dc_at; decide +kernel
theorem dX8_entries_145 : dc_at mX8_entries 145 (.istore 4) 2 := by unfold dc_at; decide +kernel
theorem dX8_entries_147 : dc_at mX8_entries 147 (.iinc 5 1) 3 := by unfold dc_at; decide +kernel
theorem dX8_entries_150 : dc_at mX8_entries 150 (.goto (-124)) 3 := by unfold dc_at; decide +kernel
theorem dX8_entries_153 : dc_at mX8_entries 153 (.iload 4) 2 := by unfold dc_at; decide +kernel
theorem dX8_entries_155 : dc_at mX8_entries 155 (.ireturn) 1 := by unfold dc_at; decide +kernel
theorem dX8_meanWidthBits_0 : dc_at mX8_meanWidthBits 0 (.iconst 0) 1 := by unfold dc_at; decide +kernel
theorem dX8_meanWidthBits_1 : dc_at mX8_meanWidthBits 1 (.istore_n 1) 1 := by unfold dc_at; decide +kernel
theorem dX8_meanWidthBits_2 : dc_at mX8_meanWidthBits 2 (.iconst 0) 1 := by unfold dc_at; decide +kernel
theorem dX8_meanWidthBits_3 : dc_at mX8_meanWidthBits 3 (.istore_n 2) 1 := by unfold dc_at; decide +kernel
theorem dX8_meanWidthBits_4 : dc_at mX8_meanWidthBits 4 (.iconst 0) 1 := by unfold dc_at; decide +kernel
theorem dX8_meanWidthBits_5 : dc_at mX8_meanWidthBits 5 (.istore_n 3) 1 := by unfold dc_at; decide +kernel
theorem dX8_meanWidthBits_6 : dc_at mX8_meanWidthBits 6 (.iload_n 3) 1 := by unfold dc_at; decide +kernel
theorem dX8_meanWidthBits_7 : dc_at mX8_meanWidthBits 7 (.bipush 64) 2 := by unfold dc_at; decide +kernel
theorem dX8_meanWidthBits_9 : dc_at mX8_meanWidthBits 9 (.if_icmp .ge 69) 3 := by unfold dc_at; decide +kernel
theorem dX8_meanWidthBits_12 : dc_at mX8_meanWidthBits 12 (.iload_n 3) 1 := by unfold dc_at; decide +kernel
theorem dX8_meanWidthBits_13 : dc_at mX8_meanWidthBits 13 (.bipush 8) 2 := by unfold dc_at; decide +kernel
theorem dX8_meanWidthBits_15 : dc_at mX8_meanWidthBits 15 (.idiv) 1 := by unfold dc_at; decide +kernel
theorem dX8_meanWidthBits_16 : dc_at mX8_meanWidthBits 16 (.istore 4) 2 := by unfold dc_at; decide +kernel
theorem dX8_meanWidthBits_18 : dc_at mX8_meanWidthBits 18 (.iload_n 3) 1 := by unfold dc_at; decide +kernel
theorem dX8_meanWidthBits_19 : dc_at mX8_meanWidthBits 19 (.bipush 8) 2 := by unfold dc_at; decide +kernel
theorem dX8_meanWidthBits_21 : dc_at mX8_meanWidthBits 21 (.irem) 1 := by unfold dc_at; decide +kernel
theorem dX8_meanWidthBits_22 : dc_at mX8_meanWidthBits 22 (.istore 5) 2 := by unfold dc_at; decide +kernel
theorem dX8_meanWidthBits_24 : dc_at mX8_meanWidthBits 24 (.aload_n 0) 1 := by unfold dc_at; decide +kernel
theorem dX8_meanWidthBits_25 : dc_at mX8_meanWidthBits 25 (.iload 4) 2 := by unfold dc_at; decide +kernel
theorem dX8_meanWidthBits_27 : dc_at mX8_meanWidthBits 27 (.iload 5) 2 := by unfold dc_at; decide +kernel
theorem dX8_meanWidthBits_29 : dc_at mX8_meanWidthBits 29 (.invokevirtual 74) 3 := by unfold dc_at; decide +kernel
theorem dX8_meanWidthBits_32 : dc_at mX8_meanWidthBits 32 (.ifCond .eq 40) 3 := by unfold dc_at; decide +kernel
theorem dX8_meanWidthBits_35 : dc_at mX8_meanWidthBits 35 (.aload_n 0) 1 := by unfold dc_at; decide +kernel
theorem dX8_meanWidthBits_36 : dc_at mX8_meanWidthBits 36 (.iload 4) 2 := by unfold dc_at; decide +kernel
theorem dX8_meanWidthBits_38 : dc_at mX8_meanWidthBits 38 (.iload 5) 2 := by unfold dc_at; decide +kernel
theorem dX8_meanWidthBits_40 : dc_at mX8_meanWidthBits 40 (.iconst 2) 1 := by unfold dc_at; decide +kernel
theorem dX8_meanWidthBits_41 : dc_at mX8_meanWidthBits 41 (.invokevirtual 104) 3 := by unfold dc_at; decide +kernel
theorem dX8_meanWidthBits_44 : dc_at mX8_meanWidthBits 44 (.ifCond .lt 28) 3 := by unfold dc_at; decide +kernel
theorem dX8_meanWidthBits_47 : dc_at mX8_meanWidthBits 47 (.iload_n 1) 1 := by unfold dc_at; decide +kernel
theorem dX8_meanWidthBits_48 : dc_at mX8_meanWidthBits 48 (.aload_n 0) 1 := by unfold dc_at; decide +kernel
theorem dX8_meanWidthBits_49 : dc_at mX8_meanWidthBits 49 (.iload 4) 2 := by unfold dc_at; decide +kernel
theorem dX8_meanWidthBits_51 : dc_at mX8_meanWidthBits 51 (.iload 5) 2 := by unfold dc_at; decide +kernel
theorem dX8_meanWidthBits_53 : dc_at mX8_meanWidthBits 53 (.iconst 2) 1 := by unfold dc_at; decide +kernel
theorem dX8_meanWidthBits_54 : dc_at mX8_meanWidthBits 54 (.invokevirtual 104) 3 := by unfold dc_at; decide +kernel
theorem dX8_meanWidthBits_57 : dc_at mX8_meanWidthBits 57 (.aload_n 0) 1 := by unfold dc_at; decide +kernel
theorem dX8_meanWidthBits_58 : dc_at mX8_meanWidthBits 58 (.iload 4) 2 := by unfold dc_at; decide +kernel
theorem dX8_meanWidthBits_60 : dc_at mX8_meanWidthBits 60 (.iload 5) 2 := by unfold dc_at; decide +kernel
theorem dX8_meanWidthBits_62 : dc_at mX8_meanWidthBits 62 (.iconst 1) 1 := by unfold dc_at; decide +kernel
theorem dX8_meanWidthBits_63 : dc_at mX8_meanWidthBits 63 (.invokevirtual 104) 3 := by unfold dc_at; decide +kernel
theorem dX8_meanWidthBits_66 : dc_at mX8_meanWidthBits 66 (.isub) 1 := by unfold dc_at; decide +kernel
theorem dX8_meanWidthBits_67 : dc_at mX8_meanWidthBits 67 (.iadd) 1 := by unfold dc_at; decide +kernel
theorem dX8_meanWidthBits_68 : dc_at mX8_meanWidthBits 68 (.istore_n 1) 1 := by unfold dc_at; decide +kernel
theorem dX8_meanWidthBits_69 : dc_at mX8_meanWidthBits 69 (.iinc 2 1) 3 := by unfold dc_at; decide +kernel
theorem dX8_meanWidthBits_72 : dc_at mX8_meanWidthBits 72 (.iinc 3 1) 3 := by unfold dc_at; decide +kernel
theorem dX8_meanWidthBits_75 : dc_at mX8_meanWidthBits 75 (.goto (-69)) 3 := by unfold dc_at; decide +kernel
theorem dX8_meanWidthBits_78 : dc_at mX8_meanWidthBits 78 (.iload_n 2) 1 := by unfold dc_at; decide +kernel
theorem dX8_meanWidthBits_79 : dc_at mX8_meanWidthBits 79 (.ifCond .ne 8) 3 := by unfold dc_at; decide +kernel
theorem dX8_meanWidthBits_82 : dc_at mX8_meanWidthBits 82 (.bipush (-4)) 2 := by unfold dc_at; decide +kernel
theorem dX8_meanWidthBits_84 : dc_at mX8_meanWidthBits 84 (.goto 11) 3 := by unfold dc_at; decide +kernel
theorem dX8_meanWidthBits_87 : dc_at mX8_meanWidthBits 87 (.iload_n 1) 1 := by unfold dc_at; decide +kernel
theorem dX8_meanWidthBits_88 : dc_at mX8_meanWidthBits 88 (.i2f) 1 := by unfold dc_at; decide +kernel
theorem dX8_meanWidthBits_89 : dc_at mX8_meanWidthBits 89 (.iload_n 2) 1 := by unfold dc_at; decide +kernel
theorem dX8_meanWidthBits_90 : dc_at mX8_meanWidthBits 90 (.i2f) 1 := by unfold dc_at; decide +kernel
theorem dX8_meanWidthBits_91 : dc_at mX8_meanWidthBits 91 (.fdiv) 1 := by unfold dc_at; decide +kernel
theorem dX8_meanWidthBits_92 : dc_at mX8_meanWidthBits 92 (.invokestatic 148) 3 := by unfold dc_at; decide +kernel
theorem dX8_meanWidthBits_95 : dc_at mX8_meanWidthBits 95 (.ireturn) 1 := by unfold dc_at; decide +kernel
theorem dX8_journalSize_0 : dc_at mX8_journalSize 0 (.aload_n 0) 1 := by unfold dc_at; decide +kernel
theorem dX8_journalSize_1 : dc_at mX8_journalSize 1 (.getfield 13) 3 := by unfold dc_at; decide +kernel
theorem dX8_journalSize_4 : dc_at mX8_journalSize 4 (.sipush 3592) 3 := by unfold dc_at; decide +kernel
theorem dX8_journalSize_7 : dc_at mX8_journalSize 7 (.iaload) 1 := by unfold dc_at; decide +kernel
theorem dX8_journalSize_8 : dc_at mX8_journalSize 8 (.ireturn) 1 := by unfold dc_at; decide +kernel
theorem dX8_journal_0 : dc_at mX8_journal 0 (.iload_n 1) 1 := by unfold dc_at; decide +kernel
theorem dX8_journal_1 : dc_at mX8_journal 1 (.ifCond .lt 12) 3 := by unfold dc_at; decide +kernel
theorem dX8_journal_4 : dc_at mX8_journal 4 (.iload_n 2) 1 := by unfold dc_at; decide +kernel
theorem dX8_journal_5 : dc_at mX8_journal 5 (.iconst 0) 1 := by unfold dc_at; decide +kernel
theorem dX8_journal_6 : dc_at mX8_journal 6 (.iconst 3) 1 := by unfold dc_at; decide +kernel
theorem dX8_journal_7 : dc_at mX8_journal 7 (.invokestatic 54) 3 := by unfold dc_at; decide +kernel
theorem dX8_journal_10 : dc_at mX8_journal 10 (.ifCond .ne 5) 3 := by unfold dc_at; decide +kernel
theorem dX8_journal_13 : dc_at mX8_journal 13 (.iconst (-1)) 1 := by unfold dc_at; decide +kernel
theorem dX8_journal_14 : dc_at mX8_journal 14 (.ireturn) 1 := by unfold dc_at; decide +kernel
theorem dX8_journal_15 : dc_at mX8_journal 15 (.iload_n 1) 1 := by unfold dc_at; decide +kernel
theorem dX8_journal_16 : dc_at mX8_journal 16 (.aload_n 0) 1 := by unfold dc_at; decide +kernel
theorem dX8_journal_17 : dc_at mX8_journal 17 (.getfield 13) 3 := by unfold dc_at; decide +kernel
theorem dX8_journal_20 : dc_at mX8_journal 20 (.sipush 3592) 3 := by unfold dc_at; decide +kernel
theorem dX8_journal_23 : dc_at mX8_journal 23 (.iaload) 1 := by unfold dc_at; decide +kernel
theorem dX8_journal_24 : dc_at mX8_journal 24 (.if_icmp .ge 20) 3 := by unfold dc_at; decide +kernel
theorem dX8_journal_27 : dc_at mX8_journal 27 (.aload_n 0) 1 := by unfold dc_at; decide +kernel
theorem dX8_journal_28 : dc_at mX8_journal 28 (.getfield 13) 3 := by unfold dc_at; decide +kernel
theorem dX8_journal_31 : dc_at mX8_journal 31 (.sipush 3528) 3 := by unfold dc_at; decide +kernel
theorem dX8_journal_34 : dc_at mX8_journal 34 (.iconst 4) 1 := by unfold dc_at; decide +kernel
theorem dX8_journal_35 : dc_at mX8_journal 35 (.iload_n 1) 1 := by unfold dc_at; decide +kernel
theorem dX8_journal_36 : dc_at mX8_journal 36 (.imul) 1 := by unfold dc_at; decide +kernel
theorem dX8_journal_37 : dc_at mX8_journal 37 (.iadd) 1 := by unfold dc_at; decide +kernel
theorem dX8_journal_38 : dc_at mX8_journal 38 (.iload_n 2) 1 := by unfold dc_at; decide +kernel
theorem dX8_journal_39 : dc_at mX8_journal 39 (.iadd) 1 := by unfold dc_at; decide +kernel
theorem dX8_journal_40 : dc_at mX8_journal 40 (.iaload) 1 := by unfold dc_at; decide +kernel
theorem dX8_journal_41 : dc_at mX8_journal 41 (.goto 5) 3 := by unfold dc_at; decide +kernel
theorem dX8_journal_44 : dc_at mX8_journal 44 (.bipush (-4)) 2 := by unfold dc_at; decide +kernel
theorem dX8_journal_46 : dc_at mX8_journal 46 (.ireturn) 1 := by unfold dc_at; decide +kernel
theorem dX8_measures_0 : dc_at mX8_measures 0 (.iconst 0) 1 := by unfold dc_at; decide +kernel
theorem dX8_measures_1 : dc_at mX8_measures 1 (.istore_n 1) 1 := by unfold dc_at; decide +kernel
theorem dX8_measures_2 : dc_at mX8_measures 2 (.iload_n 1) 1 := by unfold dc_at; decide +kernel
theorem dX8_measures_3 : dc_at mX8_measures 3 (.bipush 64) 2 := by unfold dc_at; decide +kernel
theorem dX8_measures_5 : dc_at mX8_measures 5 (.if_icmp .ge 58) 3 := by unfold dc_at; decide +kernel
theorem dX8_measures_8 : dc_at mX8_measures 8 (.iload_n 1) 1 := by unfold dc_at; decide +kernel
theorem dX8_measures_9 : dc_at mX8_measures 9 (.bipush 8) 2 := by unfold dc_at; decide +kernel
theorem dX8_measures_11 : dc_at mX8_measures 11 (.idiv) 1 := by unfold dc_at; decide +kernel
theorem dX8_measures_12 : dc_at mX8_measures 12 (.istore_n 2) 1 := by unfold dc_at; decide +kernel
theorem dX8_measures_13 : dc_at mX8_measures 13 (.iload_n 1) 1 := by unfold dc_at; decide +kernel
theorem dX8_measures_14 : dc_at mX8_measures 14 (.bipush 8) 2 := by unfold dc_at; decide +kernel
theorem dX8_measures_16 : dc_at mX8_measures 16 (.irem) 1 := by unfold dc_at; decide +kernel
theorem dX8_measures_17 : dc_at mX8_measures 17 (.istore_n 3) 1 := by unfold dc_at; decide +kernel
theorem dX8_measures_18 : dc_at mX8_measures 18 (.aload_n 0) 1 := by unfold dc_at; decide +kernel
theorem dX8_measures_19 : dc_at mX8_measures 19 (.getfield 45) 3 := by unfold dc_at; decide +kernel
theorem dX8_measures_22 : dc_at mX8_measures 22 (.iload_n 1) 1 := by unfold dc_at; decide +kernel
theorem dX8_measures_23 : dc_at mX8_measures 23 (.iload_n 2) 1 := by unfold dc_at; decide +kernel
theorem dX8_measures_24 : dc_at mX8_measures 24 (.iload_n 3) 1 := by unfold dc_at; decide +kernel
theorem dX8_measures_25 : dc_at mX8_measures 25 (.if_icmp .ne 7) 3 := by unfold dc_at; decide +kernel
theorem dX8_measures_28 : dc_at mX8_measures 28 (.iconst 0) 1 := by unfold dc_at; decide +kernel
theorem dX8_measures_29 : dc_at mX8_measures 29 (.goto 27) 3 := by unfold dc_at; decide +kernel
theorem dX8_measures_32 : dc_at mX8_measures 32 (.aload_n 0) 1 := by unfold dc_at; decide +kernel
theorem dX8_measures_33 : dc_at mX8_measures 33 (.iload_n 2) 1 := by unfold dc_at; decide +kernel
theorem dX8_measures_34 : dc_at mX8_measures 34 (.iload_n 3) 1 := by unfold dc_at; decide +kernel
theorem dX8_measures_35 : dc_at mX8_measures 35 (.invokevirtual 91) 3 := by unfold dc_at; decide +kernel
theorem dX8_measures_38 : dc_at mX8_measures 38 (.ifCond .eq 17) 3 := by unfold dc_at; decide +kernel
theorem dX8_measures_41 : dc_at mX8_measures 41 (.aload_n 0) 1 := by unfold dc_at; decide +kernel
theorem dX8_measures_42 : dc_at mX8_measures 42 (.getfield 13) 3 := by unfold dc_at; decide +kernel
theorem dX8_measures_45 : dc_at mX8_measures 45 (.iload_n 2) 1 := by unfold dc_at; decide +kernel
theorem dX8_measures_46 : dc_at mX8_measures 46 (.iload_n 3) 1 := by unfold dc_at; decide +kernel
theorem dX8_measures_47 : dc_at mX8_measures 47 (.iconst 2) 1 := by unfold dc_at; decide +kernel
theorem dX8_measures_48 : dc_at mX8_measures 48 (.invokestatic 62) 3 := by unfold dc_at; decide +kernel
theorem dX8_measures_51 : dc_at mX8_measures 51 (.iaload) 1 := by unfold dc_at; decide +kernel
theorem dX8_measures_52 : dc_at mX8_measures 52 (.goto 4) 3 := by unfold dc_at; decide +kernel
theorem dX8_measures_55 : dc_at mX8_measures 55 (.iconst (-1)) 1 := by unfold dc_at; decide +kernel
theorem dX8_measures_56 : dc_at mX8_measures 56 (.iastore) 1 := by unfold dc_at; decide +kernel
theorem dX8_measures_57 : dc_at mX8_measures 57 (.iinc 1 1) 3 := by unfold dc_at; decide +kernel
theorem dX8_measures_60 : dc_at mX8_measures 60 (.goto (-58)) 3 := by unfold dc_at; decide +kernel
theorem dX8_measures_63 : dc_at mX8_measures 63 (.iconst 0) 1 := by unfold dc_at; decide +kernel
theorem dX8_measures_64 : dc_at mX8_measures 64 (.istore_n 1) 1 := by unfold dc_at; decide +kernel
theorem dX8_measures_65 : dc_at mX8_measures 65 (.iload_n 1) 1 := by unfold dc_at; decide +kernel
theorem dX8_measures_66 : dc_at mX8_measures 66 (.aload_n 0) 1 := by unfold dc_at; decide +kernel
theorem dX8_measures_67 : dc_at mX8_measures 67 (.getfield 7) 3 := by unfold dc_at; decide +kernel
theorem dX8_measures_70 : dc_at mX8_measures 70 (.if_icmp .ge 138) 3 := by unfold dc_at; decide +kernel
theorem dX8_measures_73 : dc_at mX8_measures 73 (.iconst 0) 1 := by unfold dc_at; decide +kernel
theorem dX8_measures_74 : dc_at mX8_measures 74 (.istore_n 2) 1 := by unfold dc_at; decide +kernel
theorem dX8_measures_75 : dc_at mX8_measures 75 (.iload_n 2) 1 := by unfold dc_at; decide +kernel
theorem dX8_measures_76 : dc_at mX8_measures 76 (.aload_n 0) 1 := by unfold dc_at; decide +kernel
theorem dX8_measures_77 : dc_at mX8_measures 77 (.getfield 7) 3 := by unfold dc_at; decide +kernel
theorem dX8_measures_80 : dc_at mX8_measures 80 (.if_icmp .ge 122) 3 := by unfold dc_at; decide +kernel
theorem dX8_measures_83 : dc_at mX8_measures 83 (.iconst 0) 1 := by unfold dc_at; decide +kernel
theorem dX8_measures_84 : dc_at mX8_measures 84 (.istore_n 3) 1 := by unfold dc_at; decide +kernel
theorem dX8_measures_85 : dc_at mX8_measures 85 (.iload_n 3) 1 := by unfold dc_at; decide +kernel
theorem dX8_measures_86 : dc_at mX8_measures 86 (.aload_n 0) 1 := by unfold dc_at; decide +kernel
theorem dX8_measures_87 : dc_at mX8_measures 87 (.getfield 7) 3 := by unfold dc_at; decide +kernel
theorem dX8_measures_90 : dc_at mX8_measures 90 (.if_icmp .ge 106) 3 := by unfold dc_at; decide +kernel
theorem dX8_measures_93 : dc_at mX8_measures 93 (.aload_n 0) 1 := by unfold dc_at; decide +kernel
theorem dX8_measures_94 : dc_at mX8_measures 94 (.getfield 45) 3 := by unfold dc_at; decide +kernel
theorem dX8_measures_97 : dc_at mX8_measures 97 (.bipush 8) 2 := by unfold dc_at; decide +kernel
theorem dX8_measures_99 : dc_at mX8_measures 99 (.iload_n 2) 1 := by unfold dc_at; decide +kernel
theorem dX8_measures_100 : dc_at mX8_measures 100 (.imul) 1 := by unfold dc_at; decide +kernel
theorem dX8_measures_101 : dc_at mX8_measures 101 (.iload_n 1) 1 := by unfold dc_at; decide +kernel
theorem dX8_measures_102 : dc_at mX8_measures 102 (.iadd) 1 := by unfold dc_at; decide +kernel
theorem dX8_measures_103 : dc_at mX8_measures 103 (.iaload) 1 := by unfold dc_at; decide +kernel
theorem dX8_measures_104 : dc_at mX8_measures 104 (.istore 4) 2 := by unfold dc_at; decide +kernel
theorem dX8_measures_106 : dc_at mX8_measures 106 (.aload_n 0) 1 := by unfold dc_at; decide +kernel
theorem dX8_measures_107 : dc_at mX8_measures 107 (.getfield 45) 3 := by unfold dc_at; decide +kernel
theorem dX8_measures_110 : dc_at mX8_measures 110 (.bipush 8) 2 := by unfold dc_at; decide +kernel
theorem dX8_measures_112 : dc_at mX8_measures 112 (.iload_n 1) 1 := by unfold dc_at; decide +kernel
theorem dX8_measures_113 : dc_at mX8_measures 113 (.imul) 1 := by unfold dc_at; decide +kernel
theorem dX8_measures_114 : dc_at mX8_measures 114 (.iload_n 3) 1 := by unfold dc_at; decide +kernel
theorem dX8_measures_115 : dc_at mX8_measures 115 (.iadd) 1 := by unfold dc_at; decide +kernel
theorem dX8_measures_116 : dc_at mX8_measures 116 (.iaload) 1 := by unfold dc_at; decide +kernel
theorem dX8_measures_117 : dc_at mX8_measures 117 (.istore 5) 2 := by unfold dc_at; decide +kernel
theorem dX8_measures_119 : dc_at mX8_measures 119 (.aload_n 0) 1 := by unfold dc_at; decide +kernel
theorem dX8_measures_120 : dc_at mX8_measures 120 (.getfield 45) 3 := by unfold dc_at; decide +kernel
theorem dX8_measures_123 : dc_at mX8_measures 123 (.bipush 8) 2 := by unfold dc_at; decide +kernel
theorem dX8_measures_125 : dc_at mX8_measures 125 (.iload_n 2) 1 := by unfold dc_at; decide +kernel
theorem dX8_measures_126 : dc_at mX8_measures 126 (.imul) 1 := by unfold dc_at; decide +kernel
theorem dX8_measures_127 : dc_at mX8_measures 127 (.iload_n 3) 1 := by unfold dc_at; decide +kernel
theorem dX8_measures_128 : dc_at mX8_measures 128 (.iadd) 1 := by unfold dc_at; decide +kernel
theorem dX8_measures_129 : dc_at mX8_measures 129 (.iaload) 1 := by unfold dc_at; decide +kernel
theorem dX8_measures_130 : dc_at mX8_measures 130 (.istore 6) 2 := by unfold dc_at; decide +kernel
theorem dX8_measures_132 : dc_at mX8_measures 132 (.iload 4) 2 := by unfold dc_at; decide +kernel
theorem dX8_measures_134 : dc_at mX8_measures 134 (.ifCond .lt 27) 3 := by unfold dc_at; decide +kernel
theorem dX8_measures_137 : dc_at mX8_measures 137 (.iload 5) 2 := by unfold dc_at; decide +kernel
theorem dX8_measures_139 : dc_at mX8_measures 139 (.ifCond .lt 22) 3 := by unfold dc_at; decide +kernel
theorem dX8_measures_142 : dc_at mX8_measures 142 (.iload 6) 2 := by unfold dc_at; decide +kernel
theorem dX8_measures_144 : dc_at mX8_measures 144 (.ifCond .lt 13) 3 := by unfold dc_at; decide +kernel
theorem dX8_measures_147 : dc_at mX8_measures 147 (.iload 4) 2 := by unfold dc_at; decide +kernel
theorem dX8_measures_149 : dc_at mX8_measures 149 (.iload 5) 2 := by unfold dc_at; decide +kernel
theorem dX8_measures_151 : dc_at mX8_measures 151 (.iadd) 1 := by unfold dc_at; decide +kernel
theorem dX8_measures_152 : dc_at mX8_measures 152 (.iload 6) 2 := by unfold dc_at; decide +kernel
theorem dX8_measures_154 : dc_at mX8_measures 154 (.if_icmp .ge 7) 3 := by unfold dc_at; decide +kernel
theorem dX8_measures_157 : dc_at mX8_measures 157 (.iconst 1) 1 := by unfold dc_at; decide +kernel
theorem dX8_measures_158 : dc_at mX8_measures 158 (.goto 4) 3 := by unfold dc_at; decide +kernel
theorem dX8_measures_161 : dc_at mX8_measures 161 (.iconst 0) 1 := by unfold dc_at; decide +kernel
theorem dX8_measures_162 : dc_at mX8_measures 162 (.istore 7) 2 := by unfold dc_at; decide +kernel
theorem dX8_measures_164 : dc_at mX8_measures 164 (.aload_n 0) 1 := by unfold dc_at; decide +kernel
theorem dX8_measures_165 : dc_at mX8_measures 165 (.getfield 45) 3 := by unfold dc_at; decide +kernel
theorem dX8_measures_168 : dc_at mX8_measures 168 (.bipush 8) 2 := by unfold dc_at; decide +kernel
theorem dX8_measures_170 : dc_at mX8_measures 170 (.iload_n 2) 1 := by unfold dc_at; decide +kernel
theorem dX8_measures_171 : dc_at mX8_measures 171 (.imul) 1 := by unfold dc_at; decide +kernel
theorem dX8_measures_172 : dc_at mX8_measures 172 (.iload_n 3) 1 := by unfold dc_at; decide +kernel
theorem dX8_measures_173 : dc_at mX8_measures 173 (.iadd) 1 := by unfold dc_at; decide +kernel
theorem dX8_measures_174 : dc_at mX8_measures 174 (.iload 7) 2 := by unfold dc_at; decide +kernel
theorem dX8_measures_176 : dc_at mX8_measures 176 (.ifCond .eq 11) 3 := by unfold dc_at; decide +kernel
theorem dX8_measures_179 : dc_at mX8_measures 179 (.iload 4) 2 := by unfold dc_at; decide +kernel
theorem dX8_measures_181 : dc_at mX8_measures 181 (.iload 5) 2 := by unfold dc_at; decide +kernel
theorem dX8_measures_183 : dc_at mX8_measures 183 (.iadd) 1 := by unfold dc_at; decide +kernel
theorem dX8_measures_184 : dc_at mX8_measures 184 (.goto 5) 3 := by unfold dc_at; decide +kernel
theorem dX8_measures_187 : dc_at mX8_measures 187 (.iload 6) 2 := by unfold dc_at; decide +kernel
theorem dX8_measures_189 : dc_at mX8_measures 189 (.iastore) 1 := by unfold dc_at; decide +kernel
theorem dX8_measures_190 : dc_at mX8_measures 190 (.iinc 3 1) 3 := by unfold dc_at; decide +kernel
theorem dX8_measures_193 : dc_at mX8_measures 193 (.goto (-108)) 3 := by unfold dc_at; decide +kernel
theorem dX8_measures_196 : dc_at mX8_measures 196 (.iinc 2 1) 3 := by unfold dc_at; decide +kernel
theorem dX8_measures_199 : dc_at mX8_measures 199 (.goto (-124)) 3 := by unfold dc_at; decide +kernel
theorem dX8_measures_202 : dc_at mX8_measures 202 (.iinc 1 1) 3 := by unfold dc_at; decide +kernel
theorem dX8_measures_205 : dc_at mX8_measures 205 (.goto (-140)) 3 := by unfold dc_at; decide +kernel
theorem dX8_measures_208 : dc_at mX8_measures 208 (.return_) 1 := by unfold dc_at; decide +kernel
theorem dX8_trueDistance_0 : dc_at mX8_trueDistance 0 (.aload_n 0) 1 := by unfold dc_at; decide +kernel
theorem dX8_trueDistance_1 : dc_at mX8_trueDistance 1 (.iload_n 1) 1 := by unfold dc_at; decide +kernel
theorem dX8_trueDistance_2 : dc_at mX8_trueDistance 2 (.invokevirtual 58) 3 := by unfold dc_at; decide +kernel
theorem dX8_trueDistance_5 : dc_at mX8_trueDistance 5 (.ifCond .eq 11) 3 := by unfold dc_at; decide +kernel
theorem dX8_trueDistance_8 : dc_at mX8_trueDistance 8 (.aload_n 0) 1 := by unfold dc_at; decide +kernel
theorem dX8_trueDistance_9 : dc_at mX8_trueDistance 9 (.iload_n 2) 1 := by unfold dc_at; decide +kernel
theorem dX8_trueDistance_10 : dc_at mX8_trueDistance 10 (.invokevirtual 58) 3 := by unfold dc_at; decide +kernel
theorem dX8_trueDistance_13 : dc_at mX8_trueDistance 13 (.ifCond .ne 5) 3 := by unfold dc_at; decide +kernel
theorem dX8_trueDistance_16 : dc_at mX8_trueDistance 16 (.iconst (-1)) 1 := by unfold dc_at; decide +kernel
theorem dX8_trueDistance_17 : dc_at mX8_trueDistance 17 (.ireturn) 1 := by unfold dc_at; decide +kernel
theorem dX8_trueDistance_18 : dc_at mX8_trueDistance 18 (.aload_n 0) 1 := by unfold dc_at; decide +kernel
theorem dX8_trueDistance_19 : dc_at mX8_trueDistance 19 (.invokevirtual 154) 3 := by unfold dc_at; decide +kernel
theorem dX8_trueDistance_22 : dc_at mX8_trueDistance 22 (.aload_n 0) 1 := by unfold dc_at; decide +kernel
theorem dX8_trueDistance_23 : dc_at mX8_trueDistance 23 (.getfield 45) 3 := by unfold dc_at; decide +kernel
theorem dX8_trueDistance_26 : dc_at mX8_trueDistance 26 (.bipush 8) 2 := by unfold dc_at; decide +kernel
theorem dX8_trueDistance_28 : dc_at mX8_trueDistance 28 (.iload_n 1) 1 := by unfold dc_at; decide +kernel
theorem dX8_trueDistance_29 : dc_at mX8_trueDistance 29 (.imul) 1 := by unfold dc_at; decide +kernel
theorem dX8_trueDistance_30 : dc_at mX8_trueDistance 30 (.iload_n 2) 1 := by unfold dc_at; decide +kernel
theorem dX8_trueDistance_31 : dc_at mX8_trueDistance 31 (.iadd) 1 := by unfold dc_at; decide +kernel
theorem dX8_trueDistance_32 : dc_at mX8_trueDistance 32 (.iaload) 1 := by unfold dc_at; decide +kernel
theorem dX8_trueDistance_33 : dc_at mX8_trueDistance 33 (.ifCond .ge 8) 3 := by unfold dc_at; decide +kernel
theorem dX8_trueDistance_36 : dc_at mX8_trueDistance 36 (.bipush (-4)) 2 := by unfold dc_at; decide +kernel
theorem dX8_trueDistance_38 : dc_at mX8_trueDistance 38 (.goto 14) 3 := by unfold dc_at; decide +kernel
theorem dX8_trueDistance_41 : dc_at mX8_trueDistance 41 (.aload_n 0) 1 := by unfold dc_at; decide +kernel
theorem dX8_trueDistance_42 : dc_at mX8_trueDistance 42 (.getfield 45) 3 := by unfold dc_at; decide +kernel
theorem dX8_trueDistance_45 : dc_at mX8_trueDistance 45 (.bipush 8) 2 := by unfold dc_at; decide +kernel
theorem dX8_trueDistance_47 : dc_at mX8_trueDistance 47 (.iload_n 1) 1 := by unfold dc_at; decide +kernel
theorem dX8_trueDistance_48 : dc_at mX8_trueDistance 48 (.imul) 1 := by unfold dc_at; decide +kernel
theorem dX8_trueDistance_49 : dc_at mX8_trueDistance 49 (.iload_n 2) 1 := by unfold dc_at; decide +kernel
theorem dX8_trueDistance_50 : dc_at mX8_trueDistance 50 (.iadd) 1 := by unfold dc_at; decide +kernel
theorem dX8_trueDistance_51 : dc_at mX8_trueDistance 51 (.iaload) 1 := by unfold dc_at; decide +kernel
theorem dX8_trueDistance_52 : dc_at mX8_trueDistance 52 (.ireturn) 1 := by unfold dc_at; decide +kernel
theorem dX8_wrongPairs_0 : dc_at mX8_wrongPairs 0 (.aload_n 0) 1 := by unfold dc_at; decide +kernel
theorem dX8_wrongPairs_1 : dc_at mX8_wrongPairs 1 (.invokevirtual 154) 3 := by unfold dc_at; decide +kernel
theorem dX8_wrongPairs_4 : dc_at mX8_wrongPairs 4 (.iconst 0) 1 := by unfold dc_at; decide +kernel
theorem dX8_wrongPairs_5 : dc_at mX8_wrongPairs 5 (.istore_n 1) 1 := by unfold dc_at; decide +kernel
theorem dX8_wrongPairs_6 : dc_at mX8_wrongPairs 6 (.iconst 0) 1 := by unfold dc_at; decide +kernel
theorem dX8_wrongPairs_7 : dc_at mX8_wrongPairs 7 (.istore_n 2) 1 := by unfold dc_at; decide +kernel
theorem dX8_wrongPairs_8 : dc_at mX8_wrongPairs 8 (.iload_n 2) 1 := by unfold dc_at; decide +kernel
theorem dX8_wrongPairs_9 : dc_at mX8_wrongPairs 9 (.bipush 64) 2 := by unfold dc_at; decide +kernel
theorem dX8_wrongPairs_11 : dc_at mX8_wrongPairs 11 (.if_icmp .ge 113) 3 := by unfold dc_at; decide +kernel
theorem dX8_wrongPairs_14 : dc_at mX8_wrongPairs 14 (.iload_n 2) 1 := by unfold dc_at; decide +kernel
theorem dX8_wrongPairs_15 : dc_at mX8_wrongPairs 15 (.bipush 8) 2 := by unfold dc_at; decide +kernel
theorem dX8_wrongPairs_17 : dc_at mX8_wrongPairs 17 (.idiv) 1 := by unfold dc_at; decide +kernel
theorem dX8_wrongPairs_18 : dc_at mX8_wrongPairs 18 (.istore_n 3) 1 := by unfold dc_at; decide +kernel
theorem dX8_wrongPairs_19 : dc_at mX8_wrongPairs 19 (.iload_n 2) 1 := by unfold dc_at; decide +kernel
theorem dX8_wrongPairs_20 : dc_at mX8_wrongPairs 20 (.bipush 8) 2 := by unfold dc_at; decide +kernel
theorem dX8_wrongPairs_22 : dc_at mX8_wrongPairs 22 (.irem) 1 := by unfold dc_at; decide +kernel
theorem dX8_wrongPairs_23 : dc_at mX8_wrongPairs 23 (.istore 4) 2 := by unfold dc_at; decide +kernel
theorem dX8_wrongPairs_25 : dc_at mX8_wrongPairs 25 (.aload_n 0) 1 := by unfold dc_at; decide +kernel
theorem dX8_wrongPairs_26 : dc_at mX8_wrongPairs 26 (.iload_n 3) 1 := by unfold dc_at; decide +kernel
theorem dX8_wrongPairs_27 : dc_at mX8_wrongPairs 27 (.iload 4) 2 := by unfold dc_at; decide +kernel
theorem dX8_wrongPairs_29 : dc_at mX8_wrongPairs 29 (.invokevirtual 74) 3 := by unfold dc_at; decide +kernel
theorem dX8_wrongPairs_32 : dc_at mX8_wrongPairs 32 (.ifCond .eq 86) 3 := by unfold dc_at; decide +kernel
theorem dX8_wrongPairs_35 : dc_at mX8_wrongPairs 35 (.aload_n 0) 1 := by unfold dc_at; decide +kernel
theorem dX8_wrongPairs_36 : dc_at mX8_wrongPairs 36 (.iload_n 3) 1 := by unfold dc_at; decide +kernel
theorem dX8_wrongPairs_37 : dc_at mX8_wrongPairs 37 (.iload 4) 2 := by unfold dc_at; decide +kernel
theorem dX8_wrongPairs_39 : dc_at mX8_wrongPairs 39 (.iconst 2) 1 := by unfold dc_at; decide +kernel
theorem dX8_wrongPairs_40 : dc_at mX8_wrongPairs 40 (.invokevirtual 104) 3 := by unfold dc_at; decide +kernel
theorem dX8_wrongPairs_43 : dc_at mX8_wrongPairs 43 (.istore 5) 2 := by unfold dc_at; decide +kernel
theorem dX8_wrongPairs_45 : dc_at mX8_wrongPairs 45 (.iload 5) 2 := by unfold dc_at; decide +kernel
theorem dX8_wrongPairs_47 : dc_at mX8_wrongPairs 47 (.ifCond .ge 20) 3 := by unfold dc_at; decide +kernel
theorem dX8_wrongPairs_50 : dc_at mX8_wrongPairs 50 (.aload_n 0) 1 := by unfold dc_at; decide +kernel
theorem dX8_wrongPairs_51 : dc_at mX8_wrongPairs 51 (.getfield 45) 3 := by unfold dc_at; decide +kernel
theorem dX8_wrongPairs_54 : dc_at mX8_wrongPairs 54 (.iload_n 2) 1 := by unfold dc_at; decide +kernel
theorem dX8_wrongPairs_55 : dc_at mX8_wrongPairs 55 (.iaload) 1 := by unfold dc_at; decide +kernel
theorem dX8_wrongPairs_56 : dc_at mX8_wrongPairs 56 (.ifCond .ge 7) 3 := by unfold dc_at; decide +kernel
theorem dX8_wrongPairs_59 : dc_at mX8_wrongPairs 59 (.iconst 1) 1 := by unfold dc_at; decide +kernel
theorem dX8_wrongPairs_60 : dc_at mX8_wrongPairs 60 (.goto 43) 3 := by unfold dc_at; decide +kernel
theorem dX8_wrongPairs_63 : dc_at mX8_wrongPairs 63 (.iconst 0) 1 := by unfold dc_at; decide +kernel
theorem dX8_wrongPairs_64 : dc_at mX8_wrongPairs 64 (.goto 39) 3 := by unfold dc_at; decide +kernel
theorem dX8_wrongPairs_67 : dc_at mX8_wrongPairs 67 (.aload_n 0) 1 := by unfold dc_at; decide +kernel
theorem dX8_wrongPairs_68 : dc_at mX8_wrongPairs 68 (.getfield 45) 3 := by unfold dc_at; decide +kernel
theorem dX8_wrongPairs_71 : dc_at mX8_wrongPairs 71 (.iload_n 2) 1 := by unfold dc_at; decide +kernel
theorem dX8_wrongPairs_72 : dc_at mX8_wrongPairs 72 (.iaload) 1 := by unfold dc_at; decide +kernel
theorem dX8_wrongPairs_73 : dc_at mX8_wrongPairs 73 (.ifCond .lt 29) 3 := by unfold dc_at; decide +kernel
theorem dX8_wrongPairs_76 : dc_at mX8_wrongPairs 76 (.aload_n 0) 1 := by unfold dc_at; decide +kernel
theorem dX8_wrongPairs_77 : dc_at mX8_wrongPairs 77 (.getfield 45) 3 := by unfold dc_at; decide +kernel
theorem dX8_wrongPairs_80 : dc_at mX8_wrongPairs 80 (.iload_n 2) 1 := by unfold dc_at; decide +kernel
theorem dX8_wrongPairs_81 : dc_at mX8_wrongPairs 81 (.iaload) 1 := by unfold dc_at; decide +kernel
theorem dX8_wrongPairs_82 : dc_at mX8_wrongPairs 82 (.aload_n 0) 1 := by unfold dc_at; decide +kernel
theorem dX8_wrongPairs_83 : dc_at mX8_wrongPairs 83 (.iload_n 3) 1 := by unfold dc_at; decide +kernel
theorem dX8_wrongPairs_84 : dc_at mX8_wrongPairs 84 (.iload 4) 2 := by unfold dc_at; decide +kernel
theorem dX8_wrongPairs_86 : dc_at mX8_wrongPairs 86 (.iconst 1) 1 := by unfold dc_at; decide +kernel
theorem dX8_wrongPairs_87 : dc_at mX8_wrongPairs 87 (.invokevirtual 104) 3 := by unfold dc_at; decide +kernel
theorem dX8_wrongPairs_90 : dc_at mX8_wrongPairs 90 (.iload 5) 2 := by unfold dc_at; decide +kernel
theorem dX8_wrongPairs_92 : dc_at mX8_wrongPairs 92 (.invokestatic 54) 3 := by unfold dc_at; decide +kernel
theorem dX8_wrongPairs_95 : dc_at mX8_wrongPairs 95 (.ifCond .eq 7) 3 := by unfold dc_at; decide +kernel
theorem dX8_wrongPairs_98 : dc_at mX8_wrongPairs 98 (.iconst 1) 1 := by unfold dc_at; decide +kernel
theorem dX8_wrongPairs_99 : dc_at mX8_wrongPairs 99 (.goto 4) 3 := by unfold dc_at; decide +kernel
theorem dX8_wrongPairs_102 : dc_at mX8_wrongPairs 102 (.iconst 0) 1 := by unfold dc_at; decide +kernel
theorem dX8_wrongPairs_103 : dc_at mX8_wrongPairs 103 (.istore 6) 2 := by unfold dc_at; decide +kernel
theorem dX8_wrongPairs_105 : dc_at mX8_wrongPairs 105 (.iload_n 1) 1 := by unfold dc_at; decide +kernel
theorem dX8_wrongPairs_106 : dc_at mX8_wrongPairs 106 (.iload 6) 2 := by unfold dc_at; decide +kernel
theorem dX8_wrongPairs_108 : dc_at mX8_wrongPairs 108 (.ifCond .eq 7) 3 := by unfold dc_at; decide +kernel
theorem dX8_wrongPairs_111 : dc_at mX8_wrongPairs 111 (.iconst 0) 1 := by unfold dc_at; decide +kernel
theorem dX8_wrongPairs_112 : dc_at mX8_wrongPairs 112 (.goto 4) 3 := by unfold dc_at; decide +kernel
theorem dX8_wrongPairs_115 : dc_at mX8_wrongPairs 115 (.iconst 1) 1 := by unfold dc_at; decide +kernel
theorem dX8_wrongPairs_116 : dc_at mX8_wrongPairs 116 (.iadd) 1 := by unfold dc_at; decide +kernel
theorem dX8_wrongPairs_117 : dc_at mX8_wrongPairs 117 (.istore_n 1) 1 := by unfold dc_at; decide +kernel
theorem dX8_wrongPairs_118 : dc_at mX8_wrongPairs 118 (.iinc 2 1) 3 := by unfold dc_at; decide +kernel
theorem dX8_wrongPairs_121 : dc_at mX8_wrongPairs 121 (.goto (-113)) 3 := by unfold dc_at; decide +kernel
theorem dX8_wrongPairs_124 : dc_at mX8_wrongPairs 124 (.iload_n 1) 1 := by unfold dc_at; decide +kernel
theorem dX8_wrongPairs_125 : dc_at mX8_wrongPairs 125 (.ireturn) 1 := by unfold dc_at; decide +kernel
theorem dX8_follows_0 : dc_at mX8_follows 0 (.iload_n 1) 1 := by unfold dc_at; decide +kernel
theorem dX8_follows_1 : dc_at mX8_follows 1 (.istore_n 3) 1 := by unfold dc_at; decide +kernel
theorem dX8_follows_2 : dc_at mX8_follows 2 (.iconst 1) 1 := by unfold dc_at; decide +kernel
theorem dX8_follows_3 : dc_at mX8_follows 3 (.iload_n 1) 1 := by unfold dc_at; decide +kernel
theorem dX8_follows_4 : dc_at mX8_follows 4 (.ishl) 1 := by unfold dc_at; decide +kernel
theorem dX8_follows_5 : dc_at mX8_follows 5 (.istore 4) 2 := by unfold dc_at; decide +kernel
theorem dX8_follows_7 : dc_at mX8_follows 7 (.iconst 0) 1 := by unfold dc_at; decide +kernel
theorem dX8_follows_8 : dc_at mX8_follows 8 (.istore 5) 2 := by unfold dc_at; decide +kernel
theorem dX8_follows_10 : dc_at mX8_follows 10 (.iload_n 3) 1 := by unfold dc_at; decide +kernel
theorem dX8_follows_11 : dc_at mX8_follows 11 (.iload_n 2) 1 := by unfold dc_at; decide +kernel
theorem dX8_follows_12 : dc_at mX8_follows 12 (.if_icmp .eq 59) 3 := by unfold dc_at; decide +kernel
theorem dX8_follows_15 : dc_at mX8_follows 15 (.aload_n 0) 1 := by unfold dc_at; decide +kernel
theorem dX8_follows_16 : dc_at mX8_follows 16 (.iload_n 3) 1 := by unfold dc_at; decide +kernel
theorem dX8_follows_17 : dc_at mX8_follows 17 (.iload_n 2) 1 := by unfold dc_at; decide +kernel
theorem dX8_follows_18 : dc_at mX8_follows 18 (.invokevirtual 107) 3 := by unfold dc_at; decide +kernel
theorem dX8_follows_21 : dc_at mX8_follows 21 (.istore 6) 2 := by unfold dc_at; decide +kernel
theorem dX8_follows_23 : dc_at mX8_follows 23 (.iload 6) 2 := by unfold dc_at; decide +kernel
theorem dX8_follows_25 : dc_at mX8_follows 25 (.ifCond .ge 10) 3 := by unfold dc_at; decide +kernel
theorem dX8_follows_28 : dc_at mX8_follows 28 (.sipush (-2000)) 3 := by unfold dc_at; decide +kernel
theorem dX8_follows_31 : dc_at mX8_follows 31 (.iload 5) 2 := by unfold dc_at; decide +kernel
theorem dX8_follows_33 : dc_at mX8_follows 33 (.isub) 1 := by unfold dc_at; decide +kernel
theorem dX8_follows_34 : dc_at mX8_follows 34 (.ireturn) 1 := by unfold dc_at; decide +kernel
theorem dX8_follows_35 : dc_at mX8_follows 35 (.iinc 5 1) 3 := by unfold dc_at; decide +kernel
theorem dX8_follows_38 : dc_at mX8_follows 38 (.iload 4) 2 := by unfold dc_at; decide +kernel
theorem dX8_follows_40 : dc_at mX8_follows 40 (.iload 6) 2 := by unfold dc_at; decide +kernel
theorem dX8_follows_42 : dc_at mX8_follows 42 (.ishr) 1 := by unfold dc_at; decide +kernel
theorem dX8_follows_43 : dc_at mX8_follows 43 (.iconst 1) 1 := by unfold dc_at; decide +kernel
theorem dX8_follows_44 : dc_at mX8_follows 44 (.iand) 1 := by unfold dc_at; decide +kernel
theorem dX8_follows_45 : dc_at mX8_follows 45 (.iconst 1) 1 := by unfold dc_at; decide +kernel
theorem dX8_follows_46 : dc_at mX8_follows 46 (.if_icmp .ne 10) 3 := by unfold dc_at; decide +kernel
theorem dX8_follows_49 : dc_at mX8_follows 49 (.sipush (-1000)) 3 := by unfold dc_at; decide +kernel
theorem dX8_follows_52 : dc_at mX8_follows 52 (.iload 5) 2 := by unfold dc_at; decide +kernel
theorem dX8_follows_54 : dc_at mX8_follows 54 (.isub) 1 := by unfold dc_at; decide +kernel
theorem dX8_follows_55 : dc_at mX8_follows 55 (.ireturn) 1 := by unfold dc_at; decide +kernel
theorem dX8_follows_56 : dc_at mX8_follows 56 (.iload 4) 2 := by unfold dc_at; decide +kernel
theorem dX8_follows_58 : dc_at mX8_follows 58 (.iconst 1) 1 := by unfold dc_at; decide +kernel
theorem dX8_follows_59 : dc_at mX8_follows 59 (.iload 6) 2 := by unfold dc_at; decide +kernel
theorem dX8_follows_61 : dc_at mX8_follows 61 (.ishl) 1 := by unfold dc_at; decide +kernel
theorem dX8_follows_62 : dc_at mX8_follows 62 (.ior) 1 := by unfold dc_at; decide +kernel
theorem dX8_follows_63 : dc_at mX8_follows 63 (.istore 4) 2 := by unfold dc_at; decide +kernel
theorem dX8_follows_65 : dc_at mX8_follows 65 (.iload 6) 2 := by unfold dc_at; decide +kernel
theorem dX8_follows_67 : dc_at mX8_follows 67 (.istore_n 3) 1 := by unfold dc_at; decide +kernel
theorem dX8_follows_68 : dc_at mX8_follows 68 (.goto (-58)) 3 := by unfold dc_at; decide +kernel
theorem dX8_follows_71 : dc_at mX8_follows 71 (.iload 5) 2 := by unfold dc_at; decide +kernel
theorem dX8_follows_73 : dc_at mX8_follows 73 (.ireturn) 1 := by unfold dc_at; decide +kernel
theorem dX8_follow_0 : dc_at mX8_follow 0 (.aload_n 0) 1 := by unfold dc_at; decide +kernel
theorem dX8_follow_1 : dc_at mX8_follow 1 (.iload_n 1) 1 := by unfold dc_at; decide +kernel
theorem dX8_follow_2 : dc_at mX8_follow 2 (.iload_n 2) 1 := by unfold dc_at; decide +kernel
theorem dX8_follow_3 : dc_at mX8_follow 3 (.invokevirtual 74) 3 := by unfold dc_at; decide +kernel
theorem dX8_follow_6 : dc_at mX8_follow 6 (.ifCond .eq 12) 3 := by unfold dc_at; decide +kernel
theorem dX8_follow_9 : dc_at mX8_follow 9 (.aload_n 0) 1 := by unfold dc_at; decide +kernel
theorem dX8_follow_10 : dc_at mX8_follow 10 (.iload_n 1) 1 := by unfold dc_at; decide +kernel
theorem dX8_follow_11 : dc_at mX8_follow 11 (.iload_n 2) 1 := by unfold dc_at; decide +kernel
theorem dX8_follow_12 : dc_at mX8_follow 12 (.invokevirtual 157) 3 := by unfold dc_at; decide +kernel
theorem dX8_follow_15 : dc_at mX8_follow 15 (.goto 4) 3 := by unfold dc_at; decide +kernel
theorem dX8_follow_18 : dc_at mX8_follow 18 (.iconst (-1)) 1 := by unfold dc_at; decide +kernel
theorem dX8_follow_19 : dc_at mX8_follow 19 (.ireturn) 1 := by unfold dc_at; decide +kernel
theorem dX8_loops_0 : dc_at mX8_loops 0 (.iconst 0) 1 := by unfold dc_at; decide +kernel
theorem dX8_loops_1 : dc_at mX8_loops 1 (.istore_n 1) 1 := by unfold dc_at; decide +kernel
theorem dX8_loops_2 : dc_at mX8_loops 2 (.iconst 0) 1 := by unfold dc_at; decide +kernel
theorem dX8_loops_3 : dc_at mX8_loops 3 (.istore_n 2) 1 := by unfold dc_at; decide +kernel
theorem dX8_loops_4 : dc_at mX8_loops 4 (.iload_n 2) 1 := by unfold dc_at; decide +kernel
theorem dX8_loops_5 : dc_at mX8_loops 5 (.bipush 64) 2 := by unfold dc_at; decide +kernel
theorem dX8_loops_7 : dc_at mX8_loops 7 (.if_icmp .ge 66) 3 := by unfold dc_at; decide +kernel
theorem dX8_loops_10 : dc_at mX8_loops 10 (.aload_n 0) 1 := by unfold dc_at; decide +kernel
theorem dX8_loops_11 : dc_at mX8_loops 11 (.iload_n 2) 1 := by unfold dc_at; decide +kernel
theorem dX8_loops_12 : dc_at mX8_loops 12 (.bipush 8) 2 := by unfold dc_at; decide +kernel
theorem dX8_loops_14 : dc_at mX8_loops 14 (.idiv) 1 := by unfold dc_at; decide +kernel
theorem dX8_loops_15 : dc_at mX8_loops 15 (.iload_n 2) 1 := by unfold dc_at; decide +kernel
theorem dX8_loops_16 : dc_at mX8_loops 16 (.bipush 8) 2 := by unfold dc_at; decide +kernel
theorem dX8_loops_18 : dc_at mX8_loops 18 (.irem) 1 := by unfold dc_at; decide +kernel
theorem dX8_loops_19 : dc_at mX8_loops 19 (.invokevirtual 74) 3 := by unfold dc_at; decide +kernel
theorem dX8_loops_22 : dc_at mX8_loops 22 (.ifCond .eq 31) 3 := by unfold dc_at; decide +kernel
theorem dX8_loops_25 : dc_at mX8_loops 25 (.aload_n 0) 1 := by unfold dc_at; decide +kernel
theorem dX8_loops_26 : dc_at mX8_loops 26 (.iload_n 2) 1 := by unfold dc_at; decide +kernel
theorem dX8_loops_27 : dc_at mX8_loops 27 (.bipush 8) 2 := by unfold dc_at; decide +kernel
theorem dX8_loops_29 : dc_at mX8_loops 29 (.idiv) 1 := by unfold dc_at; decide +kernel
theorem dX8_loops_30 : dc_at mX8_loops 30 (.iload_n 2) 1 := by unfold dc_at; decide +kernel
theorem dX8_loops_31 : dc_at mX8_loops 31 (.bipush 8) 2 := by unfold dc_at; decide +kernel
theorem dX8_loops_33 : dc_at mX8_loops 33 (.irem) 1 := by unfold dc_at; decide +kernel
theorem dX8_loops_34 : dc_at mX8_loops 34 (.invokevirtual 157) 3 := by unfold dc_at; decide +kernel
theorem dX8_loops_37 : dc_at mX8_loops 37 (.sipush (-1999)) 3 := by unfold dc_at; decide +kernel
theorem dX8_loops_40 : dc_at mX8_loops 40 (.sipush (-1000)) 3 := by unfold dc_at; decide +kernel
theorem dX8_loops_43 : dc_at mX8_loops 43 (.invokestatic 54) 3 := by unfold dc_at; decide +kernel
theorem dX8_loops_46 : dc_at mX8_loops 46 (.ifCond .eq 7) 3 := by unfold dc_at; decide +kernel
theorem dX8_loops_49 : dc_at mX8_loops 49 (.iconst 1) 1 := by unfold dc_at; decide +kernel
theorem dX8_loops_50 : dc_at mX8_loops 50 (.goto 4) 3 := by unfold dc_at; decide +kernel
theorem dX8_loops_53 : dc_at mX8_loops 53 (.iconst 0) 1 := by unfold dc_at; decide +kernel
theorem dX8_loops_54 : dc_at mX8_loops 54 (.istore_n 3) 1 := by unfold dc_at; decide +kernel
theorem dX8_loops_55 : dc_at mX8_loops 55 (.iload_n 1) 1 := by unfold dc_at; decide +kernel
theorem dX8_loops_56 : dc_at mX8_loops 56 (.iload_n 3) 1 := by unfold dc_at; decide +kernel
theorem dX8_loops_57 : dc_at mX8_loops 57 (.ifCond .eq 7) 3 := by unfold dc_at; decide +kernel
theorem dX8_loops_60 : dc_at mX8_loops 60 (.iconst 1) 1 := by unfold dc_at; decide +kernel
theorem dX8_loops_61 : dc_at mX8_loops 61 (.goto 4) 3 := by unfold dc_at; decide +kernel
theorem dX8_loops_64 : dc_at mX8_loops 64 (.iconst 0) 1 := by unfold dc_at; decide +kernel
theorem dX8_loops_65 : dc_at mX8_loops 65 (.iadd) 1 := by unfold dc_at; decide +kernel
theorem dX8_loops_66 : dc_at mX8_loops 66 (.istore_n 1) 1 := by unfold dc_at; decide +kernel
theorem dX8_loops_67 : dc_at mX8_loops 67 (.iinc 2 1) 3 := by unfold dc_at; decide +kernel
theorem dX8_loops_70 : dc_at mX8_loops 70 (.goto (-66)) 3 := by unfold dc_at; decide +kernel
theorem dX8_loops_73 : dc_at mX8_loops 73 (.iload_n 1) 1 := by unfold dc_at; decide +kernel
theorem dX8_loops_74 : dc_at mX8_loops 74 (.ireturn) 1 := by unfold dc_at; decide +kernel
theorem dX8_putsAside_0 : dc_at mX8_putsAside 0 (.iconst 0) 1 := by unfold dc_at; decide +kernel
theorem dX8_putsAside_1 : dc_at mX8_putsAside 1 (.istore_n 1) 1 := by unfold dc_at; decide +kernel
theorem dX8_putsAside_2 : dc_at mX8_putsAside 2 (.iload_n 1) 1 := by unfold dc_at; decide +kernel
theorem dX8_putsAside_3 : dc_at mX8_putsAside 3 (.sipush 3596) 3 := by unfold dc_at; decide +kernel
theorem dX8_putsAside_6 : dc_at mX8_putsAside 6 (.if_icmp .ge 21) 3 := by unfold dc_at; decide +kernel
theorem dX8_putsAside_9 : dc_at mX8_putsAside 9 (.aload_n 0) 1 := by unfold dc_at; decide +kernel
theorem dX8_putsAside_10 : dc_at mX8_putsAside 10 (.getfield 17) 3 := by unfold dc_at; decide +kernel
theorem dX8_putsAside_13 : dc_at mX8_putsAside 13 (.iload_n 1) 1 := by unfold dc_at; decide +kernel
theorem dX8_putsAside_14 : dc_at mX8_putsAside 14 (.aload_n 0) 1 := by unfold dc_at; decide +kernel
theorem dX8_putsAside_15 : dc_at mX8_putsAside 15 (.getfield 13) 3 := by unfold dc_at; decide +kernel
theorem dX8_putsAside_18 : dc_at mX8_putsAside 18 (.iload_n 1) 1 := by unfold dc_at; decide +kernel
theorem dX8_putsAside_19 : dc_at mX8_putsAside 19 (.iaload) 1 := by unfold dc_at; decide +kernel
theorem dX8_putsAside_20 : dc_at mX8_putsAside 20 (.iastore) 1 := by unfold dc_at; decide +kernel
theorem dX8_putsAside_21 : dc_at mX8_putsAside 21 (.iinc 1 1) 3 := by unfold dc_at; decide +kernel
theorem dX8_putsAside_24 : dc_at mX8_putsAside 24 (.goto (-22)) 3 := by unfold dc_at; decide +kernel
theorem dX8_putsAside_27 : dc_at mX8_putsAside 27 (.return_) 1 := by unfold dc_at; decide +kernel
theorem dX8_putsBack_0 : dc_at mX8_putsBack 0 (.iconst 0) 1 := by unfold dc_at; decide +kernel
theorem dX8_putsBack_1 : dc_at mX8_putsBack 1 (.istore_n 1) 1 := by unfold dc_at; decide +kernel
theorem dX8_putsBack_2 : dc_at mX8_putsBack 2 (.iload_n 1) 1 := by unfold dc_at; decide +kernel
theorem dX8_putsBack_3 : dc_at mX8_putsBack 3 (.sipush 3596) 3 := by unfold dc_at; decide +kernel
theorem dX8_putsBack_6 : dc_at mX8_putsBack 6 (.if_icmp .ge 21) 3 := by unfold dc_at; decide +kernel
theorem dX8_putsBack_9 : dc_at mX8_putsBack 9 (.aload_n 0) 1 := by unfold dc_at; decide +kernel
theorem dX8_putsBack_10 : dc_at mX8_putsBack 10 (.getfield 13) 3 := by unfold dc_at; decide +kernel
theorem dX8_putsBack_13 : dc_at mX8_putsBack 13 (.iload_n 1) 1 := by unfold dc_at; decide +kernel
theorem dX8_putsBack_14 : dc_at mX8_putsBack 14 (.aload_n 0) 1 := by unfold dc_at; decide +kernel
theorem dX8_putsBack_15 : dc_at mX8_putsBack 15 (.getfield 17) 3 := by unfold dc_at; decide +kernel
theorem dX8_putsBack_18 : dc_at mX8_putsBack 18 (.iload_n 1) 1 := by unfold dc_at; decide +kernel
theorem dX8_putsBack_19 : dc_at mX8_putsBack 19 (.iaload) 1 := by unfold dc_at; decide +kernel
theorem dX8_putsBack_20 : dc_at mX8_putsBack 20 (.iastore) 1 := by unfold dc_at; decide +kernel
theorem dX8_putsBack_21 : dc_at mX8_putsBack 21 (.iinc 1 1) 3 := by unfold dc_at; decide +kernel
theorem dX8_putsBack_24 : dc_at mX8_putsBack 24 (.goto (-22)) 3 := by unfold dc_at; decide +kernel
theorem dX8_putsBack_27 : dc_at mX8_putsBack 27 (.return_) 1 := by unfold dc_at; decide +kernel
theorem dX8_settling_0 : dc_at mX8_settling 0 (.aload_n 0) 1 := by unfold dc_at; decide +kernel
theorem dX8_settling_1 : dc_at mX8_settling 1 (.invokevirtual 160) 3 := by unfold dc_at; decide +kernel
theorem dX8_settling_4 : dc_at mX8_settling 4 (.iconst 1) 1 := by unfold dc_at; decide +kernel
theorem dX8_settling_5 : dc_at mX8_settling 5 (.istore_n 1) 1 := by unfold dc_at; decide +kernel
theorem dX8_settling_6 : dc_at mX8_settling 6 (.iload_n 1) 1 := by unfold dc_at; decide +kernel
theorem dX8_settling_7 : dc_at mX8_settling 7 (.sipush 240) 3 := by unfold dc_at; decide +kernel
theorem dX8_settling_10 : dc_at mX8_settling 10 (.if_icmp .gt 31) 3 := by unfold dc_at; decide +kernel
theorem dX8_settling_13 : dc_at mX8_settling 13 (.aload_n 0) 1 := by unfold dc_at; decide +kernel
theorem dX8_settling_14 : dc_at mX8_settling 14 (.invokevirtual 142) 3 := by unfold dc_at; decide +kernel
theorem dX8_settling_17 : dc_at mX8_settling 17 (.aload_n 0) 1 := by unfold dc_at; decide +kernel
theorem dX8_settling_18 : dc_at mX8_settling 18 (.getfield 48) 3 := by unfold dc_at; decide +kernel
theorem dX8_settling_21 : dc_at mX8_settling 21 (.iload_n 1) 1 := by unfold dc_at; decide +kernel
theorem dX8_settling_22 : dc_at mX8_settling 22 (.aload_n 0) 1 := by unfold dc_at; decide +kernel
theorem dX8_settling_23 : dc_at mX8_settling 23 (.getfield 121) 3 := by unfold dc_at; decide +kernel
theorem dX8_settling_26 : dc_at mX8_settling 26 (.ifCond .le 7) 3 := by unfold dc_at; decide +kernel
theorem dX8_settling_29 : dc_at mX8_settling 29 (.iconst 1) 1 := by unfold dc_at; decide +kernel
theorem dX8_settling_30 : dc_at mX8_settling 30 (.goto 4) 3 := by unfold dc_at; decide +kernel
theorem dX8_settling_33 : dc_at mX8_settling 33 (.iconst 0) 1 := by unfold dc_at; decide +kernel
theorem dX8_settling_34 : dc_at mX8_settling 34 (.bastore) 1 := by unfold dc_at; decide +kernel
theorem dX8_settling_35 : dc_at mX8_settling 35 (.iinc 1 1) 3 := by unfold dc_at; decide +kernel
theorem dX8_settling_38 : dc_at mX8_settling 38 (.goto (-32)) 3 := by unfold dc_at; decide +kernel
theorem dX8_settling_41 : dc_at mX8_settling 41 (.aload_n 0) 1 := by unfold dc_at; decide +kernel
theorem dX8_settling_42 : dc_at mX8_settling 42 (.invokevirtual 163) 3 := by unfold dc_at; decide +kernel
theorem dX8_settling_45 : dc_at mX8_settling 45 (.iconst 0) 1 := by unfold dc_at; decide +kernel
theorem dX8_settling_46 : dc_at mX8_settling 46 (.istore_n 1) 1 := by unfold dc_at; decide +kernel
theorem dX8_settling_47 : dc_at mX8_settling 47 (.iload_n 1) 1 := by unfold dc_at; decide +kernel
theorem dX8_settling_48 : dc_at mX8_settling 48 (.sipush 200) 3 := by unfold dc_at; decide +kernel
theorem dX8_settling_51 : dc_at mX8_settling 51 (.if_icmp .gt 54) 3 := by unfold dc_at; decide +kernel
theorem dX8_settling_54 : dc_at mX8_settling 54 (.iconst 1) 1 := by unfold dc_at; decide +kernel
theorem dX8_settling_55 : dc_at mX8_settling 55 (.istore_n 2) 1 := by unfold dc_at; decide +kernel
theorem dX8_settling_56 : dc_at mX8_settling 56 (.iload_n 1) 1 := by unfold dc_at; decide +kernel
theorem dX8_settling_57 : dc_at mX8_settling 57 (.iconst 1) 1 := by unfold dc_at; decide +kernel
theorem dX8_settling_58 : dc_at mX8_settling 58 (.iadd) 1 := by unfold dc_at; decide +kernel
theorem dX8_settling_59 : dc_at mX8_settling 59 (.istore_n 3) 1 := by unfold dc_at; decide +kernel
theorem dX8_settling_60 : dc_at mX8_settling 60 (.iload_n 3) 1 := by unfold dc_at; decide +kernel
theorem dX8_settling_61 : dc_at mX8_settling 61 (.iload_n 1) 1 := by unfold dc_at; decide +kernel
theorem dX8_settling_62 : dc_at mX8_settling 62 (.bipush 40) 2 := by unfold dc_at; decide +kernel
theorem dX8_settling_64 : dc_at mX8_settling 64 (.iadd) 1 := by unfold dc_at; decide +kernel
theorem dX8_settling_65 : dc_at mX8_settling 65 (.if_icmp .gt 28) 3 := by unfold dc_at; decide +kernel
theorem dX8_settling_68 : dc_at mX8_settling 68 (.iload_n 2) 1 := by unfold dc_at; decide +kernel
theorem dX8_settling_69 : dc_at mX8_settling 69 (.ifCond .eq 16) 3 := by unfold dc_at; decide +kernel
theorem dX8_settling_72 : dc_at mX8_settling 72 (.aload_n 0) 1 := by unfold dc_at; decide +kernel
theorem dX8_settling_73 : dc_at mX8_settling 73 (.getfield 48) 3 := by unfold dc_at; decide +kernel
theorem dX8_settling_76 : dc_at mX8_settling 76 (.iload_n 3) 1 := by unfold dc_at; decide +kernel
theorem dX8_settling_77 : dc_at mX8_settling 77 (.baload) 1 := by unfold dc_at; decide +kernel
theorem dX8_settling_78 : dc_at mX8_settling 78 (.ifCond .ne 7) 3 := by unfold dc_at; decide +kernel
theorem dX8_settling_81 : dc_at mX8_settling 81 (.iconst 1) 1 := by unfold dc_at; decide +kernel
theorem dX8_settling_82 : dc_at mX8_settling 82 (.goto 4) 3 := by unfold dc_at; decide +kernel
theorem dX8_settling_85 : dc_at mX8_settling 85 (.iconst 0) 1 := by unfold dc_at; decide +kernel
theorem dX8_settling_86 : dc_at mX8_settling 86 (.istore_n 2) 1 := by unfold dc_at; decide +kernel
theorem dX8_settling_87 : dc_at mX8_settling 87 (.iinc 3 1) 3 := by unfold dc_at; decide +kernel
theorem dX8_settling_90 : dc_at mX8_settling 90 (.goto (-30)) 3 := by unfold dc_at; decide +kernel
theorem dX8_settling_93 : dc_at mX8_settling 93 (.iload_n 2) 1 := by unfold dc_at; decide +kernel
theorem dX8_settling_94 : dc_at mX8_settling 94 (.ifCond .eq 5) 3 := by unfold dc_at; decide +kernel
theorem dX8_settling_97 : dc_at mX8_settling 97 (.iload_n 1) 1 := by unfold dc_at; decide +kernel
theorem dX8_settling_98 : dc_at mX8_settling 98 (.ireturn) 1 := by unfold dc_at; decide +kernel
theorem dX8_settling_99 : dc_at mX8_settling 99 (.iinc 1 1) 3 := by unfold dc_at; decide +kernel
theorem dX8_settling_102 : dc_at mX8_settling 102 (.goto (-55)) 3 := by unfold dc_at; decide +kernel
theorem dX8_settling_105 : dc_at mX8_settling 105 (.bipush (-4)) 2 := by unfold dc_at; decide +kernel
theorem dX8_settling_107 : dc_at mX8_settling 107 (.ireturn) 1 := by unfold dc_at; decide +kernel
theorem dX8_pairs_0 : dc_at mX8_pairs 0 (.aload_n 0) 1 := by unfold dc_at; decide +kernel
theorem dX8_pairs_1 : dc_at mX8_pairs 1 (.invokevirtual 154) 3 := by unfold dc_at; decide +kernel
theorem dX8_pairs_4 : dc_at mX8_pairs 4 (.iconst 0) 1 := by unfold dc_at; decide +kernel
theorem dX8_pairs_5 : dc_at mX8_pairs 5 (.istore_n 1) 1 := by unfold dc_at; decide +kernel
theorem dX8_pairs_6 : dc_at mX8_pairs 6 (.iconst 0) 1 := by unfold dc_at; decide +kernel
theorem dX8_pairs_7 : dc_at mX8_pairs 7 (.istore_n 2) 1 := by unfold dc_at; decide +kernel
theorem dX8_pairs_8 : dc_at mX8_pairs 8 (.iload_n 2) 1 := by unfold dc_at; decide +kernel
theorem dX8_pairs_9 : dc_at mX8_pairs 9 (.bipush 64) 2 := by unfold dc_at; decide +kernel
theorem dX8_pairs_11 : dc_at mX8_pairs 11 (.if_icmp .ge 41) 3 := by unfold dc_at; decide +kernel
theorem dX8_pairs_14 : dc_at mX8_pairs 14 (.iload_n 1) 1 := by unfold dc_at; decide +kernel
theorem dX8_pairs_15 : dc_at mX8_pairs 15 (.aload_n 0) 1 := by unfold dc_at; decide +kernel
theorem dX8_pairs_16 : dc_at mX8_pairs 16 (.iload_n 2) 1 := by unfold dc_at; decide +kernel
theorem dX8_pairs_17 : dc_at mX8_pairs 17 (.bipush 8) 2 := by unfold dc_at; decide +kernel
theorem dX8_pairs_19 : dc_at mX8_pairs 19 (.idiv) 1 := by unfold dc_at; decide +kernel
theorem dX8_pairs_20 : dc_at mX8_pairs 20 (.iload_n 2) 1 := by unfold dc_at; decide +kernel
theorem dX8_pairs_21 : dc_at mX8_pairs 21 (.bipush 8) 2 := by unfold dc_at; decide +kernel
theorem dX8_pairs_23 : dc_at mX8_pairs 23 (.irem) 1 := by unfold dc_at; decide +kernel
theorem dX8_pairs_24 : dc_at mX8_pairs 24 (.invokevirtual 74) 3 := by unfold dc_at; decide +kernel
theorem dX8_pairs_27 : dc_at mX8_pairs 27 (.ifCond .eq 16) 3 := by unfold dc_at; decide +kernel
theorem dX8_pairs_30 : dc_at mX8_pairs 30 (.aload_n 0) 1 := by unfold dc_at; decide +kernel
theorem dX8_pairs_31 : dc_at mX8_pairs 31 (.getfield 45) 3 := by unfold dc_at; decide +kernel
theorem dX8_pairs_34 : dc_at mX8_pairs 34 (.iload_n 2) 1 := by unfold dc_at; decide +kernel
theorem dX8_pairs_35 : dc_at mX8_pairs 35 (.iaload) 1 := by unfold dc_at; decide +kernel
theorem dX8_pairs_36 : dc_at mX8_pairs 36 (.ifCond .lt 7) 3 := by unfold dc_at; decide +kernel
theorem dX8_pairs_39 : dc_at mX8_pairs 39 (.iconst 1) 1 := by unfold dc_at; decide +kernel
theorem dX8_pairs_40 : dc_at mX8_pairs 40 (.goto 4) 3 := by unfold dc_at; decide +kernel
theorem dX8_pairs_43 : dc_at mX8_pairs 43 (.iconst 0) 1 := by unfold dc_at; decide +kernel
theorem dX8_pairs_44 : dc_at mX8_pairs 44 (.iadd) 1 := by unfold dc_at; decide +kernel
theorem dX8_pairs_45 : dc_at mX8_pairs 45 (.istore_n 1) 1 := by unfold dc_at; decide +kernel
theorem dX8_pairs_46 : dc_at mX8_pairs 46 (.iinc 2 1) 3 := by unfold dc_at; decide +kernel
theorem dX8_pairs_49 : dc_at mX8_pairs 49 (.goto (-41)) 3 := by unfold dc_at; decide +kernel
theorem dX8_pairs_52 : dc_at mX8_pairs 52 (.iload_n 1) 1 := by unfold dc_at; decide +kernel
theorem dX8_pairs_53 : dc_at mX8_pairs 53 (.ireturn) 1 := by unfold dc_at; decide +kernel
theorem dX8_loss_0 : dc_at mX8_loss 0 (.aload_n 0) 1 := by unfold dc_at; decide +kernel
theorem dX8_loss_1 : dc_at mX8_loss 1 (.iload_n 1) 1 := by unfold dc_at; decide +kernel
theorem dX8_loss_2 : dc_at mX8_loss 2 (.iload_n 2) 1 := by unfold dc_at; decide +kernel
theorem dX8_loss_3 : dc_at mX8_loss 3 (.invokevirtual 74) 3 := by unfold dc_at; decide +kernel
theorem dX8_loss_6 : dc_at mX8_loss 6 (.ifCond .ne 5) 3 := by unfold dc_at; decide +kernel
theorem dX8_loss_9 : dc_at mX8_loss 9 (.iconst (-1)) 1 := by unfold dc_at; decide +kernel
theorem dX8_loss_10 : dc_at mX8_loss 10 (.ireturn) 1 := by unfold dc_at; decide +kernel
theorem dX8_loss_11 : dc_at mX8_loss 11 (.aload_n 0) 1 := by unfold dc_at; decide +kernel
theorem dX8_loss_12 : dc_at mX8_loss 12 (.iload_n 1) 1 := by unfold dc_at; decide +kernel
theorem dX8_loss_13 : dc_at mX8_loss 13 (.iload_n 2) 1 := by unfold dc_at; decide +kernel
theorem dX8_loss_14 : dc_at mX8_loss 14 (.invokevirtual 66) 3 := by unfold dc_at; decide +kernel
theorem dX8_loss_17 : dc_at mX8_loss 17 (.ifCond .ne 6) 3 := by unfold dc_at; decide +kernel
theorem dX8_loss_20 : dc_at mX8_loss 20 (.bipush (-4)) 2 := by unfold dc_at; decide +kernel
theorem dX8_loss_22 : dc_at mX8_loss 22 (.ireturn) 1 := by unfold dc_at; decide +kernel
theorem dX8_loss_23 : dc_at mX8_loss 23 (.aload_n 0) 1 := by unfold dc_at; decide +kernel
theorem dX8_loss_24 : dc_at mX8_loss 24 (.invokevirtual 166) 3 := by unfold dc_at; decide +kernel
theorem dX8_loss_27 : dc_at mX8_loss 27 (.istore_n 3) 1 := by unfold dc_at; decide +kernel
theorem dX8_loss_28 : dc_at mX8_loss 28 (.aload_n 0) 1 := by unfold dc_at; decide +kernel
theorem dX8_loss_29 : dc_at mX8_loss 29 (.getfield 13) 3 := by unfold dc_at; decide +kernel
theorem dX8_loss_32 : dc_at mX8_loss 32 (.iload_n 1) 1 := by unfold dc_at; decide +kernel
theorem dX8_loss_33 : dc_at mX8_loss 33 (.iload_n 2) 1 := by unfold dc_at; decide +kernel
theorem dX8_loss_34 : dc_at mX8_loss 34 (.iconst 3) 1 := by unfold dc_at; decide +kernel
theorem dX8_loss_35 : dc_at mX8_loss 35 (.invokestatic 62) 3 := by unfold dc_at; decide +kernel
theorem dX8_loss_38 : dc_at mX8_loss 38 (.iaload) 1 := by unfold dc_at; decide +kernel
theorem dX8_loss_39 : dc_at mX8_loss 39 (.istore 4) 2 := by unfold dc_at; decide +kernel
theorem dX8_loss_41 : dc_at mX8_loss 41 (.aload_n 0) 1 := by unfold dc_at; decide +kernel
theorem dX8_loss_42 : dc_at mX8_loss 42 (.iload_n 1) 1 := by unfold dc_at; decide +kernel
theorem dX8_loss_43 : dc_at mX8_loss 43 (.iload_n 2) 1 := by unfold dc_at; decide +kernel
theorem dX8_loss_44 : dc_at mX8_loss 44 (.iconst 3) 1 := by unfold dc_at; decide +kernel
theorem dX8_loss_45 : dc_at mX8_loss 45 (.iconst 0) 1 := by unfold dc_at; decide +kernel
theorem dX8_loss_46 : dc_at mX8_loss 46 (.invokevirtual 77) 3 := by unfold dc_at; decide +kernel
theorem dX8_loss_49 : dc_at mX8_loss 49 (.aload_n 0) 1 := by unfold dc_at; decide +kernel
theorem dX8_loss_50 : dc_at mX8_loss 50 (.invokevirtual 166) 3 := by unfold dc_at; decide +kernel
theorem dX8_loss_53 : dc_at mX8_loss 53 (.istore 5) 2 := by unfold dc_at; decide +kernel
theorem dX8_loss_55 : dc_at mX8_loss 55 (.aload_n 0) 1 := by unfold dc_at; decide +kernel
theorem dX8_loss_56 : dc_at mX8_loss 56 (.iload_n 1) 1 := by unfold dc_at; decide +kernel
theorem dX8_loss_57 : dc_at mX8_loss 57 (.iload_n 2) 1 := by unfold dc_at; decide +kernel
theorem dX8_loss_58 : dc_at mX8_loss 58 (.iconst 3) 1 := by unfold dc_at; decide +kernel
theorem dX8_loss_59 : dc_at mX8_loss 59 (.iload 4) 2 := by unfold dc_at; decide +kernel
theorem dX8_loss_61 : dc_at mX8_loss 61 (.invokevirtual 77) 3 := by unfold dc_at; decide +kernel
theorem dX8_loss_64 : dc_at mX8_loss 64 (.iload_n 3) 1 := by unfold dc_at; decide +kernel
theorem dX8_loss_65 : dc_at mX8_loss 65 (.iload 5) 2 := by unfold dc_at; decide +kernel
theorem dX8_loss_67 : dc_at mX8_loss 67 (.isub) 1 := by unfold dc_at; decide +kernel
theorem dX8_loss_68 : dc_at mX8_loss 68 (.ireturn) 1 := by unfold dc_at; decide +kernel
theorem dX8_recovery_0 : dc_at mX8_recovery 0 (.aload_n 0) 1 := by unfold dc_at; decide +kernel
theorem dX8_recovery_1 : dc_at mX8_recovery 1 (.iload_n 1) 1 := by unfold dc_at; decide +kernel
theorem dX8_recovery_2 : dc_at mX8_recovery 2 (.iload_n 2) 1 := by unfold dc_at; decide +kernel
theorem dX8_recovery_3 : dc_at mX8_recovery 3 (.invokevirtual 74) 3 := by unfold dc_at; decide +kernel
theorem dX8_recovery_6 : dc_at mX8_recovery 6 (.ifCond .ne 5) 3 := by unfold dc_at; decide +kernel
theorem dX8_recovery_9 : dc_at mX8_recovery 9 (.iconst (-1)) 1 := by unfold dc_at; decide +kernel
theorem dX8_recovery_10 : dc_at mX8_recovery 10 (.ireturn) 1 := by unfold dc_at; decide +kernel
theorem dX8_recovery_11 : dc_at mX8_recovery 11 (.aload_n 0) 1 := by unfold dc_at; decide +kernel
theorem dX8_recovery_12 : dc_at mX8_recovery 12 (.iload_n 1) 1 := by unfold dc_at; decide +kernel
theorem dX8_recovery_13 : dc_at mX8_recovery 13 (.iload_n 2) 1 := by unfold dc_at; decide +kernel
theorem dX8_recovery_14 : dc_at mX8_recovery 14 (.invokevirtual 66) 3 := by unfold dc_at; decide +kernel
theorem dX8_recovery_17 : dc_at mX8_recovery 17 (.ifCond .ne 6) 3 := by unfold dc_at; decide +kernel
theorem dX8_recovery_20 : dc_at mX8_recovery 20 (.bipush (-4)) 2 := by unfold dc_at; decide +kernel
theorem dX8_recovery_22 : dc_at mX8_recovery 22 (.ireturn) 1 := by unfold dc_at; decide +kernel
theorem dX8_recovery_23 : dc_at mX8_recovery 23 (.aload_n 0) 1 := by unfold dc_at; decide +kernel
theorem dX8_recovery_24 : dc_at mX8_recovery 24 (.getfield 13) 3 := by unfold dc_at; decide +kernel
theorem dX8_recovery_27 : dc_at mX8_recovery 27 (.iload_n 1) 1 := by unfold dc_at; decide +kernel
theorem dX8_recovery_28 : dc_at mX8_recovery 28 (.iload_n 2) 1 := by unfold dc_at; decide +kernel
theorem dX8_recovery_29 : dc_at mX8_recovery 29 (.iconst 3) 1 := by unfold dc_at; decide +kernel
theorem dX8_recovery_30 : dc_at mX8_recovery 30 (.invokestatic 62) 3 := by unfold dc_at; decide +kernel
theorem dX8_recovery_33 : dc_at mX8_recovery 33 (.iaload) 1 := by unfold dc_at; decide +kernel
theorem dX8_recovery_34 : dc_at mX8_recovery 34 (.ifCond .ne 6) 3 := by unfold dc_at; decide +kernel
theorem dX8_recovery_37 : dc_at mX8_recovery 37 (.bipush (-2)) 2 := by unfold dc_at; decide +kernel
theorem dX8_recovery_39 : dc_at mX8_recovery 39 (.ireturn) 1 := by unfold dc_at; decide +kernel
theorem dX8_recovery_40 : dc_at mX8_recovery 40 (.aload_n 0) 1 := by unfold dc_at; decide +kernel
theorem dX8_recovery_41 : dc_at mX8_recovery 41 (.invokevirtual 160) 3 := by unfold dc_at; decide +kernel
theorem dX8_recovery_44 : dc_at mX8_recovery 44 (.aload_n 0) 1 := by unfold dc_at; decide +kernel
theorem dX8_recovery_45 : dc_at mX8_recovery 45 (.iload_n 1) 1 := by unfold dc_at; decide +kernel
theorem dX8_recovery_46 : dc_at mX8_recovery 46 (.iload_n 2) 1 := by unfold dc_at; decide +kernel
theorem dX8_recovery_47 : dc_at mX8_recovery 47 (.iconst 3) 1 := by unfold dc_at; decide +kernel
theorem dX8_recovery_48 : dc_at mX8_recovery 48 (.iconst 0) 1 := by unfold dc_at; decide +kernel
theorem dX8_recovery_49 : dc_at mX8_recovery 49 (.invokevirtual 77) 3 := by unfold dc_at; decide +kernel
theorem dX8_recovery_52 : dc_at mX8_recovery 52 (.bipush (-4)) 2 := by unfold dc_at; decide +kernel
theorem dX8_recovery_54 : dc_at mX8_recovery 54 (.istore_n 3) 1 := by unfold dc_at; decide +kernel
theorem dX8_recovery_55 : dc_at mX8_recovery 55 (.iconst 1) 1 := by unfold dc_at; decide +kernel
theorem dX8_recovery_56 : dc_at mX8_recovery 56 (.istore 4) 2 := by unfold dc_at; decide +kernel
theorem dX8_recovery_58 : dc_at mX8_recovery 58 (.iload 4) 2 := by unfold dc_at; decide +kernel
theorem dX8_recovery_60 : dc_at mX8_recovery 60 (.bipush 60) 2 := by unfold dc_at; decide +kernel
theorem dX8_recovery_62 : dc_at mX8_recovery 62 (.if_icmp .gt 48) 3 := by unfold dc_at; decide +kernel
theorem dX8_recovery_65 : dc_at mX8_recovery 65 (.aload_n 0) 1 := by unfold dc_at; decide +kernel
theorem dX8_recovery_66 : dc_at mX8_recovery 66 (.invokevirtual 142) 3 := by unfold dc_at; decide +kernel
theorem dX8_recovery_69 : dc_at mX8_recovery 69 (.aload_n 0) 1 := by unfold dc_at; decide +kernel
theorem dX8_recovery_70 : dc_at mX8_recovery 70 (.invokevirtual 170) 3 := by unfold dc_at; decide +kernel
theorem dX8_recovery_73 : dc_at mX8_recovery 73 (.ifCond .ne 7) 3 := by unfold dc_at; decide +kernel
theorem dX8_recovery_76 : dc_at mX8_recovery 76 (.iconst 1) 1 := by unfold dc_at; decide +kernel
theorem dX8_recovery_77 : dc_at mX8_recovery 77 (.goto 4) 3 := by unfold dc_at; decide +kernel
theorem dX8_recovery_80 : dc_at mX8_recovery 80 (.iconst 0) 1 := by unfold dc_at; decide +kernel
theorem dX8_recovery_81 : dc_at mX8_recovery 81 (.istore 5) 2 := by unfold dc_at; decide +kernel
theorem dX8_recovery_83 : dc_at mX8_recovery 83 (.iload 5) 2 := by unfold dc_at; decide +kernel
theorem dX8_recovery_85 : dc_at mX8_recovery 85 (.ifCond .ne 8) 3 := by unfold dc_at; decide +kernel
theorem dX8_recovery_88 : dc_at mX8_recovery 88 (.bipush (-4)) 2 := by unfold dc_at; decide +kernel
theorem dX8_recovery_90 : dc_at mX8_recovery 90 (.goto 13) 3 := by unfold dc_at; decide +kernel
theorem dX8_recovery_93 : dc_at mX8_recovery 93 (.iload_n 3) 1 := by unfold dc_at; decide +kernel
theorem dX8_recovery_94 : dc_at mX8_recovery 94 (.ifCond .ge 8) 3 := by unfold dc_at; decide +kernel
theorem dX8_recovery_97 : dc_at mX8_recovery 97 (.iload 4) 2 := by unfold dc_at; decide +kernel
theorem dX8_recovery_99 : dc_at mX8_recovery 99 (.goto 4) 3 := by unfold dc_at; decide +kernel
theorem dX8_recovery_102 : dc_at mX8_recovery 102 (.iload_n 3) 1 := by unfold dc_at; decide +kernel
theorem dX8_recovery_103 : dc_at mX8_recovery 103 (.istore_n 3) 1 := by unfold dc_at; decide +kernel
theorem dX8_recovery_104 : dc_at mX8_recovery 104 (.iinc 4 1) 3 := by unfold dc_at; decide +kernel
theorem dX8_recovery_107 : dc_at mX8_recovery 107 (.goto (-49)) 3 := by unfold dc_at; decide +kernel
theorem dX8_recovery_110 : dc_at mX8_recovery 110 (.aload_n 0) 1 := by unfold dc_at; decide +kernel
theorem dX8_recovery_111 : dc_at mX8_recovery 111 (.invokevirtual 163) 3 := by unfold dc_at; decide +kernel
theorem dX8_recovery_114 : dc_at mX8_recovery 114 (.iload_n 3) 1 := by unfold dc_at; decide +kernel
theorem dX8_recovery_115 : dc_at mX8_recovery 115 (.ireturn) 1 := by unfold dc_at; decide +kernel
theorem dX8_store_0 : dc_at mX8_store 0 (.iconst 0) 1 := by unfold dc_at; decide +kernel
theorem dX8_store_1 : dc_at mX8_store 1 (.istore_n 1) 1 := by unfold dc_at; decide +kernel
theorem dX8_store_2 : dc_at mX8_store 2 (.iload_n 1) 1 := by unfold dc_at; decide +kernel
theorem dX8_store_3 : dc_at mX8_store 3 (.sipush 3596) 3 := by unfold dc_at; decide +kernel
theorem dX8_store_6 : dc_at mX8_store 6 (.if_icmp .ge 21) 3 := by unfold dc_at; decide +kernel
theorem dX8_store_9 : dc_at mX8_store 9 (.aload_n 0) 1 := by unfold dc_at; decide +kernel
theorem dX8_store_10 : dc_at mX8_store 10 (.getfield 20) 3 := by unfold dc_at; decide +kernel
theorem dX8_store_13 : dc_at mX8_store 13 (.iload_n 1) 1 := by unfold dc_at; decide +kernel
theorem dX8_store_14 : dc_at mX8_store 14 (.aload_n 0) 1 := by unfold dc_at; decide +kernel
theorem dX8_store_15 : dc_at mX8_store 15 (.getfield 13) 3 := by unfold dc_at; decide +kernel
theorem dX8_store_18 : dc_at mX8_store 18 (.iload_n 1) 1 := by unfold dc_at; decide +kernel
theorem dX8_store_19 : dc_at mX8_store 19 (.iaload) 1 := by unfold dc_at; decide +kernel
theorem dX8_store_20 : dc_at mX8_store 20 (.iastore) 1 := by unfold dc_at; decide +kernel
theorem dX8_store_21 : dc_at mX8_store 21 (.iinc 1 1) 3 := by unfold dc_at; decide +kernel
theorem dX8_store_24 : dc_at mX8_store 24 (.goto (-22)) 3 := by unfold dc_at; decide +kernel
theorem dX8_store_27 : dc_at mX8_store 27 (.aload_n 0) 1 := by unfold dc_at; decide +kernel
theorem dX8_store_28 : dc_at mX8_store 28 (.iconst 1) 1 := by unfold dc_at; decide +kernel
theorem dX8_store_29 : dc_at mX8_store 29 (.putfield 70) 3 := by unfold dc_at; decide +kernel
theorem dX8_store_32 : dc_at mX8_store 32 (.aload_n 0) 1 := by unfold dc_at; decide +kernel
theorem dX8_store_33 : dc_at mX8_store 33 (.getfield 13) 3 := by unfold dc_at; decide +kernel
theorem dX8_store_36 : dc_at mX8_store 36 (.sipush 3593) 3 := by unfold dc_at; decide +kernel
theorem dX8_store_39 : dc_at mX8_store 39 (.iaload) 1 := by unfold dc_at; decide +kernel
theorem dX8_store_40 : dc_at mX8_store 40 (.ireturn) 1 := by unfold dc_at; decide +kernel
theorem dX8_recall_0 : dc_at mX8_recall 0 (.aload_n 0) 1 := by unfold dc_at; decide +kernel
theorem dX8_recall_1 : dc_at mX8_recall 1 (.getfield 70) 3 := by unfold dc_at; decide +kernel
theorem dX8_recall_4 : dc_at mX8_recall 4 (.ifCond .ne 6) 3 := by unfold dc_at; decide +kernel
theorem dX8_recall_7 : dc_at mX8_recall 7 (.bipush (-2)) 2 := by unfold dc_at; decide +kernel
theorem dX8_recall_9 : dc_at mX8_recall 9 (.ireturn) 1 := by unfold dc_at; decide +kernel
theorem dX8_recall_10 : dc_at mX8_recall 10 (.iconst 0) 1 := by unfold dc_at; decide +kernel
theorem dX8_recall_11 : dc_at mX8_recall 11 (.istore_n 1) 1 := by unfold dc_at; decide +kernel
theorem dX8_recall_12 : dc_at mX8_recall 12 (.iload_n 1) 1 := by unfold dc_at; decide +kernel
theorem dX8_recall_13 : dc_at mX8_recall 13 (.sipush 3596) 3 := by unfold dc_at; decide +kernel
theorem dX8_recall_16 : dc_at mX8_recall 16 (.if_icmp .ge 21) 3 := by unfold dc_at; decide +kernel
theorem dX8_recall_19 : dc_at mX8_recall 19 (.aload_n 0) 1 := by unfold dc_at; decide +kernel
theorem dX8_recall_20 : dc_at mX8_recall 20 (.getfield 13) 3 := by unfold dc_at; decide +kernel
theorem dX8_recall_23 : dc_at mX8_recall 23 (.iload_n 1) 1 := by unfold dc_at; decide +kernel
theorem dX8_recall_24 : dc_at mX8_recall 24 (.aload_n 0) 1 := by unfold dc_at; decide +kernel
theorem dX8_recall_25 : dc_at mX8_recall 25 (.getfield 20) 3 := by unfold dc_at; decide +kernel
theorem dX8_recall_28 : dc_at mX8_recall 28 (.iload_n 1) 1 := by unfold dc_at; decide +kernel
theorem dX8_recall_29 : dc_at mX8_recall 29 (.iaload) 1 := by unfold dc_at; decide +kernel
theorem dX8_recall_30 : dc_at mX8_recall 30 (.iastore) 1 := by unfold dc_at; decide +kernel
theorem dX8_recall_31 : dc_at mX8_recall 31 (.iinc 1 1) 3 := by unfold dc_at; decide +kernel
theorem dX8_recall_34 : dc_at mX8_recall 34 (.goto (-22)) 3 := by unfold dc_at; decide +kernel
theorem dX8_recall_37 : dc_at mX8_recall 37 (.aload_n 0) 1 := by unfold dc_at; decide +kernel
theorem dX8_recall_38 : dc_at mX8_recall 38 (.getfield 13) 3 := by unfold dc_at; decide +kernel
theorem dX8_recall_41 : dc_at mX8_recall 41 (.sipush 3593) 3 := by unfold dc_at; decide +kernel
theorem dX8_recall_44 : dc_at mX8_recall 44 (.iaload) 1 := by unfold dc_at; decide +kernel
theorem dX8_recall_45 : dc_at mX8_recall 45 (.ireturn) 1 := by unfold dc_at; decide +kernel
end
section
/-! base 1: abstract values, places, memory; the world of a memory -/
abbrev Vl_ : Type := Int32 ⊕ ((Nat × Nat) ⊕ UInt32)
abbrev vI (x : Int32) : Vl_ := .inl x
abbrev vR (g r : Nat) : Vl_ := .inr (.inl (g, r))
abbrev vF (f : UInt32) : Vl_ := .inr (.inr f)
abbrev Mm_ : Type := Nat → Nat → Nat → Int32
def tr_ (ad : Nat × Nat → Nat) : Vl_ → Value
  | .inl x => .int x
  | .inr (.inl q) => .ref (ad q)
  | .inr (.inr f) => .float f
/-- a place's class (none: an array) -/
def k_cls : Nat → Option Nat
  | 0 => some 2 | 1 => some 1 | 6 => some 4 | 12 => some 5 | 15 => some 0 | 18 => some 7 | 20 => some 3 | 30 => some 6 | 33 => some 8 | _ => none
/-- a place's fields: a number, or the place that it refers to -/
def k_fld (g : Nat) : Nat → List (Option (Nat × Nat))
  | 0 => [none, none, none, some (g, 1), some (g, 6), some (g, 12), some (g, 15), some (g, 17)]
  | 1 => [none, some (g, 2), some (g, 3), some (g, 4), some (g, 5)]
  | 6 => [some (g, 7), some (g, 8), some (g, 9), some (g, 10), some (g, 11)]
  | 12 => [some (g, 13), some (g, 14)]
  | 15 => [some (g, 16), none]
  | 18 => [some (0, 19), some (1, 0), some (2, 0), some (3, 0), some (0, 20), some (0, 30), some (0, 32), none]
  | 20 => [some (0, 21), some (0, 22), some (0, 23), some (0, 24), none, some (0, 25), some (0, 26), some (0, 27), some (0, 28), some (0, 29), none]
  | 30 => [some (0, 31)]
  | 33 => [none, some (0, 34), some (0, 35), some (0, 36), none, some (0, 37), some (0, 38), some (0, 39), some (0, 40), some (0, 41), some (0, 42), some (0, 43), some (0, 44), some (0, 45), none]
  | _ => []
/-- an array's length -/
def k_len : Nat → Nat
  | 2 => 64 | 3 => 64 | 4 => 64 | 5 => 64 | 7 => 512 | 8 => 512 | 9 => 512 | 10 => 512 | 11 => 512 | 13 => 64 | 14 => 64 | 16 => 64 | 17 => 64
  | 19 => 10 | 21 => 64 | 22 => 64 | 23 => 64 | 24 => 8 | 25 => 8 | 26 => 8 | 27 => 8 | 28 => 8 | 29 => 8 | 31 => 64 | 32 => 8
  | 34 => 3596 | 35 => 3596 | 36 => 3596 | 37 => 10 | 38 => 10 | 39 => 10 | 40 => 64 | 41 => 64 | 42 => 64 | 43 => 8 | 44 => 64 | 45 => 241 | _ => 0
def k_isZ : Nat → Bool
  | 32 => true | 43 => true | 45 => true | _ => false
def f_vals (ad : Nat × Nat → Nat) (f : Nat → Int32) : Nat → List (Option (Nat × Nat)) → List Value
  | _, [] => []
  | k, some q :: r => .ref (ad q) :: f_vals ad f (k + 1) r
  | k, none :: r => .int (f k) :: f_vals ad f (k + 1) r
def c_of (ad : Nat × Nat → Nat) (cI cZ : ClassId) (V : Mm_) (q : Nat × Nat) : va_E := match k_cls q.2 with
  | some ci => .inr (ci, f_vals ad (V q.1 q.2) 0 (k_fld q.1 q.2))
  | none => .inl (if k_isZ q.2 = true then cZ else cI, k_len q.2, .inl (V q.1 q.2))
def w_of (ad : Nat × Nat → Nat) (cI cZ : ClassId) (PL : List (Nat × Nat)) (V : Mm_) : va_W := PL.map (fun q => (ad q, c_of ad cI cZ V q))
/-- memory: a place's numbers anew -/
def a_set (V : Mm_) (g r : Nat) (f : Nat → Int32) : Mm_ := fun g' r' => if g' = g ∧ r' = r then f else V g' r'
abbrev m_set (V : Mm_) (g r i : Nat) (x : Int32) : Mm_ := a_set V g r (upd (V g r) i x)
theorem w_at {ad : Nat × Nat → Nat} {cI cZ : ClassId} {PL : List (Nat × Nat)} {V : Mm_} {q : Nat × Nat} (h : q ∈ PL) : ∃ i : Nat, PL[i]? = some q ∧ (w_of ad cI cZ PL V)[i]? = some (ad q, c_of ad cI cZ V q) := by
  obtain ⟨i, hi⟩ := List.getElem?_of_mem h
  exact ⟨i, hi, by rw [w_of, List.getElem?_map, hi]; rfl⟩
theorem f_vals_len (ad : Nat × Nat → Nat) (f : Nat → Int32) : ∀ (l : List (Option (Nat × Nat))) (k : Nat), (f_vals ad f k l).length = l.length
  | [], _ => rfl
  | some _ :: r, k => by simp [f_vals, f_vals_len ad f r (k + 1)]
  | none :: r, k => by simp [f_vals, f_vals_len ad f r (k + 1)]
theorem f_vals_get (ad : Nat × Nat → Nat) (f : Nat → Int32) : ∀ (l : List (Option (Nat × Nat))) (k i : Nat) (o : Option (Nat × Nat)), l[i]? = some o → (f_vals ad f k l)[i]? = some (match o with | some q => Value.ref (ad q) | none => .int (f (k + i)))
  | [], _, i, o, h => by simp at h
  | a :: r, k, 0, o, h => by
    simp only [List.getElem?_cons_zero, Option.some.injEq] at h
    subst h
    cases a <;> rfl
  | a :: r, k, i + 1, o, h => by
    simp only [List.getElem?_cons_succ] at h
    have h2 := f_vals_get ad f r (k + 1) i o h
    rw [show k + 1 + i = k + (i + 1) by omega] at h2
    cases a <;> simpa [f_vals] using h2
theorem f_vals_cong (ad : Nat × Nat → Nat) {f g : Nat → Int32} : ∀ (l : List (Option (Nat × Nat))) (k : Nat), (∀ i, k ≤ i → f i = g i) → f_vals ad f k l = f_vals ad g k l
  | [], _, _ => rfl
  | some q :: r, k, h => by simp only [f_vals]; rw [f_vals_cong ad r (k + 1) (fun i hi => h i (by omega))]
  | none :: r, k, h => by simp only [f_vals]; rw [h k (Nat.le_refl k), f_vals_cong ad r (k + 1) (fun i hi => h i (by omega))]
theorem f_vals_set (ad : Nat × Nat → Nat) (f : Nat → Int32) (x : Int32) : ∀ (l : List (Option (Nat × Nat))) (k i : Nat), l[i]? = some none → (f_vals ad f k l).set i (.int x) = f_vals ad (upd f (k + i) x) k l
  | [], _, i, h => by simp at h
  | a :: r, k, 0, h => by
    simp only [List.getElem?_cons_zero, Option.some.injEq] at h
    subst h
    simp only [f_vals, List.set_cons_zero, Nat.add_zero]
    rw [pk_us]
    exact congrArg _ (f_vals_cong ad r (k + 1) (fun i hi => by rw [pk_un (by omega)]))
  | a :: r, k, i + 1, h => by
    simp only [List.getElem?_cons_succ] at h
    have h2 := f_vals_set ad f x r (k + 1) i h
    rw [show k + 1 + i = k + (i + 1) by omega] at h2
    cases a with
    | some q => simp only [f_vals, List.set_cons_succ]; rw [h2]
    | none => simp only [f_vals, List.set_cons_succ]; rw [h2, pk_un (by omega)]
theorem w_D {ad : Nat × Nat → Nat} {cI cZ : ClassId} {PL : List (Nat × Nat)} {V V' : Mm_} {A : Nat → Prop} (h : va_D A (w_of ad cI cZ PL V)) : va_D A (w_of ad cI cZ PL V') := by
  have key : ∀ (k : Nat) (q : Nat × va_E), (w_of ad cI cZ PL V')[k]? = some q → ∃ q0, (w_of ad cI cZ PL V)[k]? = some q0 ∧ q0.1 = q.1 := by
    intro k q hk
    rw [w_of, List.getElem?_map] at hk
    cases hp : PL[k]? with
    | none => rw [hp] at hk; cases hk
    | some p =>
      rw [hp] at hk
      cases hk
      exact ⟨(ad p, c_of ad cI cZ V p), by rw [w_of, List.getElem?_map, hp]; rfl, rfl⟩
  refine ⟨fun i j x y hi hj hxy => ?_, fun k q hk => ?_⟩
  · obtain ⟨x0, h1, h2⟩ := key i x hi
    obtain ⟨y0, h3, h4⟩ := key j y hj
    exact h.1 i j x0 y0 h1 h3 (h2.trans (hxy.trans h4.symm))
  · obtain ⟨q0, h1, h2⟩ := key k q hk
    rw [← h2]
    exact h.2 k q0 h1
/-- one cell of the world anew: the world of the memory that is changed there -/
theorem w_set {ad : Nat × Nat → Nat} {cI cZ : ClassId} {PL : List (Nat × Nat)} {V : Mm_} {A : Nat → Prop} {g r i : Nat} {f : Nat → Int32} (hD : va_D A (w_of ad cI cZ PL V)) (hi : PL[i]? = some (g, r)) {e : va_E} (he : e = c_of ad cI cZ (a_set V g r f) (g, r)) : (w_of ad cI cZ PL V).set i (ad (g, r), e) = w_of ad cI cZ PL (a_set V g r f) := by
  subst he
  apply List.ext_getElem?
  intro k
  have hl := (List.getElem?_eq_some_iff.mp hi).1
  by_cases hk : k = i
  · subst hk
    rw [List.getElem?_set_self (by rw [w_of, List.length_map]; exact hl), w_of, List.getElem?_map, hi]
    rfl
  · rw [List.getElem?_set_ne (Ne.symm hk), w_of, w_of, List.getElem?_map, List.getElem?_map]
    cases hp : PL[k]? with
    | none => rfl
    | some p =>
      have hne : p ≠ (g, r) := by
        intro z
        subst z
        exact hk (hD.1 k i (ad (g, r), c_of ad cI cZ V (g, r)) (ad (g, r), c_of ad cI cZ V (g, r)) (by rw [w_of, List.getElem?_map, hp]; rfl) (by rw [w_of, List.getElem?_map, hi]; rfl) rfl)
      have hV : a_set V g r f p.1 p.2 = V p.1 p.2 := by
        unfold a_set
        rw [if_neg]
        rintro ⟨h1, h2⟩
        exact hne (Prod.ext h1 h2)
      simp only [Option.map_some]
      unfold c_of
      rw [hV]
theorem a_self (V : Mm_) (g r : Nat) (f : Nat → Int32) : a_set V g r f g r = f := by unfold a_set; rw [if_pos ⟨rfl, rfl⟩]
end
section
/-! base 2: the judgement: from a point of a method (places, memory) the run comes to points of which Φ holds -/
def st_L : Nat → Int32 := fun j => ([1, 1, 0, 0, 0, 0, 100, 0, 1, 1] : List Int32).getD j 0
def st_M : Nat → Int32 := fun j => ([20, 100, 2, 2, 0, 0, 30000, 1, 20, 50] : List Int32).getD j 0
/-- the class's two tables, at places (0, 47) and (0, 48), which nobody writes -/
def s_tat (ad : Nat × Nat → Nat) (A : Nat → Prop) (U : State) (H : Heap) : Prop :=
  va_Z "IntervalRouting" "LEAST_SETTING" "[I" (.ref (ad (0, 47))) A U H ∧ va_T .int (ad (0, 47)) 10 (fun j => .int (st_L j)) A U H ∧ va_Z "IntervalRouting" "MOST_SETTING" "[I" (.ref (ad (0, 48))) A U H ∧ va_T .int (ad (0, 48)) 10 (fun j => .int (st_M j)) A U H
abbrev t_ys (cI cZ : ClassId) : List (ClassId × FieldType) := [(cI, .int), (cZ, .boolean)]
/-- what a place refers to is a place -/
def p_lc (PL : List (Nat × Nat)) : Prop := ∀ q ∈ PL, ∀ (k : Nat) (q' : Nat × Nat), (k_fld q.1 q.2)[k]? = some (some q') → q' ∈ PL
def ok_v (PL : List (Nat × Nat)) : Vl_ → Prop
  | .inl _ => True
  | .inr (.inl q) => q ∈ PL ∨ q = (0, 47) ∨ q = (0, 48)
  | .inr (.inr _) => True
def ok_s (PL : List (Nat × Nat)) : List Vl_ → Prop
  | [] => True
  | v :: r => ok_v PL v ∧ ok_s PL r
def ok_l (PL : List (Nat × Nat)) : List (Option Vl_) → Prop
  | [] => True
  | none :: r => ok_l PL r
  | some v :: r => ok_v PL v ∧ ok_l PL r
theorem ok_v.pl {PL : List (Nat × Nat)} {g r : Nat} (h : ok_v PL (vR g r)) (hr : r < 46) : (g, r) ∈ PL := by
  rcases h with h | h | h
  · exact h
  · cases h; omega
  · cases h; omega
theorem ok_l.get {PL : List (Nat × Nat)} : ∀ {lo : List (Option Vl_)} {i : Nat} {v : Vl_}, ok_l PL lo → lo[i]? = some (some v) → ok_v PL v
  | [], i, v, _, h => by simp at h
  | none :: r, 0, v, _, h => by simp at h
  | some w :: r, 0, v, ho, h => by
    simp only [List.getElem?_cons_zero, Option.some.injEq] at h
    subst h
    exact ho.1
  | none :: r, i + 1, v, ho, h => by
    simp only [List.getElem?_cons_succ] at h
    exact ok_l.get (lo := r) ho h
  | some w :: r, i + 1, v, ho, h => by
    simp only [List.getElem?_cons_succ] at h
    exact ok_l.get (lo := r) ho.2 h
theorem ok_l.set {PL : List (Nat × Nat)} {v : Vl_} (hv : ok_v PL v) : ∀ {lo : List (Option Vl_)} {i : Nat}, ok_l PL lo → ok_l PL (lo.set i (some v))
  | [], _, _ => trivial
  | none :: r, 0, ho => ⟨hv, ho⟩
  | some w :: r, 0, ho => ⟨hv, ho.2⟩
  | none :: r, i + 1, ho => ok_l.set (lo := r) (i := i) hv ho
  | some w :: r, i + 1, ho => ⟨ho.1, ok_l.set (lo := r) (i := i) hv ho.2⟩
theorem tr_cat (ad : Nat × Nat → Nat) (v : Vl_) : (tr_ ad v).category = 1 := by
  rcases v with x | q | f <;> rfl
def l_en (ad : Nat × Nat → Nat) : Nat → List (Option Vl_) → List (Nat × Value)
  | _, [] => []
  | k, none :: r => l_en ad (k + 1) r
  | k, some v :: r => (k, tr_ ad v) :: l_en ad (k + 1) r
theorem l_en_in {ad : Nat × Nat → Nat} : ∀ {lo : List (Option Vl_)} {k i : Nat} {v : Vl_}, lo[i]? = some (some v) → (k + i, tr_ ad v) ∈ l_en ad k lo
  | [], k, i, v, h => by simp at h
  | none :: r, k, 0, v, h => by simp at h
  | some w :: r, k, 0, v, h => by
    simp only [List.getElem?_cons_zero, Option.some.injEq] at h
    subst h
    exact List.mem_cons_self
  | none :: r, k, i + 1, v, h => by
    simp only [List.getElem?_cons_succ] at h
    have := l_en_in (ad := ad) (lo := r) (k := k + 1) h
    rwa [show k + 1 + i = k + (i + 1) by omega] at this
  | some w :: r, k, i + 1, v, h => by
    simp only [List.getElem?_cons_succ] at h
    have := l_en_in (ad := ad) (lo := r) (k := k + 1) h
    rw [show k + 1 + i = k + (i + 1) by omega] at this
    exact List.mem_cons_of_mem _ this
theorem l_en_of {ad : Nat × Nat → Nat} : ∀ {lo : List (Option Vl_)} {k : Nat} {q : Nat × Value}, q ∈ l_en ad k lo → ∃ (i : Nat) (v : Vl_), q = (k + i, tr_ ad v) ∧ lo[i]? = some (some v)
  | [], k, q, h => by cases h
  | none :: r, k, q, h => by
    obtain ⟨i, v, h1, h2⟩ := l_en_of (lo := r) (k := k + 1) h
    exact ⟨i + 1, v, by rw [h1, show k + 1 + i = k + (i + 1) by omega], by simpa using h2⟩
  | some w :: r, k, q, h => by
    rcases List.mem_cons.mp h with h | h
    · exact ⟨0, w, h, rfl⟩
    · obtain ⟨i, v, h1, h2⟩ := l_en_of (lo := r) (k := k + 1) h
      exact ⟨i + 1, v, by rw [h1, show k + 1 + i = k + (i + 1) by omega], by simpa using h2⟩
theorem l_at {ad : Nat × Nat → Nat} {ls : Array Slot} {n i : Nat} {lo : List (Option Vl_)} {v : Vl_} (h : lv_has ls n (l_en ad 0 lo)) (hi : lo[i]? = some (some v)) : ls[i]? = some (.val (tr_ ad v)) := by
  have := h.2.2 (0 + i, tr_ ad v) (l_en_in hi)
  rwa [Nat.zero_add] at this
theorem l_put {ad : Nat × Nat → Nat} {ls : Array Slot} {n i : Nat} {lo : List (Option Vl_)} {v : Vl_} (h : lv_has ls n ((i, tr_ ad v) :: (l_en ad 0 lo).filter (fun q => !(q.1 == i) && !(q.1 + 1 == i && q.2.category == 2)))) : lv_has ls n (l_en ad 0 (lo.set i (some v))) := by
  refine ⟨h.1, h.2.1, fun q hq => ?_⟩
  obtain ⟨j, w, rfl, hj⟩ := l_en_of hq
  by_cases hji : j = i
  · subst hji
    have hlt : j < (lo.set j (some v)).length := (List.getElem?_eq_some_iff.mp hj).1
    rw [List.length_set] at hlt
    rw [List.getElem?_set_self hlt] at hj
    cases hj
    rw [Nat.zero_add]
    exact h.2.2 (j, tr_ ad v) List.mem_cons_self
  · rw [List.getElem?_set_ne (Ne.symm hji)] at hj
    refine h.2.2 (0 + j, tr_ ad w) (List.mem_cons_of_mem _ (List.mem_filter.mpr ⟨l_en_in hj, ?_⟩))
    have hc := tr_cat ad w
    simp [hji, hc]
/-- fewer known locals -/
def l_le : List (Option Vl_) → List (Option Vl_) → Prop
  | [], _ => True
  | none :: r, [] => l_le r []
  | none :: r, _ :: q => l_le r q
  | some _ :: _, [] => False
  | some v :: r, w :: q => some v = w ∧ l_le r q
theorem l_le.get : ∀ {a b : List (Option Vl_)} {i : Nat} {v : Vl_}, l_le a b → a[i]? = some (some v) → b[i]? = some (some v)
  | [], _, i, v, _, h => by simp at h
  | none :: r, [], 0, v, _, h => by simp at h
  | none :: r, [], i + 1, v, hl, h => by
    simp only [List.getElem?_cons_succ] at h
    have := l_le.get (a := r) (b := []) hl h
    simp at this
  | none :: r, _ :: q, 0, v, _, h => by simp at h
  | none :: r, _ :: q, i + 1, v, hl, h => by
    simp only [List.getElem?_cons_succ] at h ⊢
    exact l_le.get (a := r) (b := q) hl h
  | some _ :: _, [], i, v, hl, _ => hl.elim
  | some x :: r, w :: q, 0, v, hl, h => by
    simp only [List.getElem?_cons_zero, Option.some.injEq] at h ⊢
    rw [← hl.1, h]
  | some x :: r, w :: q, i + 1, v, hl, h => by
    simp only [List.getElem?_cons_succ] at h ⊢
    exact l_le.get (a := r) (b := q) hl.2 h
theorem ok_l.of : ∀ {PL : List (Nat × Nat)} {lo : List (Option Vl_)}, (∀ (i : Nat) (v : Vl_), lo[i]? = some (some v) → ok_v PL v) → ok_l PL lo
  | _, [], _ => trivial
  | PL, none :: r, h => ok_l.of (lo := r) fun i v hi => h (i + 1) v (by simpa using hi)
  | PL, some w :: r, h => ⟨h 0 w rfl, ok_l.of (lo := r) fun i v hi => h (i + 1) v (by simpa using hi)⟩
def Cx_ (PL : List (Nat × Nat)) (y : mi_T) (p : Program) (R : Room) (s : State) (m : MethodId) (args : Array Value) (meth : Method) (c : Code) (cells slots : Nat) (dC : Nat → ClassId) (dI : Nat → Nat → Nat) (cI cZ : ClassId) (ad : Nat × Nat → Nat) (A : Nat → Prop) : Prop :=
  p.tables.exec = Jvm.exec ∧ c.code = y.2.1 ∧ meth.sig.returnType = y.2.2.2.1 ∧ c.maxLocals = y.2.2.1 ∧ s.vm.findClass y.1.cls = some m.cls ∧ (∀ w, gd_T w → w.before args s = true) ∧ (∀ w ∈ nw_L, va_Nw w s) ∧ meth.locks = false ∧ y.2.2.2.2.1 ≤ R.frames ∧ y.2.2.2.2.2 ≤ R.locals ∧ cells ≤ R.cells ∧ slots ≤ R.slots ∧ va_K (dC, dI) vwCl (t_ys cI cZ) s ∧ va_D A (w_of ad cI cZ PL (fun _ _ _ => 0)) ∧ p_lc PL ∧ s_tat ad A s s.heap
def At_ (PL : List (Nat × Nat)) (y : mi_T) (p : Program) (l : Launch) (e : Env) (R : Room) (s : State) (m : MethodId) (args : Array Value) (below : List Frame) (meth : Method) (c : Code) (cells slots : Nat) (Z : State → Prop) (dC : Nat → ClassId) (dI : Nat → Nat → Nat) (cI cZ : ClassId) (ad : Nat × Nat → Nat) (A : Nat → Prop) (pc : Nat) (lo : List (Option Vl_)) (st : List Vl_) (V : Mm_) : Prop :=
  ∀ (H : Heap) (locs : List Loc) (ls : Array Slot), va_P (dC, dI) vwCl (w_of ad cI cZ PL V) H → va_S A s.heap H locs → lv_has ls y.2.2.1 (l_en ad 0 lo) → ok_s PL st → ok_l PL lo → W p l e R s m args below meth c H locs cells slots Z (F0 m pc ls (st.map (tr_ ad)))
abbrev Ph_ : Type := Nat → List (Option Vl_) → List Vl_ → Mm_ → Prop
def Rc_ (PL : List (Nat × Nat)) (y : mi_T) (pc : Nat) (lo : List (Option Vl_)) (st : List Vl_) (V : Mm_) (Φ : Ph_) : Prop :=
  ∀ ⦃p : Program⦄ ⦃l : Launch⦄ ⦃e : Env⦄ ⦃R : Room⦄ ⦃s : State⦄ ⦃m : MethodId⦄ ⦃args : Array Value⦄ ⦃below : List Frame⦄ ⦃meth : Method⦄ ⦃c : Code⦄ ⦃cells slots : Nat⦄ ⦃Z : State → Prop⦄ ⦃dC : Nat → ClassId⦄ ⦃dI : Nat → Nat → Nat⦄ ⦃cI cZ : ClassId⦄ ⦃ad : Nat × Nat → Nat⦄ ⦃A : Nat → Prop⦄, Cx_ PL y p R s m args meth c cells slots dC dI cI cZ ad A → (∀ pc' lo' st' V', Φ pc' lo' st' V' → At_ PL y p l e R s m args below meth c cells slots Z dC dI cI cZ ad A pc' lo' st' V') → At_ PL y p l e R s m args below meth c cells slots Z dC dI cI cZ ad A pc lo st V
theorem Rc_.done {PL : List (Nat × Nat)} {y : mi_T} {pc : Nat} {lo : List (Option Vl_)} {st : List Vl_} {V : Mm_} {Φ : Ph_} (h : Φ pc lo st V) : Rc_ PL y pc lo st V Φ := by
  intro p l e R s m args below meth c cells slots Z dC dI cI cZ ad A _ hk
  exact hk _ _ _ _ h
theorem Rc_.bind {PL : List (Nat × Nat)} {y : mi_T} {pc : Nat} {lo : List (Option Vl_)} {st : List Vl_} {V : Mm_} {Φ Ψ : Ph_} (h : Rc_ PL y pc lo st V Φ) (k : ∀ pc' lo' st' V', Φ pc' lo' st' V' → Rc_ PL y pc' lo' st' V' Ψ) : Rc_ PL y pc lo st V Ψ := by
  intro p l e R s m args below meth c cells slots Z dC dI cI cZ ad A hx hk
  exact h hx (fun pc' lo' st' V' hp => k pc' lo' st' V' hp hx hk)
theorem Rc_.weak {PL : List (Nat × Nat)} {y : mi_T} {pc : Nat} {lo lo' : List (Option Vl_)} {st : List Vl_} {V : Mm_} {Φ : Ph_} (hl : l_le lo' lo) (k : Rc_ PL y pc lo' st V Φ) : Rc_ PL y pc lo st V Φ := by
  intro p l e R s m args below meth c cells slots Z dC dI cI cZ ad A hx hk H locs ls hP hS hls hst hlo
  refine k hx hk H locs ls hP hS ⟨hls.1, hls.2.1, fun q hq => ?_⟩ hst (ok_l.of fun i v hi => hlo.get (hl.get hi))
  obtain ⟨i, v, rfl, hi⟩ := l_en_of hq
  exact hls.2.2 _ (l_en_in (hl.get hi))
section ROWS
variable {PL : List (Nat × Nat)} {y : mi_T} {pc pc2 : Nat} {lo : List (Option Vl_)} {st : List Vl_} {V : Mm_} {Φ : Ph_}
theorem r_iload_n {i : Fin 4} {x : Int32} (hd : dc_at y pc (.iload_n i) 1) (hi : lo[(i : Nat)]? = some (some (vI x))) (h2 : pc + 1 = pc2) (k : Rc_ PL y pc2 lo (vI x :: st) V Φ) : Rc_ PL y pc lo (st) V Φ := by
  subst h2
  intro p l e R s m args below meth c cells slots Z dC dI cI cZ ad A hx hk H locs ls hP hS hl hst hlo
  refine lv_iload_n hx.1 hx.2.1 hd rfl (l_at hl hi) ?_
  exact k hx hk H locs ls hP hS hl ⟨trivial, hst⟩ hlo
theorem r_iload {i : Nat} {x : Int32} (hd : dc_at y pc (.iload i) 2) (hi : lo[i]? = some (some (vI x))) (h2 : pc + 2 = pc2) (k : Rc_ PL y pc2 lo (vI x :: st) V Φ) : Rc_ PL y pc lo (st) V Φ := by
  subst h2
  intro p l e R s m args below meth c cells slots Z dC dI cI cZ ad A hx hk H locs ls hP hS hl hst hlo
  refine lv_iload hx.1 hx.2.1 hd (l_at hl hi) ?_
  exact k hx hk H locs ls hP hS hl ⟨trivial, hst⟩ hlo
theorem r_aload_n {i : Fin 4} {g r : Nat} (hd : dc_at y pc (.aload_n i) 1) (hi : lo[(i : Nat)]? = some (some (vR g r))) (h2 : pc + 1 = pc2) (k : Rc_ PL y pc2 lo (vR g r :: st) V Φ) : Rc_ PL y pc lo (st) V Φ := by
  subst h2
  intro p l e R s m args below meth c cells slots Z dC dI cI cZ ad A hx hk H locs ls hP hS hl hst hlo
  refine lv_aload_n hx.1 hx.2.1 hd rfl (l_at hl hi) ?_
  exact k hx hk H locs ls hP hS hl ⟨hlo.get hi, hst⟩ hlo
theorem r_aload {i g r : Nat} (hd : dc_at y pc (.aload i) 2) (hi : lo[i]? = some (some (vR g r))) (h2 : pc + 2 = pc2) (k : Rc_ PL y pc2 lo (vR g r :: st) V Φ) : Rc_ PL y pc lo (st) V Φ := by
  subst h2
  intro p l e R s m args below meth c cells slots Z dC dI cI cZ ad A hx hk H locs ls hP hS hl hst hlo
  refine lv_aload hx.1 hx.2.1 hd (l_at hl hi) ?_
  exact k hx hk H locs ls hP hS hl ⟨hlo.get hi, hst⟩ hlo
theorem r_fload_n {i : Fin 4} {x : UInt32} (hd : dc_at y pc (.fload_n i) 1) (hi : lo[(i : Nat)]? = some (some (vF x))) (h2 : pc + 1 = pc2) (k : Rc_ PL y pc2 lo (vF x :: st) V Φ) : Rc_ PL y pc lo (st) V Φ := by
  subst h2
  intro p l e R s m args below meth c cells slots Z dC dI cI cZ ad A hx hk H locs ls hP hS hl hst hlo
  refine lv_fload_n hx.1 hx.2.1 hd rfl (l_at hl hi) ?_
  exact k hx hk H locs ls hP hS hl ⟨trivial, hst⟩ hlo
theorem r_iconst {n : Int} (v : Int32) (hd : dc_at y pc (.iconst n) 1) (hv : Int32.ofInt n = v) (h2 : pc + 1 = pc2) (k : Rc_ PL y pc2 lo (vI v :: st) V Φ) : Rc_ PL y pc lo (st) V Φ := by
  subst h2
  intro p l e R s m args below meth c cells slots Z dC dI cI cZ ad A hx hk H locs ls hP hS hl hst hlo
  refine lv_iconst hx.1 hx.2.1 hd hv ?_
  exact k hx hk H locs ls hP hS hl ⟨trivial, hst⟩ hlo
theorem r_bipush {n : Int} (v : Int32) (hd : dc_at y pc (.bipush n) 2) (hv : (Int8.ofInt n).toInt32 = v) (h2 : pc + 2 = pc2) (k : Rc_ PL y pc2 lo (vI v :: st) V Φ) : Rc_ PL y pc lo (st) V Φ := by
  subst h2
  intro p l e R s m args below meth c cells slots Z dC dI cI cZ ad A hx hk H locs ls hP hS hl hst hlo
  refine lv_bipush hx.1 hx.2.1 hd hv ?_
  exact k hx hk H locs ls hP hS hl ⟨trivial, hst⟩ hlo
theorem r_sipush {n : Int} (v : Int32) (hd : dc_at y pc (.sipush n) 3) (hv : (Int16.ofInt n).toInt32 = v) (h2 : pc + 3 = pc2) (k : Rc_ PL y pc2 lo (vI v :: st) V Φ) : Rc_ PL y pc lo (st) V Φ := by
  subst h2
  intro p l e R s m args below meth c cells slots Z dC dI cI cZ ad A hx hk H locs ls hP hS hl hst hlo
  refine lv_sipush hx.1 hx.2.1 hd hv ?_
  exact k hx hk H locs ls hP hS hl ⟨trivial, hst⟩ hlo
theorem r_ldc {n : Nat} {v : Int32} (hd : dc_at y pc (.ldc n) 2) (hv : gd_T (.constant y.1.cls n v)) (h2 : pc + 2 = pc2) (k : Rc_ PL y pc2 lo (vI v :: st) V Φ) : Rc_ PL y pc lo (st) V Φ := by
  subst h2
  intro p l e R s m args below meth c cells slots Z dC dI cI cZ ad A hx hk H locs ls hP hS hl hst hlo
  refine lv_ldc hx.1 hx.2.1 hx.2.2.2.2.1 (hx.2.2.2.2.2.1 _ hv) hd ?_
  exact k hx hk H locs ls hP hS hl ⟨trivial, hst⟩ hlo
theorem r_ldcf {n : Nat} {v : UInt32} (hd : dc_at y pc (.ldc n) 2) (hv : gd_T (.constantFloat y.1.cls n v)) (h2 : pc + 2 = pc2) (k : Rc_ PL y pc2 lo (vF v :: st) V Φ) : Rc_ PL y pc lo (st) V Φ := by
  subst h2
  intro p l e R s m args below meth c cells slots Z dC dI cI cZ ad A hx hk H locs ls hP hS hl hst hlo
  refine lv_ldcf hx.1 hx.2.1 hx.2.2.2.2.1 (hx.2.2.2.2.2.1 _ hv) hd ?_
  exact k hx hk H locs ls hP hS hl ⟨trivial, hst⟩ hlo
theorem r_fconst0  (hd : dc_at y pc (.fconst 0) 1) (h2 : pc + 1 = pc2) (k : Rc_ PL y pc2 lo (vF FP.fconst0 :: st) V Φ) : Rc_ PL y pc lo (st) V Φ := by
  subst h2
  intro p l e R s m args below meth c cells slots Z dC dI cI cZ ad A hx hk H locs ls hP hS hl hst hlo
  refine lv_fconst0 hx.1 hx.2.1 hd ?_
  exact k hx hk H locs ls hP hS hl ⟨trivial, hst⟩ hlo
theorem r_fconst1  (hd : dc_at y pc (.fconst 1) 1) (h2 : pc + 1 = pc2) (k : Rc_ PL y pc2 lo (vF FP.fconst1 :: st) V Φ) : Rc_ PL y pc lo (st) V Φ := by
  subst h2
  intro p l e R s m args below meth c cells slots Z dC dI cI cZ ad A hx hk H locs ls hP hS hl hst hlo
  refine lv_fconst1 hx.1 hx.2.1 hd ?_
  exact k hx hk H locs ls hP hS hl ⟨trivial, hst⟩ hlo
theorem r_fconst2  (hd : dc_at y pc (.fconst 2) 1) (h2 : pc + 1 = pc2) (k : Rc_ PL y pc2 lo (vF FP.fconst2 :: st) V Φ) : Rc_ PL y pc lo (st) V Φ := by
  subst h2
  intro p l e R s m args below meth c cells slots Z dC dI cI cZ ad A hx hk H locs ls hP hS hl hst hlo
  refine lv_fconst2 hx.1 hx.2.1 hd ?_
  exact k hx hk H locs ls hP hS hl ⟨trivial, hst⟩ hlo
theorem r_iadd {a b : Int32} (hd : dc_at y pc (.iadd) 1) (h2 : pc + 1 = pc2) (k : Rc_ PL y pc2 lo (vI (a + b) :: st) V Φ) : Rc_ PL y pc lo (vI b :: vI a :: st) V Φ := by
  subst h2
  intro p l e R s m args below meth c cells slots Z dC dI cI cZ ad A hx hk H locs ls hP hS hl hst hlo
  refine lv_iadd hx.1 hx.2.1 hd ?_
  exact k hx hk H locs ls hP hS hl ⟨trivial, hst.2.2⟩ hlo
theorem r_isub {a b : Int32} (hd : dc_at y pc (.isub) 1) (h2 : pc + 1 = pc2) (k : Rc_ PL y pc2 lo (vI (a - b) :: st) V Φ) : Rc_ PL y pc lo (vI b :: vI a :: st) V Φ := by
  subst h2
  intro p l e R s m args below meth c cells slots Z dC dI cI cZ ad A hx hk H locs ls hP hS hl hst hlo
  refine lv_isub hx.1 hx.2.1 hd ?_
  exact k hx hk H locs ls hP hS hl ⟨trivial, hst.2.2⟩ hlo
theorem r_imul {a b : Int32} (hd : dc_at y pc (.imul) 1) (h2 : pc + 1 = pc2) (k : Rc_ PL y pc2 lo (vI (a * b) :: st) V Φ) : Rc_ PL y pc lo (vI b :: vI a :: st) V Φ := by
  subst h2
  intro p l e R s m args below meth c cells slots Z dC dI cI cZ ad A hx hk H locs ls hP hS hl hst hlo
  refine lv_imul hx.1 hx.2.1 hd ?_
  exact k hx hk H locs ls hP hS hl ⟨trivial, hst.2.2⟩ hlo
theorem r_iand {a b : Int32} (hd : dc_at y pc (.iand) 1) (h2 : pc + 1 = pc2) (k : Rc_ PL y pc2 lo (vI (a &&& b) :: st) V Φ) : Rc_ PL y pc lo (vI b :: vI a :: st) V Φ := by
  subst h2
  intro p l e R s m args below meth c cells slots Z dC dI cI cZ ad A hx hk H locs ls hP hS hl hst hlo
  refine lv_iand hx.1 hx.2.1 hd ?_
  exact k hx hk H locs ls hP hS hl ⟨trivial, hst.2.2⟩ hlo
theorem r_ior {a b : Int32} (hd : dc_at y pc (.ior) 1) (h2 : pc + 1 = pc2) (k : Rc_ PL y pc2 lo (vI (a ||| b) :: st) V Φ) : Rc_ PL y pc lo (vI b :: vI a :: st) V Φ := by
  subst h2
  intro p l e R s m args below meth c cells slots Z dC dI cI cZ ad A hx hk H locs ls hP hS hl hst hlo
  refine lv_ior hx.1 hx.2.1 hd ?_
  exact k hx hk H locs ls hP hS hl ⟨trivial, hst.2.2⟩ hlo
theorem r_ishl {a b : Int32} (hd : dc_at y pc (.ishl) 1) (h2 : pc + 1 = pc2) (k : Rc_ PL y pc2 lo (vI (a <<< (b &&& 31)) :: st) V Φ) : Rc_ PL y pc lo (vI b :: vI a :: st) V Φ := by
  subst h2
  intro p l e R s m args below meth c cells slots Z dC dI cI cZ ad A hx hk H locs ls hP hS hl hst hlo
  refine lv_ishl hx.1 hx.2.1 hd ?_
  exact k hx hk H locs ls hP hS hl ⟨trivial, hst.2.2⟩ hlo
theorem r_ishr {a b : Int32} (hd : dc_at y pc (.ishr) 1) (h2 : pc + 1 = pc2) (k : Rc_ PL y pc2 lo (vI (a >>> (b &&& 31)) :: st) V Φ) : Rc_ PL y pc lo (vI b :: vI a :: st) V Φ := by
  subst h2
  intro p l e R s m args below meth c cells slots Z dC dI cI cZ ad A hx hk H locs ls hP hS hl hst hlo
  refine lv_ishr hx.1 hx.2.1 hd ?_
  exact k hx hk H locs ls hP hS hl ⟨trivial, hst.2.2⟩ hlo
theorem r_idiv {a b : Int32} (hd : dc_at y pc (.idiv) 1) (hb : ¬ b = 0) (h2 : pc + 1 = pc2) (k : Rc_ PL y pc2 lo (vI (a / b) :: st) V Φ) : Rc_ PL y pc lo (vI b :: vI a :: st) V Φ := by
  subst h2
  intro p l e R s m args below meth c cells slots Z dC dI cI cZ ad A hx hk H locs ls hP hS hl hst hlo
  refine lv_idiv hx.1 hx.2.1 hd hb ?_
  exact k hx hk H locs ls hP hS hl ⟨trivial, hst.2.2⟩ hlo
theorem r_irem {a b : Int32} (hd : dc_at y pc (.irem) 1) (hb : ¬ b = 0) (h2 : pc + 1 = pc2) (k : Rc_ PL y pc2 lo (vI (a - a / b * b) :: st) V Φ) : Rc_ PL y pc lo (vI b :: vI a :: st) V Φ := by
  subst h2
  intro p l e R s m args below meth c cells slots Z dC dI cI cZ ad A hx hk H locs ls hP hS hl hst hlo
  refine lv_irem hx.1 hx.2.1 hd hb ?_
  exact k hx hk H locs ls hP hS hl ⟨trivial, hst.2.2⟩ hlo
theorem r_i2f {a : Int32} (hd : dc_at y pc (.i2f) 1) (h2 : pc + 1 = pc2) (k : Rc_ PL y pc2 lo (vF (FP.i2f a) :: st) V Φ) : Rc_ PL y pc lo (vI a :: st) V Φ := by
  subst h2
  intro p l e R s m args below meth c cells slots Z dC dI cI cZ ad A hx hk H locs ls hP hS hl hst hlo
  refine lv_i2f hx.1 hx.2.1 hd ?_
  exact k hx hk H locs ls hP hS hl ⟨trivial, hst.2⟩ hlo
theorem r_f2i {a : UInt32} (hd : dc_at y pc (.f2i) 1) (h2 : pc + 1 = pc2) (k : Rc_ PL y pc2 lo (vI (FP.f2i a) :: st) V Φ) : Rc_ PL y pc lo (vF a :: st) V Φ := by
  subst h2
  intro p l e R s m args below meth c cells slots Z dC dI cI cZ ad A hx hk H locs ls hP hS hl hst hlo
  refine lv_f2i hx.1 hx.2.1 hd ?_
  exact k hx hk H locs ls hP hS hl ⟨trivial, hst.2⟩ hlo
theorem r_fcmp {a b : UInt32} {op : CmpOp} (hd : dc_at y pc (.fcmp op) 1) (h2 : pc + 1 = pc2) (k : Rc_ PL y pc2 lo (vI (Op.cmpValue (FP.fcmp a b) op) :: st) V Φ) : Rc_ PL y pc lo (vF b :: vF a :: st) V Φ := by
  subst h2
  intro p l e R s m args below meth c cells slots Z dC dI cI cZ ad A hx hk H locs ls hP hS hl hst hlo
  refine lv_fcmp hx.1 hx.2.1 hd ?_
  exact k hx hk H locs ls hP hS hl ⟨trivial, hst.2.2⟩ hlo
theorem r_fdiv {a b : UInt32} (hd : dc_at y pc (.fdiv) 1) (hn : vf_n32 (FP.fdiv a b)) (h2 : pc + 1 = pc2) (k : Rc_ PL y pc2 lo (vF (FP.fdiv a b) :: st) V Φ) : Rc_ PL y pc lo (vF b :: vF a :: st) V Φ := by
  subst h2
  intro p l e R s m args below meth c cells slots Z dC dI cI cZ ad A hx hk H locs ls hP hS hl hst hlo
  refine lv_fdiv hx.1 hx.2.1 hd hn ?_
  exact k hx hk H locs ls hP hS hl ⟨trivial, hst.2.2⟩ hlo
theorem r_fmul {a b : UInt32} (hd : dc_at y pc (.fmul) 1) (hn : vf_n32 (FP.fmul a b)) (h2 : pc + 1 = pc2) (k : Rc_ PL y pc2 lo (vF (FP.fmul a b) :: st) V Φ) : Rc_ PL y pc lo (vF b :: vF a :: st) V Φ := by
  subst h2
  intro p l e R s m args below meth c cells slots Z dC dI cI cZ ad A hx hk H locs ls hP hS hl hst hlo
  refine lv_fmul hx.1 hx.2.1 hd hn ?_
  exact k hx hk H locs ls hP hS hl ⟨trivial, hst.2.2⟩ hlo
theorem r_dup {v : Vl_} (hd : dc_at y pc (.dup) 1) (h2 : pc + 1 = pc2) (k : Rc_ PL y pc2 lo (v :: v :: st) V Φ) : Rc_ PL y pc lo (v :: st) V Φ := by
  subst h2
  intro p l e R s m args below meth c cells slots Z dC dI cI cZ ad A hx hk H locs ls hP hS hl hst hlo
  refine lv_dup hx.1 hx.2.1 hd (tr_cat ad v) ?_
  exact k hx hk H locs ls hP hS hl ⟨hst.1, hst⟩ hlo
theorem r_dup2 {v w : Vl_} (hd : dc_at y pc (.dup2) 1) (h2 : pc + 1 = pc2) (k : Rc_ PL y pc2 lo (v :: w :: v :: w :: st) V Φ) : Rc_ PL y pc lo (v :: w :: st) V Φ := by
  subst h2
  intro p l e R s m args below meth c cells slots Z dC dI cI cZ ad A hx hk H locs ls hP hS hl hst hlo
  refine lv_dup2_11 hx.1 hx.2.1 hd (tr_cat ad v) (tr_cat ad w) ?_
  exact k hx hk H locs ls hP hS hl ⟨hst.1, hst.2.1, hst⟩ hlo
theorem r_pop {v : Vl_} (hd : dc_at y pc (.pop) 1) (h2 : pc + 1 = pc2) (k : Rc_ PL y pc2 lo (st) V Φ) : Rc_ PL y pc lo (v :: st) V Φ := by
  subst h2
  intro p l e R s m args below meth c cells slots Z dC dI cI cZ ad A hx hk H locs ls hP hS hl hst hlo
  refine lv_pop hx.1 hx.2.1 hd (tr_cat ad v) ?_
  exact k hx hk H locs ls hP hS hl hst.2 hlo
theorem r_istore_n {i : Fin 4} {x : Int32} {lo2 : List (Option Vl_)} (hd : dc_at y pc (.istore_n i) 1) (hn : (i : Nat) < y.2.2.1) (hl2 : lo.set (i : Nat) (some (vI x)) = lo2) (h2 : pc + 1 = pc2) (k : Rc_ PL y pc2 lo2 st V Φ) : Rc_ PL y pc lo (vI x :: st) V Φ := by
  subst h2
  subst hl2
  intro p l e R s m args below meth c cells slots Z dC dI cI cZ ad A hx hk H locs ls hP hS hl hst hlo
  refine lv_istore_n hx.1 hx.2.1 hd rfl hl hn rfl (fun ls2 hl2 => ?_)
  exact k hx hk H locs ls2 hP hS (l_put (v := vI x) hl2) hst.2 (ok_l.set hst.1 hlo)
theorem r_istore {i : Nat} {x : Int32} {lo2 : List (Option Vl_)} (hd : dc_at y pc (.istore i) 2) (hn : i < y.2.2.1) (hl2 : lo.set i (some (vI x)) = lo2) (h2 : pc + 2 = pc2) (k : Rc_ PL y pc2 lo2 st V Φ) : Rc_ PL y pc lo (vI x :: st) V Φ := by
  subst h2
  subst hl2
  intro p l e R s m args below meth c cells slots Z dC dI cI cZ ad A hx hk H locs ls hP hS hl hst hlo
  refine lv_istore hx.1 hx.2.1 hd hl hn rfl (fun ls2 hl2 => ?_)
  exact k hx hk H locs ls2 hP hS (l_put (v := vI x) hl2) hst.2 (ok_l.set hst.1 hlo)
theorem r_fstore_n {i : Fin 4} {x : UInt32} {lo2 : List (Option Vl_)} (hd : dc_at y pc (.fstore_n i) 1) (hn : (i : Nat) < y.2.2.1) (hl2 : lo.set (i : Nat) (some (vF x)) = lo2) (h2 : pc + 1 = pc2) (k : Rc_ PL y pc2 lo2 st V Φ) : Rc_ PL y pc lo (vF x :: st) V Φ := by
  subst h2
  subst hl2
  intro p l e R s m args below meth c cells slots Z dC dI cI cZ ad A hx hk H locs ls hP hS hl hst hlo
  refine lv_fstore_n hx.1 hx.2.1 hd rfl hl hn rfl (fun ls2 hl2 => ?_)
  exact k hx hk H locs ls2 hP hS (l_put (v := vF x) hl2) hst.2 (ok_l.set hst.1 hlo)
theorem r_astore_n {i : Fin 4} {g r : Nat} {lo2 : List (Option Vl_)} (hd : dc_at y pc (.astore_n i) 1) (hn : (i : Nat) < y.2.2.1) (hl2 : lo.set (i : Nat) (some (vR g r)) = lo2) (h2 : pc + 1 = pc2) (k : Rc_ PL y pc2 lo2 st V Φ) : Rc_ PL y pc lo (vR g r :: st) V Φ := by
  subst h2
  subst hl2
  intro p l e R s m args below meth c cells slots Z dC dI cI cZ ad A hx hk H locs ls hP hS hl hst hlo
  refine lv_astore_n hx.1 hx.2.1 hd rfl hl hn rfl (fun ls2 hl2 => ?_)
  exact k hx hk H locs ls2 hP hS (l_put (v := vR g r) hl2) hst.2 (ok_l.set hst.1 hlo)
theorem l_enk {ad : Nat × Nat → Nat} {lo : List (Option Vl_)} {i : Nat} {v : Vl_} (h : lo[i]? = some (some v)) : ∃ k : Nat, (l_en ad 0 lo)[k]? = some (i, tr_ ad v) := by
  have := l_en_in (ad := ad) (k := 0) h
  rw [Nat.zero_add] at this
  exact List.getElem?_of_mem this
theorem r_iinc {i : Nat} {n : Int} {x v : Int32} {lo2 : List (Option Vl_)} (hd : dc_at y pc (.iinc i n) 3) (hi : lo[i]? = some (some (vI x))) (hn : i < y.2.2.1) (hv : x + Int32.ofInt n = v) (hl2 : lo.set i (some (vI v)) = lo2) (h2 : pc + 3 = pc2) (k : Rc_ PL y pc2 lo2 st V Φ) : Rc_ PL y pc lo st V Φ := by
  subst h2
  subst hl2
  intro p l e R s m args below meth c cells slots Z dC dI cI cZ ad A hx hk H locs ls hP hS hl hst hlo
  obtain ⟨kk, hkk⟩ := l_enk (ad := ad) hi
  refine lv_iinc (v := v) hx.1 hx.2.1 hd hl (k := kk) hkk hv hn rfl (fun ls2 hl2 => ?_)
  exact k hx hk H locs ls2 hP hS (l_put (v := vI v) hl2) hst (ok_l.set (v := vI v) trivial hlo)
theorem r_goto {off : Int} (hd : dc_at y pc (.goto off) 3) (h2 : (pc : Int) + off = (pc2 : Int)) (k : Rc_ PL y pc2 lo st V Φ) : Rc_ PL y pc lo st V Φ := by
  intro p l e R s m args below meth c cells slots Z dC dI cI cZ ad A hx hk H locs ls hP hS hl hst hlo
  exact lv_goto hx.1 hx.2.1 hd h2 (k hx hk H locs ls hP hS hl hst hlo)
theorem r_if_eq {off : Int} {tgt : Nat} {x : Int32} (hd : dc_at y pc (.ifCond .eq off) 3) (ht : (pc : Int) + off = (tgt : Int)) (h2 : pc + 3 = pc2) (kt : x = 0 → Rc_ PL y tgt lo st V Φ) (kf : ¬ x = 0 → Rc_ PL y pc2 lo st V Φ) : Rc_ PL y pc lo (vI x :: st) V Φ := by
  subst h2
  intro p l e R s m args below meth c cells slots Z dC dI cI cZ ad A hx hk H locs ls hP hS hl hst hlo
  exact lv_if_eq hx.1 hx.2.1 hd ht (fun h => kt h hx hk H locs ls hP hS hl hst.2 hlo) (fun h => kf h hx hk H locs ls hP hS hl hst.2 hlo)
theorem r_if_ne {off : Int} {tgt : Nat} {x : Int32} (hd : dc_at y pc (.ifCond .ne off) 3) (ht : (pc : Int) + off = (tgt : Int)) (h2 : pc + 3 = pc2) (kt : ¬ x = 0 → Rc_ PL y tgt lo st V Φ) (kf : x = 0 → Rc_ PL y pc2 lo st V Φ) : Rc_ PL y pc lo (vI x :: st) V Φ := by
  subst h2
  intro p l e R s m args below meth c cells slots Z dC dI cI cZ ad A hx hk H locs ls hP hS hl hst hlo
  exact lv_if_ne hx.1 hx.2.1 hd ht (fun h => kt h hx hk H locs ls hP hS hl hst.2 hlo) (fun h => kf h hx hk H locs ls hP hS hl hst.2 hlo)
theorem r_if_lt {off : Int} {tgt : Nat} {x : Int32} (hd : dc_at y pc (.ifCond .lt off) 3) (ht : (pc : Int) + off = (tgt : Int)) (h2 : pc + 3 = pc2) (kt : x < 0 → Rc_ PL y tgt lo st V Φ) (kf : ¬ x < 0 → Rc_ PL y pc2 lo st V Φ) : Rc_ PL y pc lo (vI x :: st) V Φ := by
  subst h2
  intro p l e R s m args below meth c cells slots Z dC dI cI cZ ad A hx hk H locs ls hP hS hl hst hlo
  exact lv_if_lt hx.1 hx.2.1 hd ht (fun h => kt h hx hk H locs ls hP hS hl hst.2 hlo) (fun h => kf h hx hk H locs ls hP hS hl hst.2 hlo)
theorem r_if_ge {off : Int} {tgt : Nat} {x : Int32} (hd : dc_at y pc (.ifCond .ge off) 3) (ht : (pc : Int) + off = (tgt : Int)) (h2 : pc + 3 = pc2) (kt : 0 ≤ x → Rc_ PL y tgt lo st V Φ) (kf : ¬ 0 ≤ x → Rc_ PL y pc2 lo st V Φ) : Rc_ PL y pc lo (vI x :: st) V Φ := by
  subst h2
  intro p l e R s m args below meth c cells slots Z dC dI cI cZ ad A hx hk H locs ls hP hS hl hst hlo
  exact lv_if_ge hx.1 hx.2.1 hd ht (fun h => kt h hx hk H locs ls hP hS hl hst.2 hlo) (fun h => kf h hx hk H locs ls hP hS hl hst.2 hlo)
theorem r_if_gt {off : Int} {tgt : Nat} {x : Int32} (hd : dc_at y pc (.ifCond .gt off) 3) (ht : (pc : Int) + off = (tgt : Int)) (h2 : pc + 3 = pc2) (kt : 0 < x → Rc_ PL y tgt lo st V Φ) (kf : ¬ 0 < x → Rc_ PL y pc2 lo st V Φ) : Rc_ PL y pc lo (vI x :: st) V Φ := by
  subst h2
  intro p l e R s m args below meth c cells slots Z dC dI cI cZ ad A hx hk H locs ls hP hS hl hst hlo
  exact lv_if_gt hx.1 hx.2.1 hd ht (fun h => kt h hx hk H locs ls hP hS hl hst.2 hlo) (fun h => kf h hx hk H locs ls hP hS hl hst.2 hlo)
theorem r_if_le {off : Int} {tgt : Nat} {x : Int32} (hd : dc_at y pc (.ifCond .le off) 3) (ht : (pc : Int) + off = (tgt : Int)) (h2 : pc + 3 = pc2) (kt : x ≤ 0 → Rc_ PL y tgt lo st V Φ) (kf : ¬ x ≤ 0 → Rc_ PL y pc2 lo st V Φ) : Rc_ PL y pc lo (vI x :: st) V Φ := by
  subst h2
  intro p l e R s m args below meth c cells slots Z dC dI cI cZ ad A hx hk H locs ls hP hS hl hst hlo
  exact lv_if_le hx.1 hx.2.1 hd ht (fun h => kt h hx hk H locs ls hP hS hl hst.2 hlo) (fun h => kf h hx hk H locs ls hP hS hl hst.2 hlo)
theorem r_ic_eq {off : Int} {tgt : Nat} {a b : Int32} (hd : dc_at y pc (.if_icmp .eq off) 3) (ht : (pc : Int) + off = (tgt : Int)) (h2 : pc + 3 = pc2) (kt : a = b → Rc_ PL y tgt lo st V Φ) (kf : ¬ (a = b) → Rc_ PL y pc2 lo st V Φ) : Rc_ PL y pc lo (vI b :: vI a :: st) V Φ := by
  subst h2
  intro p l e R s m args below meth c cells slots Z dC dI cI cZ ad A hx hk H locs ls hP hS hl hst hlo
  exact lv_icmp_eq hx.1 hx.2.1 hd ht (fun h => kt h hx hk H locs ls hP hS hl hst.2.2 hlo) (fun h => kf h hx hk H locs ls hP hS hl hst.2.2 hlo)
theorem r_ic_ne {off : Int} {tgt : Nat} {a b : Int32} (hd : dc_at y pc (.if_icmp .ne off) 3) (ht : (pc : Int) + off = (tgt : Int)) (h2 : pc + 3 = pc2) (kt : ¬ a = b → Rc_ PL y tgt lo st V Φ) (kf : a = b → Rc_ PL y pc2 lo st V Φ) : Rc_ PL y pc lo (vI b :: vI a :: st) V Φ := by
  subst h2
  intro p l e R s m args below meth c cells slots Z dC dI cI cZ ad A hx hk H locs ls hP hS hl hst hlo
  exact lv_icmp_ne hx.1 hx.2.1 hd ht (fun h => kt h hx hk H locs ls hP hS hl hst.2.2 hlo) (fun h => kf h hx hk H locs ls hP hS hl hst.2.2 hlo)
theorem r_ic_lt {off : Int} {tgt : Nat} {a b : Int32} (hd : dc_at y pc (.if_icmp .lt off) 3) (ht : (pc : Int) + off = (tgt : Int)) (h2 : pc + 3 = pc2) (kt : a < b → Rc_ PL y tgt lo st V Φ) (kf : ¬ (a < b) → Rc_ PL y pc2 lo st V Φ) : Rc_ PL y pc lo (vI b :: vI a :: st) V Φ := by
  subst h2
  intro p l e R s m args below meth c cells slots Z dC dI cI cZ ad A hx hk H locs ls hP hS hl hst hlo
  exact lv_icmp_lt hx.1 hx.2.1 hd ht (fun h => kt h hx hk H locs ls hP hS hl hst.2.2 hlo) (fun h => kf h hx hk H locs ls hP hS hl hst.2.2 hlo)
theorem r_ic_ge {off : Int} {tgt : Nat} {a b : Int32} (hd : dc_at y pc (.if_icmp .ge off) 3) (ht : (pc : Int) + off = (tgt : Int)) (h2 : pc + 3 = pc2) (kt : b ≤ a → Rc_ PL y tgt lo st V Φ) (kf : ¬ (b ≤ a) → Rc_ PL y pc2 lo st V Φ) : Rc_ PL y pc lo (vI b :: vI a :: st) V Φ := by
  subst h2
  intro p l e R s m args below meth c cells slots Z dC dI cI cZ ad A hx hk H locs ls hP hS hl hst hlo
  exact lv_icmp_ge hx.1 hx.2.1 hd ht (fun h => kt h hx hk H locs ls hP hS hl hst.2.2 hlo) (fun h => kf h hx hk H locs ls hP hS hl hst.2.2 hlo)
theorem r_ic_gt {off : Int} {tgt : Nat} {a b : Int32} (hd : dc_at y pc (.if_icmp .gt off) 3) (ht : (pc : Int) + off = (tgt : Int)) (h2 : pc + 3 = pc2) (kt : b < a → Rc_ PL y tgt lo st V Φ) (kf : ¬ (b < a) → Rc_ PL y pc2 lo st V Φ) : Rc_ PL y pc lo (vI b :: vI a :: st) V Φ := by
  subst h2
  intro p l e R s m args below meth c cells slots Z dC dI cI cZ ad A hx hk H locs ls hP hS hl hst hlo
  exact lv_icmp_gt hx.1 hx.2.1 hd ht (fun h => kt h hx hk H locs ls hP hS hl hst.2.2 hlo) (fun h => kf h hx hk H locs ls hP hS hl hst.2.2 hlo)
theorem r_ic_le {off : Int} {tgt : Nat} {a b : Int32} (hd : dc_at y pc (.if_icmp .le off) 3) (ht : (pc : Int) + off = (tgt : Int)) (h2 : pc + 3 = pc2) (kt : a ≤ b → Rc_ PL y tgt lo st V Φ) (kf : ¬ (a ≤ b) → Rc_ PL y pc2 lo st V Φ) : Rc_ PL y pc lo (vI b :: vI a :: st) V Φ := by
  subst h2
  intro p l e R s m args below meth c cells slots Z dC dI cI cZ ad A hx hk H locs ls hP hS hl hst hlo
  exact lv_icmp_le hx.1 hx.2.1 hd ht (fun h => kt h hx hk H locs ls hP hS hl hst.2.2 hlo) (fun h => kf h hx hk H locs ls hP hS hl hst.2.2 hlo)
theorem r_swIn {dflt lo' hi : Int} {offs : Array Int} {len tgt : Nat} {x : Int32} {off : Int} (hd : dc_at y pc (.tableswitch dflt lo' hi offs) len) (h1 : ¬ x.toInt < lo') (h2 : ¬ hi < x.toInt) (ho : offs[(x.toInt - lo').toNat]? = some off) (ht : (pc : Int) + off = (tgt : Int)) (k : Rc_ PL y tgt lo st V Φ) : Rc_ PL y pc lo (vI x :: st) V Φ := by
  intro p l e R s m args below meth c cells slots Z dC dI cI cZ ad A hx hk H locs ls hP hS hl hst hlo
  exact lv_tableIn hx.1 hx.2.1 hd h1 h2 ho ht (k hx hk H locs ls hP hS hl hst.2 hlo)
theorem r_swOut {dflt lo' hi : Int} {offs : Array Int} {len tgt : Nat} {x : Int32} (hd : dc_at y pc (.tableswitch dflt lo' hi offs) len) (h : x.toInt < lo' ∨ hi < x.toInt) (ht : (pc : Int) + dflt = (tgt : Int)) (k : Rc_ PL y tgt lo st V Φ) : Rc_ PL y pc lo (vI x :: st) V Φ := by
  intro p l e R s m args below meth c cells slots Z dC dI cI cZ ad A hx hk H locs ls hP hS hl hst hlo
  exact lv_tableOut hx.1 hx.2.1 hd h ht (k hx hk H locs ls hP hS hl hst.2 hlo)
end ROWS
end
section
/-! base 3: rows of fields and arrays -/
theorem c_obj {ad : Nat × Nat → Nat} {cI cZ : ClassId} {V : Mm_} {g r ci : Nat} (h : k_cls r = some ci) : c_of ad cI cZ V (g, r) = .inr (ci, f_vals ad (V g r) 0 (k_fld g r)) := by
  unfold c_of
  rw [h]
theorem c_arr {ad : Nat × Nat → Nat} {cI cZ : ClassId} {V : Mm_} {g r : Nat} (h : k_cls r = none) : c_of ad cI cZ V (g, r) = .inl (if k_isZ r = true then cZ else cI, k_len r, .inl (V g r)) := by
  unfold c_of
  rw [h]
section MEM
variable {PL : List (Nat × Nat)} {y : mi_T} {pc pc2 : Nat} {lo : List (Option Vl_)} {st : List Vl_} {V : Mm_} {Φ : Ph_}
theorem r_getR {g r idx ci k : Nat} {g' r' : Nat} (hd : dc_at y pc (.getfield idx) 3) (hf : fl_at y.1.cls idx ci k) (hr : r < 46) (hc : k_cls r = some ci) (hk0 : (k_fld g r)[k]? = some (some (g', r'))) (h2 : pc + 3 = pc2) (kk : Rc_ PL y pc2 lo (vR g' r' :: st) V Φ) : Rc_ PL y pc lo (vR g r :: st) V Φ := by
  subst h2
  intro p l e R s m args below meth c cells slots Z dC dI cI cZ ad A hx hk H locs ls hP hS hl hst hlo
  obtain ⟨C, T, N, h1, h2, h3⟩ := hf
  have hq := hst.1.pl hr
  obtain ⟨i, hi, hw⟩ := w_at (ad := ad) (cI := cI) (cZ := cZ) (V := V) hq
  rw [c_obj hc] at hw
  refine va_get (Ts := lw_tbl.filter goodWord) hx.1 hx.2.1 (fun w hw => hx.2.2.2.2.2.1 w (by simpa [gd_T] using hw)) (fun w hw => by simpa [gd_T] using (cl_ok _ _ _ _ h1).1 w hw) hx.2.2.2.2.1 hx.2.2.2.2.2.2.2.2.2.2.2.2.1 hP i hw h1 k h2 (hx.2.2.2.2.2.1 _ h3) (fun _ h => h) (v := .ref (ad (g', r'))) ?_ hd ?_
  · exact f_vals_get ad _ _ _ _ _ hk0
  · exact kk hx hk H locs ls hP hS hl ⟨Or.inl (hx.2.2.2.2.2.2.2.2.2.2.2.2.2.2.1 _ hq k _ hk0), hst.2⟩ hlo
theorem r_getI {g r idx ci k : Nat} (hd : dc_at y pc (.getfield idx) 3) (hf : fl_at y.1.cls idx ci k) (hr : r < 46) (hc : k_cls r = some ci) (hk0 : (k_fld g r)[k]? = some none) (h2 : pc + 3 = pc2) (kk : Rc_ PL y pc2 lo (vI (V g r k) :: st) V Φ) : Rc_ PL y pc lo (vR g r :: st) V Φ := by
  subst h2
  intro p l e R s m args below meth c cells slots Z dC dI cI cZ ad A hx hk H locs ls hP hS hl hst hlo
  obtain ⟨C, T, N, h1, h2, h3⟩ := hf
  have hq := hst.1.pl hr
  obtain ⟨i, hi, hw⟩ := w_at (ad := ad) (cI := cI) (cZ := cZ) (V := V) hq
  rw [c_obj hc] at hw
  refine va_get (Ts := lw_tbl.filter goodWord) hx.1 hx.2.1 (fun w hw => hx.2.2.2.2.2.1 w (by simpa [gd_T] using hw)) (fun w hw => by simpa [gd_T] using (cl_ok _ _ _ _ h1).1 w hw) hx.2.2.2.2.1 hx.2.2.2.2.2.2.2.2.2.2.2.2.1 hP i hw h1 k h2 (hx.2.2.2.2.2.1 _ h3) (fun _ h => h) (v := .int (V g r k)) ?_ hd ?_
  · have := f_vals_get ad (V g r) _ 0 _ _ hk0
    rwa [Nat.zero_add] at this
  · exact kk hx hk H locs ls hP hS hl ⟨trivial, hst.2⟩ hlo
theorem r_put {g r idx ci k : Nat} {ty : FieldType} {x : Int32} (hd : dc_at y pc (.putfield idx) 3) (hf : fl_at y.1.cls idx ci k) (hr : r < 46) (hc : k_cls r = some ci) (hk0 : (k_fld g r)[k]? = some none) (hty : ∀ C T N, vwCl[ci]? = some (C, T, N) → (T k).2.2.2 = false ∧ parseFieldDescriptor (T k).2.2.1 = some ty) (hn : narrow ty (.int x) = .int x) (hfit : fits ty (.int x) = true) (h2 : pc + 3 = pc2) (kk : Rc_ PL y pc2 lo st (m_set V g r k x) Φ) : Rc_ PL y pc lo (vI x :: vR g r :: st) V Φ := by
  subst h2
  intro p l e R s m args below meth c cells slots Z dC dI cI cZ ad A hx hk H locs ls hP hS hl hst hlo
  obtain ⟨C, T, N, h1, h2, h3⟩ := hf
  have hq := hst.2.1.pl hr
  obtain ⟨i, hi, hw⟩ := w_at (ad := ad) (cI := cI) (cZ := cZ) (V := V) hq
  rw [c_obj hc] at hw
  obtain ⟨c1, c2, ty0, c3⟩ := cl_ok _ _ _ _ h1
  have hD := w_D (V' := V) hx.2.2.2.2.2.2.2.2.2.2.2.2.2.1
  refine va_put (Ts := lw_tbl.filter goodWord) hx.1 hx.2.1 (fun w hw => hx.2.2.2.2.2.1 w (by simpa [gd_T] using hw)) (fun w hw => by simpa [gd_T] using c1 w hw) ty0 c3 c2 hx.2.2.2.2.1 hx.2.2.2.2.2.2.2.2.2.2.2.2.1 hP hD hS i hw h1 k h2 (hx.2.2.2.2.2.1 _ h3) (fun _ h => h) (hty _ _ _ h1).1 (v := Value.int x) (hty _ _ _ h1).2 hn hfit ?_ hd (fun H1 locs1 hP1 hD1 hS1 => ?_)
  · rw [f_vals_len]
    exact (List.getElem?_eq_some_iff.mp hk0).1
  · rw [w_set (g := g) (r := r) (f := upd (V g r) k x) hD hi (by rw [c_obj hc, a_self, f_vals_set ad _ _ _ _ _ hk0, Nat.zero_add])] at hP1
    exact kk hx hk H1 locs1 ls hP1 hS1 hl hst.2.2 hlo
theorem r_iald {g r j : Nat} {i : Int32} (hd : dc_at y pc .iaload 1) (hr : r < 46) (hc : k_cls r = none) (hz : k_isZ r = false) (hi : i = nI j) (hj : j < k_len r) (h2 : pc + 1 = pc2) (kk : Rc_ PL y pc2 lo (vI (V g r j) :: st) V Φ) : Rc_ PL y pc lo (vI i :: vR g r :: st) V Φ := by
  subst h2
  intro p l e R s m args below meth c cells slots Z dC dI cI cZ ad A hx hk H locs ls hP hS hl hst hlo
  have hlen : k_len r < 2 ^ 31 := by
    unfold k_len
    split <;> decide
  have hq := hst.2.1.pl hr
  obtain ⟨q, hq1, hw⟩ := w_at (ad := ad) (cI := cI) (cZ := cZ) (V := V) hq
  rw [c_arr hc, hz] at hw
  refine va_iald hx.1 hx.2.1 hx.2.2.2.2.2.2.2.2.2.2.2.2.1 hP q 0 hw rfl (by rw [hi]; exact vp_in_nI hj hlen) hd ?_
  have := kk hx hk H locs ls hP hS hl ⟨trivial, hst.2.2⟩ hlo
  rw [hi, nI_clamp (Nat.lt_trans hj hlen)]
  exact this
theorem r_iast {g r j : Nat} {i x : Int32} (hd : dc_at y pc .iastore 1) (hr : r < 46) (hc : k_cls r = none) (hz : k_isZ r = false) (hi : i = nI j) (hj : j < k_len r) (h2 : pc + 1 = pc2) (kk : Rc_ PL y pc2 lo st (m_set V g r j x) Φ) : Rc_ PL y pc lo (vI x :: vI i :: vR g r :: st) V Φ := by
  subst h2
  intro p l e R s m args below meth c cells slots Z dC dI cI cZ ad A hx hk H locs ls hP hS hl hst hlo
  have hlen : k_len r < 2 ^ 31 := by
    unfold k_len
    split <;> decide
  have hq := hst.2.2.1.pl hr
  obtain ⟨q, hq1, hw⟩ := w_at (ad := ad) (cI := cI) (cZ := cZ) (V := V) hq
  rw [c_arr hc, hz] at hw
  have hD := w_D (V' := V) hx.2.2.2.2.2.2.2.2.2.2.2.2.2.1
  refine va_iast hx.1 hx.2.1 hx.2.2.2.2.2.2.2.2.2.2.2.2.1 hP hD hS q 0 hw rfl (by rw [hi]; exact vp_in_nI hj hlen) hd (fun H1 locs1 hP1 hD1 hS1 => ?_)
  rw [hi, nI_clamp (Nat.lt_trans hj hlen)] at hP1
  rw [w_set (g := g) (r := r) (f := upd (V g r) j x) hD hq1 (by rw [c_arr hc, hz, a_self])] at hP1
  exact kk hx hk H1 locs1 ls hP1 hS1 hl hst.2.2.2 hlo
theorem r_zald {g r j : Nat} {i : Int32} (hd : dc_at y pc .baload 1) (hr : r < 46) (hc : k_cls r = none) (hz : k_isZ r = true) (hi : i = nI j) (hj : j < k_len r) (h2 : pc + 1 = pc2) (kk : Rc_ PL y pc2 lo (vI (V g r j) :: st) V Φ) : Rc_ PL y pc lo (vI i :: vR g r :: st) V Φ := by
  subst h2
  intro p l e R s m args below meth c cells slots Z dC dI cI cZ ad A hx hk H locs ls hP hS hl hst hlo
  have hlen : k_len r < 2 ^ 31 := by
    unfold k_len
    split <;> decide
  have hq := hst.2.1.pl hr
  obtain ⟨q, hq1, hw⟩ := w_at (ad := ad) (cI := cI) (cZ := cZ) (V := V) hq
  rw [c_arr hc, hz] at hw
  refine va_zald hx.1 hx.2.1 hx.2.2.2.2.2.2.2.2.2.2.2.2.1 hP q 1 hw rfl (by rw [hi]; exact vp_in_nI hj hlen) hd ?_
  have := kk hx hk H locs ls hP hS hl ⟨trivial, hst.2.2⟩ hlo
  rw [hi, nI_clamp (Nat.lt_trans hj hlen)]
  exact this
theorem r_zast {g r j : Nat} {i x : Int32} (hd : dc_at y pc .bastore 1) (hr : r < 46) (hc : k_cls r = none) (hz : k_isZ r = true) (hx01 : x = 0 ∨ x = 1) (hi : i = nI j) (hj : j < k_len r) (h2 : pc + 1 = pc2) (kk : Rc_ PL y pc2 lo st (m_set V g r j x) Φ) : Rc_ PL y pc lo (vI x :: vI i :: vR g r :: st) V Φ := by
  subst h2
  intro p l e R s m args below meth c cells slots Z dC dI cI cZ ad A hx hk H locs ls hP hS hl hst hlo
  have hlen : k_len r < 2 ^ 31 := by
    unfold k_len
    split <;> decide
  have hq := hst.2.2.1.pl hr
  obtain ⟨q, hq1, hw⟩ := w_at (ad := ad) (cI := cI) (cZ := cZ) (V := V) hq
  rw [c_arr hc, hz] at hw
  have hD := w_D (V' := V) hx.2.2.2.2.2.2.2.2.2.2.2.2.2.1
  have hv : vp_nar .boolean x = x := by rcases hx01 with rfl | rfl <;> decide
  refine va_zast hx.1 hx.2.1 hx.2.2.2.2.2.2.2.2.2.2.2.2.1 hP hD hS q 1 hw rfl (by rw [hi]; exact vp_in_nI hj hlen) hd (fun H1 locs1 hP1 hD1 hS1 => ?_)
  rw [hv, hi, nI_clamp (Nat.lt_trans hj hlen)] at hP1
  rw [w_set (g := g) (r := r) (f := upd (V g r) j x) hD hq1 (by rw [c_arr hc, hz, a_self])] at hP1
  exact kk hx hk H1 locs1 ls hP1 hS1 hl hst.2.2.2 hlo
theorem r_alen {g r : Nat} (hd : dc_at y pc .arraylength 1) (hr : r < 46) (hc : k_cls r = none) (h2 : pc + 1 = pc2) (kk : Rc_ PL y pc2 lo (vI (nI (k_len r)) :: st) V Φ) : Rc_ PL y pc lo (vR g r :: st) V Φ := by
  subst h2
  intro p l e R s m args below meth c cells slots Z dC dI cI cZ ad A hx hk H locs ls hP hS hl hst hlo
  have hq := hst.1.pl hr
  obtain ⟨q, hq1, hw⟩ := w_at (ad := ad) (cI := cI) (cZ := cZ) (V := V) hq
  rw [c_arr hc] at hw
  cases hz : k_isZ r with
  | true =>
    rw [hz] at hw
    exact va_alen (ty := .boolean) hx.1 hx.2.1 hx.2.2.2.2.2.2.2.2.2.2.2.2.1 hP q 1 hw rfl rfl hd (kk hx hk H locs ls hP hS hl ⟨trivial, hst.2⟩ hlo)
  | false =>
    rw [hz] at hw
    exact va_alen (ty := .int) hx.1 hx.2.1 hx.2.2.2.2.2.2.2.2.2.2.2.2.1 hP q 0 hw rfl rfl hd (kk hx hk H locs ls hP hS hl ⟨trivial, hst.2⟩ hlo)
theorem r_gsL {idx : Nat} (hd : dc_at y pc (.getstatic idx) 3) (hf : gd_T (.fieldLink y.1.cls idx "IntervalRouting" "LEAST_SETTING" "[I")) (h2 : pc + 3 = pc2) (kk : Rc_ PL y pc2 lo (vR 0 47 :: st) V Φ) : Rc_ PL y pc lo st V Φ := by
  subst h2
  intro p l e R s m args below meth c cells slots Z dC dI cI cZ ad A hx hk H locs ls hP hS hl hst hlo
  exact va_gets hx.1 hx.2.1 hx.2.2.2.2.2.2.2.2.2.2.2.2.2.2.2.1 hS hx.2.2.2.2.1 (hx.2.2.2.2.2.1 _ hf) (fun _ h => h) hd (kk hx hk H locs ls hP hS hl ⟨Or.inr (Or.inl rfl), hst⟩ hlo)
theorem r_gsM {idx : Nat} (hd : dc_at y pc (.getstatic idx) 3) (hf : gd_T (.fieldLink y.1.cls idx "IntervalRouting" "MOST_SETTING" "[I")) (h2 : pc + 3 = pc2) (kk : Rc_ PL y pc2 lo (vR 0 48 :: st) V Φ) : Rc_ PL y pc lo st V Φ := by
  subst h2
  intro p l e R s m args below meth c cells slots Z dC dI cI cZ ad A hx hk H locs ls hP hS hl hst hlo
  exact va_gets hx.1 hx.2.1 hx.2.2.2.2.2.2.2.2.2.2.2.2.2.2.2.2.2.1 hS hx.2.2.2.2.1 (hx.2.2.2.2.2.1 _ hf) (fun _ h => h) hd (kk hx hk H locs ls hP hS hl ⟨Or.inr (Or.inr rfl), hst⟩ hlo)
theorem r_saldL {j : Nat} {i : Int32} (hd : dc_at y pc .iaload 1) (hi : i = nI j) (hj : j < 10) (h2 : pc + 1 = pc2) (kk : Rc_ PL y pc2 lo (vI (st_L j) :: st) V Φ) : Rc_ PL y pc lo (vI i :: vR 0 47 :: st) V Φ := by
  subst h2
  intro p l e R s m args below meth c cells slots Z dC dI cI cZ ad A hx hk H locs ls hP hS hl hst hlo
  exact va_ti hx.1 hx.2.1 hx.2.2.2.2.2.2.2.2.2.2.2.2.2.2.2.2.1 hS (by rw [hi]; exact vp_in_nI hj (by decide)) (by rw [hi, nI_clamp (Nat.lt_trans hj (by decide))]; rfl) hd (kk hx hk H locs ls hP hS hl ⟨trivial, hst.2.2⟩ hlo)
theorem r_saldM {j : Nat} {i : Int32} (hd : dc_at y pc .iaload 1) (hi : i = nI j) (hj : j < 10) (h2 : pc + 1 = pc2) (kk : Rc_ PL y pc2 lo (vI (st_M j) :: st) V Φ) : Rc_ PL y pc lo (vI i :: vR 0 48 :: st) V Φ := by
  subst h2
  intro p l e R s m args below meth c cells slots Z dC dI cI cZ ad A hx hk H locs ls hP hS hl hst hlo
  exact va_ti hx.1 hx.2.1 hx.2.2.2.2.2.2.2.2.2.2.2.2.2.2.2.2.2.2 hS (by rw [hi]; exact vp_in_nI hj (by decide)) (by rw [hi, nI_clamp (Nat.lt_trans hj (by decide))]; rfl) hd (kk hx hk H locs ls hP hS hl ⟨trivial, hst.2.2⟩ hlo)
end MEM
end
section
/-! base 4: contracts over a memory, and calls -/
def A_of (PL : List (Nat × Nat)) (ad : Nat × Nat → Nat) : Nat → Prop := fun q => ∃ p ∈ PL, q = ad p
def ws_ (y : mi_T) : List Cond := .code y.1 y.2.1 y.2.2.1 y.2.2.2.1 :: lw_tbl.filter goodWord
def rm_ (y : mi_T) : Room := { frames := y.2.2.2.2.1, cells := 0, slots := 0, locals := y.2.2.2.2.2 }
def Pr_ (PL : List (Nat × Nat)) (V : Mm_) (dC : Nat → ClassId) (dI : Nat → Nat → Nat) (cI cZ : ClassId) (ad : Nat × Nat → Nat) (U : State) : Prop :=
  va_P (dC, dI) vwCl (w_of ad cI cZ PL V) U.heap ∧ va_K (dC, dI) vwCl (t_ys cI cZ) U ∧ va_D (A_of PL ad) (w_of ad cI cZ PL (fun _ _ _ => 0)) ∧ (∀ w ∈ nw_L, va_Nw w U) ∧ s_tat ad (A_of PL ad) U U.heap
def Qc_ (PL : List (Nat × Nat)) (dC : Nat → ClassId) (dI : Nat → Nat → Nat) (cI cZ : ClassId) (ad : Nat × Nat → Nat) (Q : Option Int32 → Mm_ → Prop) : Array Value → State → Outcome → State → Prop := fun _ st oc t =>
  (∃ (r : Option Int32) (V' : Mm_), oc = .returned (r.map Value.int) ∧ Q r V' ∧ va_P (dC, dI) vwCl (w_of ad cI cZ PL V') t.heap) ∧ va_F (A_of PL ad) st t
/-- method y, called with avs over the memory V: comes back, and Q holds of answer and memory -/
def Ca_ (PL : List (Nat × Nat)) (y : mi_T) (avs : List Vl_) (V : Mm_) (Q : Option Int32 → Mm_ → Prop) : Prop :=
  ∀ (l : Launch) (dC : Nat → ClassId) (dI : Nat → Nat → Nat) (cI cZ : ClassId) (ad : Nat × Nat → Nat), p_lc PL → ok_s PL avs → Met l y.1 (ws_ y) (rm_ y) (va_Pc (avs.map (tr_ ad)) (Pr_ PL V dC dI cI cZ ad)) (Qc_ PL dC dI cI cZ ad Q) 0 0 (A_of PL ad)
def Qi_ (P : Int32 → Mm_ → Prop) : Option Int32 → Mm_ → Prop := fun r V => ∃ x, r = some x ∧ P x V
def Qv_ (P : Mm_ → Prop) : Option Int32 → Mm_ → Prop := fun r V => r = none ∧ P V
abbrev Ci_ (PL : List (Nat × Nat)) (y : mi_T) (avs : List Vl_) (V : Mm_) (P : Int32 → Mm_ → Prop) : Prop := Ca_ PL y avs V (Qi_ P)
abbrev Cv_ (PL : List (Nat × Nat)) (y : mi_T) (avs : List Vl_) (V : Mm_) (P : Mm_ → Prop) : Prop := Ca_ PL y avs V (Qv_ P)
/-- the point is a method's end -/
def Re_ (y : mi_T) (Q : Option Int32 → Mm_ → Prop) : Ph_ := fun pc _ st V =>
  (∃ (r : Int32) (ty : FieldType), dc_at y pc .ireturn 1 ∧ st = [vI r] ∧ y.2.2.2.1 = some ty ∧ narrow ty (.int r) = .int r ∧ Q (some r) V) ∨ (dc_at y pc .return_ 1 ∧ st = [] ∧ y.2.2.2.1 = none ∧ Q none V)
theorem Met_of {l : Launch} {y : MethodName} {ws ws' : List Cond} {rm : Room} {Pc : Array Value → State → Prop} {Qc : Array Value → State → Outcome → State → Prop} {mc ms : Nat} {free : Addr → Prop} {cc : ByteArray} {maxL : Nat} {ret : Option FieldType}
    (hy : plainFor y = true) (hw : ws = Cond.code y cc maxL ret :: ws')
    (body : ∀ p e s m args below meth c s₁, BodyLoose p l y (headSpec ws rm) cc maxL ret e s m args below meth c s₁ → c.maxLocals = maxL → Pc args s →
      W p l e (headSpec ws rm).room s m args below meth c s.heap [] 0 0 (MQ below Qc args s mc ms free) (entryFrame m args maxL)) : Met l y ws rm Pc Qc mc ms free := by
  refine MetFree.of_bodySF (code := cc) (maxLocals := maxL) (ret := ret) hy ?_ ?_
  · intro args s m h hn
    obtain ⟨meth, c, h1, h2, h3, h4, h5, h6, -, -⟩ := Cond.code_spec hn (atoms_spec (ws := ws) h _ (by rw [hw]; exact List.mem_cons_self))
    exact ⟨meth, c, h1, h2, h3, h4, h5, h6⟩
  · intro p e s m args below meth c s₁ B hml hP _
    have hh0 : s₁.heap = s.heap := by rw [B.state]; rfl
    obtain ⟨t, a1, o, b1, b2, b3⟩ := body p e s m args below meth c s₁ B hml hP s₁ hh0 (Stand.of_body B)
    exact ⟨t, o, a1, b1, b2, ⟨b3.1, b3.2⟩⟩
theorem en_args (ad : Nat × Nat → Nat) (k : Nat) : ∀ (avs : List Vl_) (i : Nat), l_en ad i (avs.map some ++ List.replicate k none) = lv_args i (avs.map (tr_ ad))
  | [], i => by
    induction k generalizing i with
    | zero => rfl
    | succ k ih => simp only [List.map_nil, List.nil_append, List.replicate_succ]; exact ih (i + 1)
  | v :: r, i => by
    have h := en_args ad k r (i + 1)
    simp only [List.map_cons, List.cons_append, lv_args, tr_cat]
    show (i, tr_ ad v) :: l_en ad (i + 1) _ = _
    rw [h]
    rfl
theorem ok_args {PL : List (Nat × Nat)} (k : Nat) : ∀ {avs : List Vl_}, ok_s PL avs → ok_l PL (avs.map some ++ List.replicate k none)
  | [], _ => by
    induction k with
    | zero => trivial
    | succ k ih => simpa [List.replicate_succ, ok_l] using ih
  | v :: r, h => ⟨h.1, ok_args k h.2⟩
theorem lg_len (ad : Nat × Nat → Nat) : ∀ (avs : List Vl_), (lg_sl (avs.map (tr_ ad))).length = avs.length
  | [] => rfl
  | v :: r => by
    have h := lg_len ad r
    simp only [lg_sl] at h ⊢
    simp [List.flatMap_cons, tr_cat, h]
theorem Ca_.of {PL : List (Nat × Nat)} {y : mi_T} {avs : List Vl_} {V : Mm_} {Q : Option Int32 → Mm_ → Prop} (hy : plainFor y.1 = true) (k : Nat) {lo : List (Option Vl_)} (hlo : avs.map some ++ List.replicate k none = lo) (hlen : avs.length ≤ y.2.2.1) (h : Rc_ PL y 0 lo [] V (Re_ y Q)) : Ca_ PL y avs V Q := by
  subst hlo
  intro l dC dI cI cZ ad hpl hok
  refine Met_of (cc := y.2.1) (maxL := y.2.2.1) (ret := y.2.2.2.1) hy rfl ?_
  intro p e s m args below meth c s₁ B hml hv
  obtain ⟨rfl, hP, hK, hD, hN, hSt⟩ := hv
  have hts := atoms_spec (ws := ws_ y) B.pre
  have hx : Cx_ PL y p (headSpec (ws_ y) (rm_ y)).room s m (avs.map (tr_ ad)).toArray meth c 0 0 dC dI cI cZ ad (A_of PL ad) :=
    ⟨B.exec, B.bytes, B.returns, hml, findClass_of_methodNamed B.named, fun w hw => hts w (List.mem_cons_of_mem _ (List.mem_filter.mpr ⟨hw.1, hw.2⟩)), hN, B.notSynchronized, Nat.le_refl _, Nat.le_refl _, Nat.le_refl _, Nat.le_refl _, hK, hD, hpl, hSt⟩
  rw [lg_entry_eq]
  have hl := lv_entry (avs.map (tr_ ad)) (n := y.2.2.1) (by rw [lg_len]; exact hlen)
  rw [← en_args ad k] at hl
  refine h hx (Z := MQ below (Qc_ PL dC dI cI cZ ad Q) (avs.map (tr_ ad)).toArray s 0 0 (A_of PL ad)) (fun pc' lo' st' V' hre => ?_) s.heap [] _ hP va_S.rf hl trivial (ok_args k hok)
  intro H locs ls hP hS hl hst hlo
  rcases hre with ⟨r, ty, hd, rfl, hr, hn, hq⟩ | ⟨hd, rfl, hr, hq⟩
  · exact W.zret (v := r) (ty := ty) hx.1 hx.2.1 (hx.2.2.1.trans hr) hn (fun t ht hW => ⟨⟨some r, V', rfl, hq, by rw [ht]; exact hP⟩, hS.F ht⟩) hS.2.2 hd B.notSynchronized
  · exact W.vret hx.1 hx.2.1 (hx.2.2.1.trans hr) (fun t ht hW => ⟨⟨none, V', rfl, hq, by rw [ht]; exact hP⟩, hS.F ht⟩) hS.2.2 hd B.notSynchronized
theorem Ca_.mono {PL : List (Nat × Nat)} {y : mi_T} {avs : List Vl_} {V : Mm_} {Q Q' : Option Int32 → Mm_ → Prop} (h : Ca_ PL y avs V Q) (hq : ∀ r V', Q r V' → Q' r V') : Ca_ PL y avs V Q' := by
  intro l dC dI cI cZ ad hpl hok p e ha hc hk s m args below hf happ hP hK
  obtain ⟨n, o, h1, h2, h3, ⟨⟨r, V', e1, e2, e3⟩, hF⟩, h5⟩ := h l dC dI cI cZ ad hpl hok p e ha hc hk s m args below hf happ hP hK
  exact ⟨n, o, h1, h2, h3, ⟨⟨r, V', e1, hq r V' e2, e3⟩, hF⟩, h5⟩
section RET
variable {PL : List (Nat × Nat)} {y : mi_T} {pc pc2 : Nat} {lo : List (Option Vl_)} {st : List Vl_} {V : Mm_} {Φ : Ph_}
theorem r_iret {P : Int32 → Mm_ → Prop} {x : Int32} (hd : dc_at y pc .ireturn 1) (hr : y.2.2.2.1 = some .int) (hq : P x V) : Rc_ PL y pc lo [vI x] V (Re_ y (Qi_ P)) := Rc_.done (Or.inl ⟨x, .int, hd, rfl, hr, rfl, x, rfl, hq⟩)
theorem r_zret {P : Int32 → Mm_ → Prop} {x : Int32} (hd : dc_at y pc .ireturn 1) (hr : y.2.2.2.1 = some .boolean) (hx : x = 0 ∨ x = 1) (hq : P x V) : Rc_ PL y pc lo [vI x] V (Re_ y (Qi_ P)) := Rc_.done (Or.inl ⟨x, .boolean, hd, rfl, hr, by rcases hx with rfl | rfl <;> decide, x, rfl, hq⟩)
theorem r_vret {P : Mm_ → Prop} (hd : dc_at y pc .return_ 1) (hr : y.2.2.2.1 = none) (hq : P V) : Rc_ PL y pc lo [] V (Re_ y (Qv_ P)) := Rc_.done (Or.inr ⟨hd, rfl, hr, rfl, hq⟩)
end RET
theorem nw_tabs : ∀ w ∈ nw_L, w.onTables = true := by decide +kernel
theorem nw_warm {s U : State} (hW : s.WarmedH U.vm) : ∀ w ∈ nw_L, va_Nw w s → va_Nw w U := by
  intro w hw h
  simp only [nw_L, List.mem_cons, List.not_mem_nil, or_false] at hw
  rcases hw with rfl | rfl | rfl | rfl | rfl | rfl | rfl | rfl | rfl | rfl | rfl | rfl | rfl <;> exact va_Nw.warmM hW h
theorem frame_blind {PL : List (Nat × Nat)} {V : Mm_} {dC : Nat → ClassId} {dI : Nat → Nat → Nat} {cI cZ : ClassId} {ad : Nat × Nat → Nat} {av : List Value} : FrameBlind (va_Pc av (Pr_ PL V dC dI cI cZ ad)) := by
  intro a U g mk h
  obtain ⟨h0, hP, hK, hD, hN, h1, h2, h3, h4⟩ := h
  have hv : U.vm.Alike (U.calling g mk a).vm := Vm.Alike.refl U.vm
  exact ⟨h0, hP, va_K.moved hv hK, hD, fun w hw => va_Nw.same (nw_tabs w hw) (rfl : U.vm = (U.calling g mk a).vm) (hN w hw), h1.moved hv, h2.moved hv, h3.moved hv, h4.moved hv⟩
theorem good_all {ws : List Cond} (h : ∀ w ∈ ws, gd_T w) : GoodIn (lw_tbl.filter goodWord) ws := fun w hw => ⟨List.mem_filter.mpr (h w hw), good_of_word (h w hw).2⟩
theorem ws_good {z : mi_T} {n : Nat} (hz : mk_at z n) : ∀ w ∈ ws_ z, gd_T w := by
  intro w hw
  rcases List.mem_cons.mp hw with h | h
  · rw [h]; exact hz.2.1
  · exact List.mem_filter.mp h
section CTX
variable {PL : List (Nat × Nat)} {y : mi_T} {p : Program} {l : Launch} {e : Env} {R : Room} {s : State} {m : MethodId} {args : Array Value} {below : List Frame} {meth : Method} {c : Code} {cells slots : Nat} {Z : State → Prop} {dC : Nat → ClassId} {dI : Nat → Nat → Nat} {cI cZ : ClassId} {ad : Nat × Nat → Nat} {A : Nat → Prop}
theorem cx_sub (hx : Cx_ PL y p R s m args meth c cells slots dC dI cI cZ ad A) : ∀ q, A_of PL ad q → A q := by
  rintro q ⟨a, ha, rfl⟩
  obtain ⟨i, -, hw⟩ := w_at (ad := ad) (cI := cI) (cZ := cZ) (V := fun _ _ _ => 0) ha
  exact hx.2.2.2.2.2.2.2.2.2.2.2.2.2.1.2 i _ hw
/-- the callee's start, from the caller's point -/
theorem cx_pre {V : Mm_} {H : Heap} {locs : List Loc} (hx : Cx_ PL y p R s m args meth c cells slots dC dI cI cZ ad A) (hP : va_P (dC, dI) vwCl (w_of ad cI cZ PL V) H) (hS : va_S A s.heap H locs) (av : List Value) : ∀ U : State, U.heap = H → s.WarmedH U.vm → va_Pc av (Pr_ PL V dC dI cI cZ ad) av.toArray U := by
  intro U hU hW
  have hs := cx_sub hx
  obtain ⟨-, -, -, -, -, -, hN, -, -, -, -, -, hK, hD, -, h1, h2, h3, h4⟩ := hx
  have hq : ∀ a : Nat, a < s.heap.size → ¬ A a → H[a]? = s.heap[a]? := fun a h1 h2 => hS.2.1 a h1 h2
  refine ⟨rfl, by rw [hU]; exact hP, va_K.moved hW.alike hK, hD.weaken (fun k q hk _ => ?_), fun w hw => nw_warm hW w hw (hN w hw), ?_, ?_, ?_, ?_⟩
  · rw [w_of, List.getElem?_map] at hk
    cases hp : PL[k]? with
    | none => rw [hp] at hk; cases hk
    | some a =>
      rw [hp] at hk
      cases hk
      exact ⟨a, List.mem_of_getElem? hp, rfl⟩
  · rw [hU]; exact ((h1.kept hq).narrow hs).moved hW.alike
  · rw [hU]; exact ((h2.kept hq).narrow hs).moved hW.alike
  · rw [hU]; exact ((h3.kept hq).narrow hs).moved hW.alike
  · rw [hU]; exact ((h4.kept hq).narrow hs).moved hW.alike
theorem cx_use {Q : Option Int32 → Mm_ → Prop} {a : Array Value} {H : Heap} {locs : List Loc} {ls : Array Slot} {pc : Nat} {st stk : List Vl_} (run : va_Run p l e R s m args below meth c H locs cells slots 0 0 (F0 m pc ls (stk.map (tr_ ad))) (st.map (tr_ ad)) (Qc_ PL dC dI cI cZ ad Q a) (A_of PL ad)) (hA : ∀ q, A_of PL ad q → A q) (hS : va_S A s.heap H locs)
    (kk : ∀ (ro : Option Int32) (V' : Mm_), Q ro V' → ∀ (H1 : Heap) (locs1 : List Loc), va_P (dC, dI) vwCl (w_of ad cI cZ PL V') H1 → va_S A s.heap H1 locs1 → W p l e R s m args below meth c H1 locs1 cells slots Z (F0 m (pc + 3) ls ((ro.toList.map vI ++ st).map (tr_ ad)))) : W p l e R s m args below meth c H locs cells slots Z (F0 m pc ls (stk.map (tr_ ad))) := by
  intro T hT X
  obtain ⟨v, st₀, t, T', L, h0, X', hL, e1, e2, ⟨⟨ro, V', hv, hq, hP'⟩, hz, hk⟩, go⟩ := run T hT X
  rw [h0] at hz hk
  rw [← e1] at hP' hz
  have hv2 : v = ro.map Value.int := by injection hv
  obtain ⟨t2, a1, b1⟩ := kk ro V' hq T'.heap (locs ++ L) hP' ⟨Nat.le_trans hS.1 hz, fun q h1 h2 => by rw [e1, hk q (Nat.lt_of_lt_of_le h1 hS.1) (fun z => h2 (hA q z))]; exact hS.2.1 q h1 h2, fun q hq => by
      rcases List.mem_append.mp hq with h | h
      · exact hS.2.2 q h
      · exact hA _ (hL q h)⟩ T' rfl X'
  refine ⟨t2, go t2 ?_, b1⟩
  have e3 : v.toList ++ st.map (tr_ ad) = (ro.toList.map vI ++ st).map (tr_ ad) := by
    subst hv2
    cases ro <;> rfl
  show Steps p.tables e below (T'.setTop { F0 m pc ls (stk.map (tr_ ad)) with pc := pc + 3, stack := v.toList ++ st.map (tr_ ad) }) t2
  rw [e3]
  exact a1
theorem ct_sum (ad : Nat × Nat → Nat) : ∀ (st : List Vl_), ((st.map (tr_ ad)).map fun v => v.category).sum = st.length
  | [] => rfl
  | v :: r => by
    have h := ct_sum ad r
    simp only [List.map_cons, List.sum_cons, tr_cat, h, List.length_cons]
    omega
theorem ok_app {PL : List (Nat × Nat)} : ∀ {a b : List Vl_}, ok_s PL (a ++ b) → ok_s PL a ∧ ok_s PL b
  | [], b, h => ⟨trivial, h⟩
  | v :: r, b, h => ⟨⟨h.1, (ok_app (a := r) h.2).1⟩, (ok_app (a := r) h.2).2⟩
theorem ok_mem {PL : List (Nat × Nat)} : ∀ {a : List Vl_}, ok_s PL a ↔ ∀ v ∈ a, ok_v PL v
  | [] => by simp [ok_s]
  | v :: r => by
    have := ok_mem (PL := PL) (a := r)
    simp only [ok_s, List.forall_mem_cons, this]
theorem ok_rev {PL : List (Nat × Nat)} {a : List Vl_} (h : ok_s PL a.reverse) : ok_s PL a := ok_mem.mpr fun v hv => ok_mem.mp h v (List.mem_reverse.mpr hv)
theorem ok_ro {PL : List (Nat × Nat)} {st : List Vl_} (ro : Option Int32) (h : ok_s PL st) : ok_s PL (ro.toList.map vI ++ st) := by
  cases ro with
  | none => exact h
  | some x => exact ⟨trivial, h⟩
end CTX
section CALLS
variable {PL : List (Nat × Nat)} {y z : mi_T} {pc pc2 n idx : Nat} {lo : List (Option Vl_)} {stk st as : List Vl_} {V : Mm_} {Φ : Ph_} {Q : Option Int32 → Mm_ → Prop}
/-- room: what the callee needs beside its own frame -/
def rm_ok (y z : mi_T) : Prop := z.2.2.2.2.1 + 1 ≤ y.2.2.2.2.1 ∧ 8 + (z.2.2.1 + 11) + z.2.2.2.2.2 ≤ y.2.2.2.2.2
theorem r_callV {g r : Nat} (hd : dc_at y pc (.invokevirtual idx) 3) (hlk : gd_T (.methodLink y.1.cls idx z.1)) (hz : mv_at z n) (hrm : rm_ok y z) (hr : r < 46) (hcl : ∃ ci C T N, k_cls r = some ci ∧ vwCl[ci]? = some (C, T, N) ∧ z.1.cls = C) (hn : as.length = n) (hs : stk = as.reverse ++ vR g r :: st) (hl8 : st.length ≤ 8) (h2 : pc + 3 = pc2)
    (hC : Ca_ PL z (vR g r :: as) V Q) (kk : ∀ (ro : Option Int32) (V' : Mm_), Q ro V' → Rc_ PL y pc2 lo (ro.toList.map vI ++ st) V' Φ) : Rc_ PL y pc lo stk V Φ := by
  subst h2
  subst hs
  intro p l e R s m args below meth c cells slots Z dC dI cI cZ ad A hx hk H locs ls hP hS hl hst hlo
  obtain ⟨ci, C, T, N, hc, hcv, hcC⟩ := hcl
  have hst2 := ok_app hst
  have hok : ok_s PL (vR g r :: as) := ⟨hst2.2.1, ok_rev hst2.1⟩
  have hM := hC l dC dI cI cZ ad hx.2.2.2.2.2.2.2.2.2.2.2.2.2.2.1 hok
  have hq := hst2.2.1.pl hr
  obtain ⟨i, hi, hw⟩ := w_at (ad := ad) (cI := cI) (cZ := cZ) (V := V) hq
  rw [c_obj hc] at hw
  have hts : ∀ w ∈ lw_tbl.filter goodWord, w.before args s = true := fun w hw => hx.2.2.2.2.2.1 w (List.mem_filter.mp hw)
  obtain ⟨z1, z2, z3⟩ := hz
  have run := va_runV (p := p) (l := l) (e := e) (R := R) (below := below) (meth := meth) (H := H) (locs := locs) (cells := cells) (slots := slots) (As := as.map (tr_ ad)) (rest := st.map (tr_ ad)) (b := ad (g, r)) (C := z.1.cls) (g := F0 m pc ls ((as.reverse ++ vR g r :: st).map (tr_ ad))) (n := n) (index := idx)
    (⟨hx.1, hx.2.1, hx.2.2.2.1, hx.2.2.2.2.1, hts⟩ : CallFix p m c y.2.1 y.2.2.1 s args (lw_tbl.filter goodWord) y.1.cls) hM
    ⟨callB_of n hts (good_all (ws_good z3)) rfl rfl rfl (hx.2.2.2.2.2.1 _ z3.1) (hx.2.2.2.2.2.1 _ hlk) ⟨z3.2.2.1.1, z3.2.2.1.2, z3.2.2.2.1⟩ ⟨Nat.le_trans hrm.1 hx.2.2.2.2.2.2.2.2.1, Nat.le_trans hrm.2 hx.2.2.2.2.2.2.2.2.2.1⟩, hx.2.2.2.2.2.1 _ z1, hx.2.2.2.2.2.1 _ z2⟩
    ⟨frame_blind, by rw [hcC]; exact va_recv hx.2.2.2.2.2.2.2.2.2.2.2.2.1 hP hcv hw, fun U hU hW => cx_pre hx hP hS _ U hU hW⟩ rfl (by rw [List.length_map]; exact hn) hl.1 (by simp [tr_]) (lv_room (by rw [ct_sum]; exact hl8)) hd ⟨hx.2.2.2.2.2.2.2.2.2.2.1, hx.2.2.2.2.2.2.2.2.2.2.2.1⟩
  exact cx_use run (cx_sub hx) hS (fun ro V' hq H1 locs1 hP1 hS1 => kk ro V' hq hx hk H1 locs1 ls hP1 hS1 hl (ok_ro ro hst2.2.2) hlo)
theorem r_callS (hd : dc_at y pc (.invokestatic idx) 3) (hlk : gd_T (.methodLink y.1.cls idx z.1)) (hz : ms_at z n) (hrm : rm_ok y z) (hn : as.length = n) (hs : stk = as.reverse ++ st) (hl8 : st.length ≤ 8) (h2 : pc + 3 = pc2)
    (hC : Ca_ PL z as V Q) (kk : ∀ (ro : Option Int32) (V' : Mm_), Q ro V' → Rc_ PL y pc2 lo (ro.toList.map vI ++ st) V' Φ) : Rc_ PL y pc lo stk V Φ := by
  subst h2
  subst hs
  intro p l e R s m args below meth c cells slots Z dC dI cI cZ ad A hx hk H locs ls hP hS hl hst hlo
  have hst2 := ok_app hst
  have hok : ok_s PL as := ok_rev hst2.1
  have hM := hC l dC dI cI cZ ad hx.2.2.2.2.2.2.2.2.2.2.2.2.2.2.1 hok
  have hts : ∀ w ∈ lw_tbl.filter goodWord, w.before args s = true := fun w hw => hx.2.2.2.2.2.1 w (List.mem_filter.mp hw)
  obtain ⟨z1, z3⟩ := hz
  have run := va_runS (p := p) (l := l) (e := e) (R := R) (below := below) (meth := meth) (H := H) (locs := locs) (cells := cells) (slots := slots) (As := as.map (tr_ ad)) (rest := st.map (tr_ ad)) (g := F0 m pc ls ((as.reverse ++ st).map (tr_ ad))) (n := n) (index := idx)
    (⟨hx.1, hx.2.1, hx.2.2.2.1, hx.2.2.2.2.1, hts⟩ : CallFix p m c y.2.1 y.2.2.1 s args (lw_tbl.filter goodWord) y.1.cls) hM
    ⟨callB_of n hts (good_all (ws_good z3)) rfl rfl rfl (hx.2.2.2.2.2.1 _ z3.1) (hx.2.2.2.2.2.1 _ hlk) ⟨z3.2.2.1.1, z3.2.2.1.2, z3.2.2.2.1⟩ ⟨Nat.le_trans hrm.1 hx.2.2.2.2.2.2.2.2.1, Nat.le_trans hrm.2 hx.2.2.2.2.2.2.2.2.2.1⟩, hx.2.2.2.2.2.1 _ z1⟩
    ⟨frame_blind, fun U hU hW => cx_pre hx hP hS _ U hU hW⟩ rfl (by rw [List.length_map]; exact hn) hl.1 (by simp) (lv_room (by rw [ct_sum]; exact hl8)) hd ⟨hx.2.2.2.2.2.2.2.2.2.2.1, hx.2.2.2.2.2.2.2.2.2.2.2.1⟩
  exact cx_use run (cx_sub hx) hS (fun ro V' hq H1 locs1 hP1 hS1 => kk ro V' hq hx hk H1 locs1 ls hP1 hS1 hl (ok_ro ro hst2.2) hlo)
theorem r_callN {host : String} (hd : dc_at y pc (.invokestatic idx) 3) (hlk : Cond.methodLinkNest y.1.cls idx z.1 host ∈ nw_L) (hz : ms_at z n) (hrm : rm_ok y z) (hn : as.length = n) (hs : stk = as.reverse ++ st) (hl8 : st.length ≤ 8) (h2 : pc + 3 = pc2)
    (hC : Ca_ PL z as V Q) (kk : ∀ (ro : Option Int32) (V' : Mm_), Q ro V' → Rc_ PL y pc2 lo (ro.toList.map vI ++ st) V' Φ) : Rc_ PL y pc lo stk V Φ := by
  subst h2
  subst hs
  intro p l e R s m args below meth c cells slots Z dC dI cI cZ ad A hx hk H locs ls hP hS hl hst hlo
  have hst2 := ok_app hst
  have hok : ok_s PL as := ok_rev hst2.1
  have hM := hC l dC dI cI cZ ad hx.2.2.2.2.2.2.2.2.2.2.2.2.2.2.1 hok
  have hts : ∀ w ∈ lw_tbl.filter goodWord, w.before args s = true := fun w hw => hx.2.2.2.2.2.1 w (List.mem_filter.mp hw)
  obtain ⟨z1, z3⟩ := hz
  have run := va_runSN (p := p) (l := l) (e := e) (R := R) (below := below) (meth := meth) (H := H) (locs := locs) (cells := cells) (slots := slots) (As := as.map (tr_ ad)) (rest := st.map (tr_ ad)) (g := F0 m pc ls ((as.reverse ++ st).map (tr_ ad))) (n := n) (index := idx)
    (⟨hx.1, hx.2.1, hx.2.2.2.1, hx.2.2.2.2.1, hts⟩ : CallFix p m c y.2.1 y.2.2.1 s args (lw_tbl.filter goodWord) y.1.cls) hM
    ⟨va_cnB n hts (good_all (ws_good z3)) rfl rfl rfl (hx.2.2.2.2.2.2.1 _ hlk) (hx.2.2.2.2.2.1 _ z3.1) ⟨z3.2.2.1.1, z3.2.2.1.2, z3.2.2.2.1⟩ ⟨Nat.le_trans hrm.1 hx.2.2.2.2.2.2.2.2.1, Nat.le_trans hrm.2 hx.2.2.2.2.2.2.2.2.2.1⟩, hx.2.2.2.2.2.1 _ z1, trivial⟩
    ⟨frame_blind, fun U hU hW => cx_pre hx hP hS _ U hU hW⟩ rfl (by rw [List.length_map]; exact hn) hl.1 (by simp) (lv_room (by rw [ct_sum]; exact hl8)) hd ⟨hx.2.2.2.2.2.2.2.2.2.2.1, hx.2.2.2.2.2.2.2.2.2.2.2.1⟩
  exact cx_use run (cx_sub hx) hS (fun ro V' hq H1 locs1 hP1 hS1 => kk ro V' hq hx hk H1 locs1 ls hP1 hS1 hl (ok_ro ro hst2.2) hlo)
/-- Math.min, Math.max, System.arraycopy of ints -/
theorem r_min {a b : Int32} (hd : dc_at y pc (.invokestatic idx) 3) (hlk : gd_T (.methodLink y.1.cls idx Lib.Math.min.name)) (hst0 : gd_T (.static Lib.Math.min.name)) (hini : gd_T (.initialized "java/lang/Math")) (hcode : gd_T (.code Lib.Math.min.name Lib.Math.min.code 2 (some .int))) (hrm : 1 ≤ y.2.2.2.2.1 ∧ 21 ≤ y.2.2.2.2.2) (hl8 : st.length ≤ 8) (h2 : pc + 3 = pc2)
    (kk : Rc_ PL y pc2 lo (vI (if b < a then b else a) :: st) V Φ) : Rc_ PL y pc lo (vI b :: vI a :: st) V Φ := by
  subst h2
  intro p l e R s m args below meth c cells slots Z dC dI cI cZ ad A hx hk H locs ls hP hS hl hst hlo
  exact va_mmin hx.1 hx.2.1 (by rw [hx.2.2.2.1]; exact hl.1.symm) hx.2.2.2.2.1 (hx.2.2.2.2.2.1 _ hlk) (hx.2.2.2.2.2.1 _ hst0) (hx.2.2.2.2.2.1 _ hini) (hx.2.2.2.2.2.1 _ hcode) (Nat.le_trans hrm.1 hx.2.2.2.2.2.2.2.2.1) (by have := Nat.le_trans hrm.2 hx.2.2.2.2.2.2.2.2.2.1; rw [ct_sum]; omega) hx.2.2.2.2.2.2.2.2.2.2.1 hx.2.2.2.2.2.2.2.2.2.2.2.1 hd (kk hx hk H locs ls hP hS hl ⟨trivial, hst.2.2⟩ hlo)
theorem r_max {a b : Int32} (hd : dc_at y pc (.invokestatic idx) 3) (hlk : gd_T (.methodLink y.1.cls idx Lib.Math.max.name)) (hst0 : gd_T (.static Lib.Math.max.name)) (hini : gd_T (.initialized "java/lang/Math")) (hcode : gd_T (.code Lib.Math.max.name Lib.Math.max.code 2 (some .int))) (hrm : 1 ≤ y.2.2.2.2.1 ∧ 21 ≤ y.2.2.2.2.2) (hl8 : st.length ≤ 8) (h2 : pc + 3 = pc2)
    (kk : Rc_ PL y pc2 lo (vI (if a < b then b else a) :: st) V Φ) : Rc_ PL y pc lo (vI b :: vI a :: st) V Φ := by
  subst h2
  intro p l e R s m args below meth c cells slots Z dC dI cI cZ ad A hx hk H locs ls hP hS hl hst hlo
  exact va_mmax hx.1 hx.2.1 (by rw [hx.2.2.2.1]; exact hl.1.symm) hx.2.2.2.2.1 (hx.2.2.2.2.2.1 _ hlk) (hx.2.2.2.2.2.1 _ hst0) (hx.2.2.2.2.2.1 _ hini) (hx.2.2.2.2.2.1 _ hcode) (Nat.le_trans hrm.1 hx.2.2.2.2.2.2.2.2.1) (by have := Nat.le_trans hrm.2 hx.2.2.2.2.2.2.2.2.2.1; rw [ct_sum]; omega) hx.2.2.2.2.2.2.2.2.2.2.1 hx.2.2.2.2.2.2.2.2.2.2.2.1 hd (kk hx hk H locs ls hP hS hl ⟨trivial, hst.2.2⟩ hlo)
theorem r_copy {g0 r0 g r j : Nat} {n : Int32} (hd : dc_at y pc (.invokestatic idx) 3) (hlk : gd_T (.methodLink y.1.cls idx arraycopyName)) (hnat : gd_T (.native arraycopyName)) (hst0 : gd_T (.static arraycopyName)) (hini : gd_T (.initialized "java/lang/System")) (hr0 : r0 < 46) (hr : r < 46) (hc0 : k_cls r0 = none) (hc : k_cls r = none) (hz0 : k_isZ r0 = false) (hz : k_isZ r = false) (hj : n = nI j) (hj1 : j ≤ k_len r0) (hj2 : j ≤ k_len r) (hrm : 1 ≤ y.2.2.2.2.1 ∧ 26 ≤ y.2.2.2.2.2) (hl8 : st.length ≤ 8) (h2 : pc + 3 = pc2)
    (kk : Rc_ PL y pc2 lo st (a_set V g r (va_cpy (V g0 r0) (V g r) 0 0 j)) Φ) : Rc_ PL y pc lo (vI n :: vI 0 :: vR g r :: vI 0 :: vR g0 r0 :: st) V Φ := by
  subst h2
  subst hj
  intro p l e R s m args below meth c cells slots Z dC dI cI cZ ad A hx hk H locs ls hP hS hl hst hlo
  have hlen : k_len r < 2 ^ 31 := by
    unfold k_len
    split <;> decide
  have hjl : j < 2 ^ 31 := Nat.lt_of_le_of_lt hj2 hlen
  have hq := hst.2.2.1.pl hr
  have hq0 := hst.2.2.2.2.1.pl hr0
  obtain ⟨q, hq1, hw⟩ := w_at (ad := ad) (cI := cI) (cZ := cZ) (V := V) hq
  obtain ⟨q', hq1', hw'⟩ := w_at (ad := ad) (cI := cI) (cZ := cZ) (V := V) hq0
  rw [c_arr hc, hz] at hw
  rw [c_arr hc0, hz0] at hw'
  have hD := w_D (V' := V) hx.2.2.2.2.2.2.2.2.2.2.2.2.2.1
  refine va_copyi hx.1 hx.2.1 (by rw [hx.2.2.2.1]; exact hl.1.symm) hx.2.2.2.2.1 (hx.2.2.2.2.2.1 _ hlk) (hx.2.2.2.2.2.1 _ hnat) (hx.2.2.2.2.2.1 _ hst0) (hx.2.2.2.2.2.1 _ hini) hx.2.2.2.2.2.2.2.2.2.2.2.2.1 hP hD hS q' q 0 0 (ty := .int) hw' hw rfl rfl rfl (by decide) (by decide) (nI_pos hjl) ?_ ?_ (fun i _ => rfl) (Nat.le_trans hrm.1 hx.2.2.2.2.2.2.2.2.1) ?_ hd (fun H1 locs1 hP1 hD1 hS1 => ?_)
  · rw [nI_clamp hjl, sb_cl0, Nat.zero_add]; exact hj1
  · rw [nI_clamp hjl, sb_cl0, Nat.zero_add]; exact hj2
  · have := Nat.le_trans hrm.2 hx.2.2.2.2.2.2.2.2.2.1
    have e : nativeFrameWords "java/lang/System" "arraycopy" 5 = 7 := by decide +kernel
    rw [ct_sum, e]
    omega
  · rw [nI_clamp hjl, sb_cl0] at hP1
    rw [w_set (g := g) (r := r) (f := va_cpy (V g0 r0) (V g r) 0 0 j) hD hq1 (by rw [c_arr hc, hz, a_self])] at hP1
    exact kk hx hk H1 locs1 ls hP1 hS1 hl hst.2.2.2.2.2 hlo
end CALLS
end
section
/-! base 5: rows for small numbers (nI), truth values (b2), calls by their arguments; loops -/
def b2 (b : Bool) : Int32 := if b = true then 1 else 0
theorem b2_01 (b : Bool) : b2 b = 0 ∨ b2 b = 1 := by cases b <;> simp [b2]
theorem b2_t {P : Prop} [Decidable P] (h : P) : nI 1 = b2 (decide P) := by rw [b2, if_pos (by simpa using h)]; rfl
theorem b2_f {P : Prop} [Decidable P] (h : ¬ P) : nI 0 = b2 (decide P) := by rw [b2, if_neg (by simpa using h)]; rfl
theorem b2_1 {b : Bool} (h : b = true) : nI 1 = b2 b := by rw [h]; rfl
theorem b2_0 {b : Bool} (h : b = false) : nI 0 = b2 b := by rw [h]; rfl
section HELP
variable {PL : List (Nat × Nat)} {y z : mi_T} {pc pc2 n idx : Nat} {lo : List (Option Vl_)} {stk st as : List Vl_} {V V2 : Mm_} {Φ : Ph_}
theorem r_ifB_eq {off : Int} {tgt : Nat} {b : Bool} (hd : dc_at y pc (.ifCond .eq off) 3) (ht : (pc : Int) + off = (tgt : Int)) (h2 : pc + 3 = pc2) (kt : b = false → Rc_ PL y tgt lo st V Φ) (kf : b = true → Rc_ PL y pc2 lo st V Φ) : Rc_ PL y pc lo (vI (b2 b) :: st) V Φ :=
  r_if_eq hd ht h2 (fun h => kt (by cases b with | false => rfl | true => exact absurd h (by decide))) (fun h => kf (by cases b with | false => exact absurd rfl h | true => rfl))
theorem r_ifB_ne {off : Int} {tgt : Nat} {b : Bool} (hd : dc_at y pc (.ifCond .ne off) 3) (ht : (pc : Int) + off = (tgt : Int)) (h2 : pc + 3 = pc2) (kt : b = true → Rc_ PL y tgt lo st V Φ) (kf : b = false → Rc_ PL y pc2 lo st V Φ) : Rc_ PL y pc lo (vI (b2 b) :: st) V Φ :=
  r_if_ne hd ht h2 (fun h => kt (by cases b with | false => exact absurd rfl h | true => rfl)) (fun h => kf (by cases b with | false => rfl | true => exact absurd h (by decide)))
theorem r_iaddN {a b : Nat} (hd : dc_at y pc .iadd 1) (h2 : pc + 1 = pc2) (k : Rc_ PL y pc2 lo (vI (nI (a + b)) :: st) V Φ) : Rc_ PL y pc lo (vI (nI b) :: vI (nI a) :: st) V Φ := r_iadd hd h2 (by rw [nI_add]; exact k)
theorem r_imulN {a b : Nat} (hd : dc_at y pc .imul 1) (h2 : pc + 1 = pc2) (k : Rc_ PL y pc2 lo (vI (nI (a * b)) :: st) V Φ) : Rc_ PL y pc lo (vI (nI b) :: vI (nI a) :: st) V Φ := r_imul hd h2 (by rw [pk_mul]; exact k)
theorem r_isubN {a b : Nat} (h : b ≤ a) (hd : dc_at y pc .isub 1) (h2 : pc + 1 = pc2) (k : Rc_ PL y pc2 lo (vI (nI (a - b)) :: st) V Φ) : Rc_ PL y pc lo (vI (nI b) :: vI (nI a) :: st) V Φ := r_isub hd h2 (by rw [pk_sub h]; exact k)
theorem r_idivN {a b : Nat} (ha : a < 2 ^ 31) (h0 : 0 < b) (hb : b < 2 ^ 31) (hd : dc_at y pc .idiv 1) (h2 : pc + 1 = pc2) (k : Rc_ PL y pc2 lo (vI (nI (a / b)) :: st) V Φ) : Rc_ PL y pc lo (vI (nI b) :: vI (nI a) :: st) V Φ := r_idiv hd (nI_ne0 h0 hb) h2 (by rw [pk_div ha h0 hb]; exact k)
theorem r_iremN {a b : Nat} (ha : a < 2 ^ 31) (h0 : 0 < b) (hb : b < 2 ^ 31) (hd : dc_at y pc .irem 1) (h2 : pc + 1 = pc2) (k : Rc_ PL y pc2 lo (vI (nI (a % b)) :: st) V Φ) : Rc_ PL y pc lo (vI (nI b) :: vI (nI a) :: st) V Φ := r_irem hd (nI_ne0 h0 hb) h2 (by rw [pk_rem ha h0 hb]; exact k)
theorem r_iincN {i a : Nat} {lo2 : List (Option Vl_)} (hd : dc_at y pc (.iinc i 1) 3) (hi : lo[i]? = some (some (vI (nI a)))) (hn : i < y.2.2.1) (hl2 : lo.set i (some (vI (nI (a + 1)))) = lo2) (h2 : pc + 3 = pc2) (k : Rc_ PL y pc2 lo2 st V Φ) : Rc_ PL y pc lo st V Φ := r_iinc hd hi hn (show nI a + 1 = nI (a + 1) from nI_1 a) hl2 h2 k
theorem r_if0N_lt {off : Int} {tgt a : Nat} (ha : a < 2 ^ 31) (hd : dc_at y pc (.ifCond .lt off) 3) (ht : (pc : Int) + off = (tgt : Int)) (h2 : pc + 3 = pc2) (kf : Rc_ PL y pc2 lo st V Φ) : Rc_ PL y pc lo (vI (nI a) :: st) V Φ := r_if_lt hd ht h2 (fun h => absurd h (nI_pos ha)) (fun _ => kf)
theorem r_if0N_eq {off : Int} {tgt a : Nat} (ha : a < 2 ^ 31) (hd : dc_at y pc (.ifCond .eq off) 3) (ht : (pc : Int) + off = (tgt : Int)) (h2 : pc + 3 = pc2) (kt : a = 0 → Rc_ PL y tgt lo st V Φ) (kf : ¬ a = 0 → Rc_ PL y pc2 lo st V Φ) : Rc_ PL y pc lo (vI (nI a) :: st) V Φ := r_if_eq hd ht h2 (fun h => kt ((nI_eq ha (by decide)).mp (h.trans nI_0.symm))) (fun h => kf (fun z => h (by rw [z]; rfl)))
theorem r_if0N_ne {off : Int} {tgt a : Nat} (ha : a < 2 ^ 31) (hd : dc_at y pc (.ifCond .ne off) 3) (ht : (pc : Int) + off = (tgt : Int)) (h2 : pc + 3 = pc2) (kt : ¬ a = 0 → Rc_ PL y tgt lo st V Φ) (kf : a = 0 → Rc_ PL y pc2 lo st V Φ) : Rc_ PL y pc lo (vI (nI a) :: st) V Φ := r_if_ne hd ht h2 (fun h => kt (fun z => h (by rw [z]; rfl))) (fun h => kf ((nI_eq ha (by decide)).mp (h.trans nI_0.symm)))
theorem r_if0N_le {off : Int} {tgt a : Nat} (ha : a < 2 ^ 31) (hd : dc_at y pc (.ifCond .le off) 3) (ht : (pc : Int) + off = (tgt : Int)) (h2 : pc + 3 = pc2) (kt : a = 0 → Rc_ PL y tgt lo st V Φ) (kf : 0 < a → Rc_ PL y pc2 lo st V Φ) : Rc_ PL y pc lo (vI (nI a) :: st) V Φ := r_if_le hd ht h2 (fun h => kt (by have := (nI_leI ha (show 0 < 2 ^ 31 by decide)).mp h; omega)) (fun h => kf (Nat.pos_of_ne_zero (fun z => h (by rw [z]; decide))))
theorem r_icN_eq {off : Int} {tgt a b : Nat} (ha : a < 2 ^ 31) (hb : b < 2 ^ 31) (hd : dc_at y pc (.if_icmp .eq off) 3) (ht : (pc : Int) + off = (tgt : Int)) (h2 : pc + 3 = pc2) (kt : a = b → Rc_ PL y tgt lo st V Φ) (kf : ¬ a = b → Rc_ PL y pc2 lo st V Φ) : Rc_ PL y pc lo (vI (nI b) :: vI (nI a) :: st) V Φ := r_ic_eq hd ht h2 (fun h => kt ((nI_eq ha hb).mp h)) (fun h => kf (fun z => h ((nI_eq ha hb).mpr z)))
theorem r_icN_ne {off : Int} {tgt a b : Nat} (ha : a < 2 ^ 31) (hb : b < 2 ^ 31) (hd : dc_at y pc (.if_icmp .ne off) 3) (ht : (pc : Int) + off = (tgt : Int)) (h2 : pc + 3 = pc2) (kt : ¬ a = b → Rc_ PL y tgt lo st V Φ) (kf : a = b → Rc_ PL y pc2 lo st V Φ) : Rc_ PL y pc lo (vI (nI b) :: vI (nI a) :: st) V Φ := r_ic_ne hd ht h2 (fun h => kt (fun z => h ((nI_eq ha hb).mpr z))) (fun h => kf ((nI_eq ha hb).mp h))
theorem r_icN_lt {off : Int} {tgt a b : Nat} (ha : a < 2 ^ 31) (hb : b < 2 ^ 31) (hd : dc_at y pc (.if_icmp .lt off) 3) (ht : (pc : Int) + off = (tgt : Int)) (h2 : pc + 3 = pc2) (kt : a < b → Rc_ PL y tgt lo st V Φ) (kf : b ≤ a → Rc_ PL y pc2 lo st V Φ) : Rc_ PL y pc lo (vI (nI b) :: vI (nI a) :: st) V Φ := r_ic_lt hd ht h2 (fun h => kt ((nI_ltI ha hb).mp h)) (fun h => kf (Nat.le_of_not_lt (fun z => h ((nI_ltI ha hb).mpr z))))
theorem r_icN_ge {off : Int} {tgt a b : Nat} (ha : a < 2 ^ 31) (hb : b < 2 ^ 31) (hd : dc_at y pc (.if_icmp .ge off) 3) (ht : (pc : Int) + off = (tgt : Int)) (h2 : pc + 3 = pc2) (kt : b ≤ a → Rc_ PL y tgt lo st V Φ) (kf : a < b → Rc_ PL y pc2 lo st V Φ) : Rc_ PL y pc lo (vI (nI b) :: vI (nI a) :: st) V Φ := r_ic_ge hd ht h2 (fun h => kt ((nI_leI hb ha).mp h)) (fun h => kf (Nat.lt_of_not_le (fun z => h ((nI_leI hb ha).mpr z))))
theorem r_icN_gt {off : Int} {tgt a b : Nat} (ha : a < 2 ^ 31) (hb : b < 2 ^ 31) (hd : dc_at y pc (.if_icmp .gt off) 3) (ht : (pc : Int) + off = (tgt : Int)) (h2 : pc + 3 = pc2) (kt : b < a → Rc_ PL y tgt lo st V Φ) (kf : a ≤ b → Rc_ PL y pc2 lo st V Φ) : Rc_ PL y pc lo (vI (nI b) :: vI (nI a) :: st) V Φ := r_ic_gt hd ht h2 (fun h => kt ((nI_ltI hb ha).mp h)) (fun h => kf (Nat.le_of_not_lt (fun z => h ((nI_ltI hb ha).mpr z))))
theorem r_icN_le {off : Int} {tgt a b : Nat} (ha : a < 2 ^ 31) (hb : b < 2 ^ 31) (hd : dc_at y pc (.if_icmp .le off) 3) (ht : (pc : Int) + off = (tgt : Int)) (h2 : pc + 3 = pc2) (kt : a ≤ b → Rc_ PL y tgt lo st V Φ) (kf : b < a → Rc_ PL y pc2 lo st V Φ) : Rc_ PL y pc lo (vI (nI b) :: vI (nI a) :: st) V Φ := r_ic_le hd ht h2 (fun h => kt ((nI_leI ha hb).mp h)) (fun h => kf (Nat.lt_of_not_le (fun z => h ((nI_leI ha hb).mpr z))))
/-- a call's words and room: virtual, static, static of a nest mate -/
def sv_at (y : mi_T) (idx : Nat) (z : mi_T) (n : Nat) : Prop := gd_T (.methodLink y.1.cls idx z.1) ∧ mv_at z n ∧ rm_ok y z
def ss_at (y : mi_T) (idx : Nat) (z : mi_T) (n : Nat) : Prop := gd_T (.methodLink y.1.cls idx z.1) ∧ ms_at z n ∧ rm_ok y z
def sn_at (y : mi_T) (idx : Nat) (z : mi_T) (n : Nat) : Prop := (∃ host, Cond.methodLinkNest y.1.cls idx z.1 host ∈ nw_L) ∧ ms_at z n ∧ rm_ok y z
def rl_ok (r : Nat) (z : mi_T) : Prop := r < 46 ∧ ∃ ci C T N, k_cls r = some ci ∧ vwCl[ci]? = some (C, T, N) ∧ z.1.cls = C
/-- a pure answer; a changed memory -/
abbrev Cp_ (PL : List (Nat × Nat)) (y : mi_T) (avs : List Vl_) (V : Mm_) (e : Int32) : Prop := Ci_ PL y avs V (fun x V' => x = e ∧ V' = V)
abbrev Cm_ (PL : List (Nat × Nat)) (y : mi_T) (avs : List Vl_) (V V2 : Mm_) : Prop := Cv_ PL y avs V (fun V' => V' = V2)
theorem r_cv0p {g r : Nat} {e : Int32} (hd : dc_at y pc (.invokevirtual idx) 3) (hs : sv_at y idx z 0) (hrl : rl_ok r z) (hl8 : st.length ≤ 8) (h2 : pc + 3 = pc2) (hC : Cp_ PL z [vR g r] V e) (kk : Rc_ PL y pc2 lo (vI e :: st) V Φ) : Rc_ PL y pc lo (vR g r :: st) V Φ :=
  r_callV (as := []) (st := st) hd hs.1 hs.2.1 hs.2.2 hrl.1 hrl.2 rfl rfl hl8 h2 hC (by rintro ro V' ⟨x, rfl, rfl, rfl⟩; exact kk)
theorem r_cv0i {g r : Nat} {P : Int32 → Mm_ → Prop} (hd : dc_at y pc (.invokevirtual idx) 3) (hs : sv_at y idx z 0) (hrl : rl_ok r z) (hl8 : st.length ≤ 8) (h2 : pc + 3 = pc2) (hC : Ci_ PL z [vR g r] V P) (kk : ∀ (x : Int32) (V' : Mm_), P x V' → Rc_ PL y pc2 lo (vI x :: st) V' Φ) : Rc_ PL y pc lo (vR g r :: st) V Φ :=
  r_callV (as := []) (st := st) hd hs.1 hs.2.1 hs.2.2 hrl.1 hrl.2 rfl rfl hl8 h2 hC (by rintro ro V' ⟨x, rfl, hp⟩; exact kk x V' hp)
theorem r_cv0m {g r : Nat} (hd : dc_at y pc (.invokevirtual idx) 3) (hs : sv_at y idx z 0) (hrl : rl_ok r z) (hl8 : st.length ≤ 8) (h2 : pc + 3 = pc2) (hC : Cm_ PL z [vR g r] V V2) (kk : Rc_ PL y pc2 lo st V2 Φ) : Rc_ PL y pc lo (vR g r :: st) V Φ :=
  r_callV (as := []) (st := st) hd hs.1 hs.2.1 hs.2.2 hrl.1 hrl.2 rfl rfl hl8 h2 hC (by rintro ro V' ⟨rfl, rfl⟩; exact kk)
theorem r_cv0v {g r : Nat} {P : Mm_ → Prop} (hd : dc_at y pc (.invokevirtual idx) 3) (hs : sv_at y idx z 0) (hrl : rl_ok r z) (hl8 : st.length ≤ 8) (h2 : pc + 3 = pc2) (hC : Cv_ PL z [vR g r] V P) (kk : ∀ V' : Mm_, P V' → Rc_ PL y pc2 lo st V' Φ) : Rc_ PL y pc lo (vR g r :: st) V Φ :=
  r_callV (as := []) (st := st) hd hs.1 hs.2.1 hs.2.2 hrl.1 hrl.2 rfl rfl hl8 h2 hC (by rintro ro V' ⟨rfl, hp⟩; exact kk V' hp)
theorem r_cv1p {g r : Nat} {a1 : Vl_} {e : Int32} (hd : dc_at y pc (.invokevirtual idx) 3) (hs : sv_at y idx z 1) (hrl : rl_ok r z) (hl8 : st.length ≤ 8) (h2 : pc + 3 = pc2) (hC : Cp_ PL z [vR g r, a1] V e) (kk : Rc_ PL y pc2 lo (vI e :: st) V Φ) : Rc_ PL y pc lo (a1 :: vR g r :: st) V Φ :=
  r_callV (as := [a1]) (st := st) hd hs.1 hs.2.1 hs.2.2 hrl.1 hrl.2 rfl rfl hl8 h2 hC (by rintro ro V' ⟨x, rfl, rfl, rfl⟩; exact kk)
theorem r_cv1i {g r : Nat} {a1 : Vl_} {P : Int32 → Mm_ → Prop} (hd : dc_at y pc (.invokevirtual idx) 3) (hs : sv_at y idx z 1) (hrl : rl_ok r z) (hl8 : st.length ≤ 8) (h2 : pc + 3 = pc2) (hC : Ci_ PL z [vR g r, a1] V P) (kk : ∀ (x : Int32) (V' : Mm_), P x V' → Rc_ PL y pc2 lo (vI x :: st) V' Φ) : Rc_ PL y pc lo (a1 :: vR g r :: st) V Φ :=
  r_callV (as := [a1]) (st := st) hd hs.1 hs.2.1 hs.2.2 hrl.1 hrl.2 rfl rfl hl8 h2 hC (by rintro ro V' ⟨x, rfl, hp⟩; exact kk x V' hp)
theorem r_cv1m {g r : Nat} {a1 : Vl_} (hd : dc_at y pc (.invokevirtual idx) 3) (hs : sv_at y idx z 1) (hrl : rl_ok r z) (hl8 : st.length ≤ 8) (h2 : pc + 3 = pc2) (hC : Cm_ PL z [vR g r, a1] V V2) (kk : Rc_ PL y pc2 lo st V2 Φ) : Rc_ PL y pc lo (a1 :: vR g r :: st) V Φ :=
  r_callV (as := [a1]) (st := st) hd hs.1 hs.2.1 hs.2.2 hrl.1 hrl.2 rfl rfl hl8 h2 hC (by rintro ro V' ⟨rfl, rfl⟩; exact kk)
theorem r_cv1v {g r : Nat} {a1 : Vl_} {P : Mm_ → Prop} (hd : dc_at y pc (.invokevirtual idx) 3) (hs : sv_at y idx z 1) (hrl : rl_ok r z) (hl8 : st.length ≤ 8) (h2 : pc + 3 = pc2) (hC : Cv_ PL z [vR g r, a1] V P) (kk : ∀ V' : Mm_, P V' → Rc_ PL y pc2 lo st V' Φ) : Rc_ PL y pc lo (a1 :: vR g r :: st) V Φ :=
  r_callV (as := [a1]) (st := st) hd hs.1 hs.2.1 hs.2.2 hrl.1 hrl.2 rfl rfl hl8 h2 hC (by rintro ro V' ⟨rfl, hp⟩; exact kk V' hp)
theorem r_cv2p {g r : Nat} {a1 a2 : Vl_} {e : Int32} (hd : dc_at y pc (.invokevirtual idx) 3) (hs : sv_at y idx z 2) (hrl : rl_ok r z) (hl8 : st.length ≤ 8) (h2 : pc + 3 = pc2) (hC : Cp_ PL z [vR g r, a1, a2] V e) (kk : Rc_ PL y pc2 lo (vI e :: st) V Φ) : Rc_ PL y pc lo (a2 :: a1 :: vR g r :: st) V Φ :=
  r_callV (as := [a1, a2]) (st := st) hd hs.1 hs.2.1 hs.2.2 hrl.1 hrl.2 rfl rfl hl8 h2 hC (by rintro ro V' ⟨x, rfl, rfl, rfl⟩; exact kk)
theorem r_cv2i {g r : Nat} {a1 a2 : Vl_} {P : Int32 → Mm_ → Prop} (hd : dc_at y pc (.invokevirtual idx) 3) (hs : sv_at y idx z 2) (hrl : rl_ok r z) (hl8 : st.length ≤ 8) (h2 : pc + 3 = pc2) (hC : Ci_ PL z [vR g r, a1, a2] V P) (kk : ∀ (x : Int32) (V' : Mm_), P x V' → Rc_ PL y pc2 lo (vI x :: st) V' Φ) : Rc_ PL y pc lo (a2 :: a1 :: vR g r :: st) V Φ :=
  r_callV (as := [a1, a2]) (st := st) hd hs.1 hs.2.1 hs.2.2 hrl.1 hrl.2 rfl rfl hl8 h2 hC (by rintro ro V' ⟨x, rfl, hp⟩; exact kk x V' hp)
theorem r_cv2m {g r : Nat} {a1 a2 : Vl_} (hd : dc_at y pc (.invokevirtual idx) 3) (hs : sv_at y idx z 2) (hrl : rl_ok r z) (hl8 : st.length ≤ 8) (h2 : pc + 3 = pc2) (hC : Cm_ PL z [vR g r, a1, a2] V V2) (kk : Rc_ PL y pc2 lo st V2 Φ) : Rc_ PL y pc lo (a2 :: a1 :: vR g r :: st) V Φ :=
  r_callV (as := [a1, a2]) (st := st) hd hs.1 hs.2.1 hs.2.2 hrl.1 hrl.2 rfl rfl hl8 h2 hC (by rintro ro V' ⟨rfl, rfl⟩; exact kk)
theorem r_cv2v {g r : Nat} {a1 a2 : Vl_} {P : Mm_ → Prop} (hd : dc_at y pc (.invokevirtual idx) 3) (hs : sv_at y idx z 2) (hrl : rl_ok r z) (hl8 : st.length ≤ 8) (h2 : pc + 3 = pc2) (hC : Cv_ PL z [vR g r, a1, a2] V P) (kk : ∀ V' : Mm_, P V' → Rc_ PL y pc2 lo st V' Φ) : Rc_ PL y pc lo (a2 :: a1 :: vR g r :: st) V Φ :=
  r_callV (as := [a1, a2]) (st := st) hd hs.1 hs.2.1 hs.2.2 hrl.1 hrl.2 rfl rfl hl8 h2 hC (by rintro ro V' ⟨rfl, hp⟩; exact kk V' hp)
theorem r_cv3p {g r : Nat} {a1 a2 a3 : Vl_} {e : Int32} (hd : dc_at y pc (.invokevirtual idx) 3) (hs : sv_at y idx z 3) (hrl : rl_ok r z) (hl8 : st.length ≤ 8) (h2 : pc + 3 = pc2) (hC : Cp_ PL z [vR g r, a1, a2, a3] V e) (kk : Rc_ PL y pc2 lo (vI e :: st) V Φ) : Rc_ PL y pc lo (a3 :: a2 :: a1 :: vR g r :: st) V Φ :=
  r_callV (as := [a1, a2, a3]) (st := st) hd hs.1 hs.2.1 hs.2.2 hrl.1 hrl.2 rfl rfl hl8 h2 hC (by rintro ro V' ⟨x, rfl, rfl, rfl⟩; exact kk)
theorem r_cv3i {g r : Nat} {a1 a2 a3 : Vl_} {P : Int32 → Mm_ → Prop} (hd : dc_at y pc (.invokevirtual idx) 3) (hs : sv_at y idx z 3) (hrl : rl_ok r z) (hl8 : st.length ≤ 8) (h2 : pc + 3 = pc2) (hC : Ci_ PL z [vR g r, a1, a2, a3] V P) (kk : ∀ (x : Int32) (V' : Mm_), P x V' → Rc_ PL y pc2 lo (vI x :: st) V' Φ) : Rc_ PL y pc lo (a3 :: a2 :: a1 :: vR g r :: st) V Φ :=
  r_callV (as := [a1, a2, a3]) (st := st) hd hs.1 hs.2.1 hs.2.2 hrl.1 hrl.2 rfl rfl hl8 h2 hC (by rintro ro V' ⟨x, rfl, hp⟩; exact kk x V' hp)
theorem r_cv3m {g r : Nat} {a1 a2 a3 : Vl_} (hd : dc_at y pc (.invokevirtual idx) 3) (hs : sv_at y idx z 3) (hrl : rl_ok r z) (hl8 : st.length ≤ 8) (h2 : pc + 3 = pc2) (hC : Cm_ PL z [vR g r, a1, a2, a3] V V2) (kk : Rc_ PL y pc2 lo st V2 Φ) : Rc_ PL y pc lo (a3 :: a2 :: a1 :: vR g r :: st) V Φ :=
  r_callV (as := [a1, a2, a3]) (st := st) hd hs.1 hs.2.1 hs.2.2 hrl.1 hrl.2 rfl rfl hl8 h2 hC (by rintro ro V' ⟨rfl, rfl⟩; exact kk)
theorem r_cv3v {g r : Nat} {a1 a2 a3 : Vl_} {P : Mm_ → Prop} (hd : dc_at y pc (.invokevirtual idx) 3) (hs : sv_at y idx z 3) (hrl : rl_ok r z) (hl8 : st.length ≤ 8) (h2 : pc + 3 = pc2) (hC : Cv_ PL z [vR g r, a1, a2, a3] V P) (kk : ∀ V' : Mm_, P V' → Rc_ PL y pc2 lo st V' Φ) : Rc_ PL y pc lo (a3 :: a2 :: a1 :: vR g r :: st) V Φ :=
  r_callV (as := [a1, a2, a3]) (st := st) hd hs.1 hs.2.1 hs.2.2 hrl.1 hrl.2 rfl rfl hl8 h2 hC (by rintro ro V' ⟨rfl, hp⟩; exact kk V' hp)
theorem r_cv4p {g r : Nat} {a1 a2 a3 a4 : Vl_} {e : Int32} (hd : dc_at y pc (.invokevirtual idx) 3) (hs : sv_at y idx z 4) (hrl : rl_ok r z) (hl8 : st.length ≤ 8) (h2 : pc + 3 = pc2) (hC : Cp_ PL z [vR g r, a1, a2, a3, a4] V e) (kk : Rc_ PL y pc2 lo (vI e :: st) V Φ) : Rc_ PL y pc lo (a4 :: a3 :: a2 :: a1 :: vR g r :: st) V Φ :=
  r_callV (as := [a1, a2, a3, a4]) (st := st) hd hs.1 hs.2.1 hs.2.2 hrl.1 hrl.2 rfl rfl hl8 h2 hC (by rintro ro V' ⟨x, rfl, rfl, rfl⟩; exact kk)
theorem r_cv4i {g r : Nat} {a1 a2 a3 a4 : Vl_} {P : Int32 → Mm_ → Prop} (hd : dc_at y pc (.invokevirtual idx) 3) (hs : sv_at y idx z 4) (hrl : rl_ok r z) (hl8 : st.length ≤ 8) (h2 : pc + 3 = pc2) (hC : Ci_ PL z [vR g r, a1, a2, a3, a4] V P) (kk : ∀ (x : Int32) (V' : Mm_), P x V' → Rc_ PL y pc2 lo (vI x :: st) V' Φ) : Rc_ PL y pc lo (a4 :: a3 :: a2 :: a1 :: vR g r :: st) V Φ :=
  r_callV (as := [a1, a2, a3, a4]) (st := st) hd hs.1 hs.2.1 hs.2.2 hrl.1 hrl.2 rfl rfl hl8 h2 hC (by rintro ro V' ⟨x, rfl, hp⟩; exact kk x V' hp)
theorem r_cv4m {g r : Nat} {a1 a2 a3 a4 : Vl_} (hd : dc_at y pc (.invokevirtual idx) 3) (hs : sv_at y idx z 4) (hrl : rl_ok r z) (hl8 : st.length ≤ 8) (h2 : pc + 3 = pc2) (hC : Cm_ PL z [vR g r, a1, a2, a3, a4] V V2) (kk : Rc_ PL y pc2 lo st V2 Φ) : Rc_ PL y pc lo (a4 :: a3 :: a2 :: a1 :: vR g r :: st) V Φ :=
  r_callV (as := [a1, a2, a3, a4]) (st := st) hd hs.1 hs.2.1 hs.2.2 hrl.1 hrl.2 rfl rfl hl8 h2 hC (by rintro ro V' ⟨rfl, rfl⟩; exact kk)
theorem r_cv4v {g r : Nat} {a1 a2 a3 a4 : Vl_} {P : Mm_ → Prop} (hd : dc_at y pc (.invokevirtual idx) 3) (hs : sv_at y idx z 4) (hrl : rl_ok r z) (hl8 : st.length ≤ 8) (h2 : pc + 3 = pc2) (hC : Cv_ PL z [vR g r, a1, a2, a3, a4] V P) (kk : ∀ V' : Mm_, P V' → Rc_ PL y pc2 lo st V' Φ) : Rc_ PL y pc lo (a4 :: a3 :: a2 :: a1 :: vR g r :: st) V Φ :=
  r_callV (as := [a1, a2, a3, a4]) (st := st) hd hs.1 hs.2.1 hs.2.2 hrl.1 hrl.2 rfl rfl hl8 h2 hC (by rintro ro V' ⟨rfl, hp⟩; exact kk V' hp)
theorem r_cv5p {g r : Nat} {a1 a2 a3 a4 a5 : Vl_} {e : Int32} (hd : dc_at y pc (.invokevirtual idx) 3) (hs : sv_at y idx z 5) (hrl : rl_ok r z) (hl8 : st.length ≤ 8) (h2 : pc + 3 = pc2) (hC : Cp_ PL z [vR g r, a1, a2, a3, a4, a5] V e) (kk : Rc_ PL y pc2 lo (vI e :: st) V Φ) : Rc_ PL y pc lo (a5 :: a4 :: a3 :: a2 :: a1 :: vR g r :: st) V Φ :=
  r_callV (as := [a1, a2, a3, a4, a5]) (st := st) hd hs.1 hs.2.1 hs.2.2 hrl.1 hrl.2 rfl rfl hl8 h2 hC (by rintro ro V' ⟨x, rfl, rfl, rfl⟩; exact kk)
theorem r_cv5i {g r : Nat} {a1 a2 a3 a4 a5 : Vl_} {P : Int32 → Mm_ → Prop} (hd : dc_at y pc (.invokevirtual idx) 3) (hs : sv_at y idx z 5) (hrl : rl_ok r z) (hl8 : st.length ≤ 8) (h2 : pc + 3 = pc2) (hC : Ci_ PL z [vR g r, a1, a2, a3, a4, a5] V P) (kk : ∀ (x : Int32) (V' : Mm_), P x V' → Rc_ PL y pc2 lo (vI x :: st) V' Φ) : Rc_ PL y pc lo (a5 :: a4 :: a3 :: a2 :: a1 :: vR g r :: st) V Φ :=
  r_callV (as := [a1, a2, a3, a4, a5]) (st := st) hd hs.1 hs.2.1 hs.2.2 hrl.1 hrl.2 rfl rfl hl8 h2 hC (by rintro ro V' ⟨x, rfl, hp⟩; exact kk x V' hp)
theorem r_cv5m {g r : Nat} {a1 a2 a3 a4 a5 : Vl_} (hd : dc_at y pc (.invokevirtual idx) 3) (hs : sv_at y idx z 5) (hrl : rl_ok r z) (hl8 : st.length ≤ 8) (h2 : pc + 3 = pc2) (hC : Cm_ PL z [vR g r, a1, a2, a3, a4, a5] V V2) (kk : Rc_ PL y pc2 lo st V2 Φ) : Rc_ PL y pc lo (a5 :: a4 :: a3 :: a2 :: a1 :: vR g r :: st) V Φ :=
  r_callV (as := [a1, a2, a3, a4, a5]) (st := st) hd hs.1 hs.2.1 hs.2.2 hrl.1 hrl.2 rfl rfl hl8 h2 hC (by rintro ro V' ⟨rfl, rfl⟩; exact kk)
theorem r_cv5v {g r : Nat} {a1 a2 a3 a4 a5 : Vl_} {P : Mm_ → Prop} (hd : dc_at y pc (.invokevirtual idx) 3) (hs : sv_at y idx z 5) (hrl : rl_ok r z) (hl8 : st.length ≤ 8) (h2 : pc + 3 = pc2) (hC : Cv_ PL z [vR g r, a1, a2, a3, a4, a5] V P) (kk : ∀ V' : Mm_, P V' → Rc_ PL y pc2 lo st V' Φ) : Rc_ PL y pc lo (a5 :: a4 :: a3 :: a2 :: a1 :: vR g r :: st) V Φ :=
  r_callV (as := [a1, a2, a3, a4, a5]) (st := st) hd hs.1 hs.2.1 hs.2.2 hrl.1 hrl.2 rfl rfl hl8 h2 hC (by rintro ro V' ⟨rfl, hp⟩; exact kk V' hp)
theorem r_cv6p {g r : Nat} {a1 a2 a3 a4 a5 a6 : Vl_} {e : Int32} (hd : dc_at y pc (.invokevirtual idx) 3) (hs : sv_at y idx z 6) (hrl : rl_ok r z) (hl8 : st.length ≤ 8) (h2 : pc + 3 = pc2) (hC : Cp_ PL z [vR g r, a1, a2, a3, a4, a5, a6] V e) (kk : Rc_ PL y pc2 lo (vI e :: st) V Φ) : Rc_ PL y pc lo (a6 :: a5 :: a4 :: a3 :: a2 :: a1 :: vR g r :: st) V Φ :=
  r_callV (as := [a1, a2, a3, a4, a5, a6]) (st := st) hd hs.1 hs.2.1 hs.2.2 hrl.1 hrl.2 rfl rfl hl8 h2 hC (by rintro ro V' ⟨x, rfl, rfl, rfl⟩; exact kk)
theorem r_cv6i {g r : Nat} {a1 a2 a3 a4 a5 a6 : Vl_} {P : Int32 → Mm_ → Prop} (hd : dc_at y pc (.invokevirtual idx) 3) (hs : sv_at y idx z 6) (hrl : rl_ok r z) (hl8 : st.length ≤ 8) (h2 : pc + 3 = pc2) (hC : Ci_ PL z [vR g r, a1, a2, a3, a4, a5, a6] V P) (kk : ∀ (x : Int32) (V' : Mm_), P x V' → Rc_ PL y pc2 lo (vI x :: st) V' Φ) : Rc_ PL y pc lo (a6 :: a5 :: a4 :: a3 :: a2 :: a1 :: vR g r :: st) V Φ :=
  r_callV (as := [a1, a2, a3, a4, a5, a6]) (st := st) hd hs.1 hs.2.1 hs.2.2 hrl.1 hrl.2 rfl rfl hl8 h2 hC (by rintro ro V' ⟨x, rfl, hp⟩; exact kk x V' hp)
theorem r_cv6m {g r : Nat} {a1 a2 a3 a4 a5 a6 : Vl_} (hd : dc_at y pc (.invokevirtual idx) 3) (hs : sv_at y idx z 6) (hrl : rl_ok r z) (hl8 : st.length ≤ 8) (h2 : pc + 3 = pc2) (hC : Cm_ PL z [vR g r, a1, a2, a3, a4, a5, a6] V V2) (kk : Rc_ PL y pc2 lo st V2 Φ) : Rc_ PL y pc lo (a6 :: a5 :: a4 :: a3 :: a2 :: a1 :: vR g r :: st) V Φ :=
  r_callV (as := [a1, a2, a3, a4, a5, a6]) (st := st) hd hs.1 hs.2.1 hs.2.2 hrl.1 hrl.2 rfl rfl hl8 h2 hC (by rintro ro V' ⟨rfl, rfl⟩; exact kk)
theorem r_cv6v {g r : Nat} {a1 a2 a3 a4 a5 a6 : Vl_} {P : Mm_ → Prop} (hd : dc_at y pc (.invokevirtual idx) 3) (hs : sv_at y idx z 6) (hrl : rl_ok r z) (hl8 : st.length ≤ 8) (h2 : pc + 3 = pc2) (hC : Cv_ PL z [vR g r, a1, a2, a3, a4, a5, a6] V P) (kk : ∀ V' : Mm_, P V' → Rc_ PL y pc2 lo st V' Φ) : Rc_ PL y pc lo (a6 :: a5 :: a4 :: a3 :: a2 :: a1 :: vR g r :: st) V Φ :=
  r_callV (as := [a1, a2, a3, a4, a5, a6]) (st := st) hd hs.1 hs.2.1 hs.2.2 hrl.1 hrl.2 rfl rfl hl8 h2 hC (by rintro ro V' ⟨rfl, hp⟩; exact kk V' hp)
theorem r_cs1p {a1 : Vl_} {e : Int32} (hd : dc_at y pc (.invokestatic idx) 3) (hs : ss_at y idx z 1) (hl8 : st.length ≤ 8) (h2 : pc + 3 = pc2) (hC : Cp_ PL z [a1] V e) (kk : Rc_ PL y pc2 lo (vI e :: st) V Φ) : Rc_ PL y pc lo (a1 :: st) V Φ :=
  r_callS (as := [a1]) (st := st) hd hs.1 hs.2.1 hs.2.2 rfl rfl hl8 h2 hC (by rintro ro V' ⟨x, rfl, rfl, rfl⟩; exact kk)
theorem r_cs1i {a1 : Vl_} {P : Int32 → Mm_ → Prop} (hd : dc_at y pc (.invokestatic idx) 3) (hs : ss_at y idx z 1) (hl8 : st.length ≤ 8) (h2 : pc + 3 = pc2) (hC : Ci_ PL z [a1] V P) (kk : ∀ (x : Int32) (V' : Mm_), P x V' → Rc_ PL y pc2 lo (vI x :: st) V' Φ) : Rc_ PL y pc lo (a1 :: st) V Φ :=
  r_callS (as := [a1]) (st := st) hd hs.1 hs.2.1 hs.2.2 rfl rfl hl8 h2 hC (by rintro ro V' ⟨x, rfl, hp⟩; exact kk x V' hp)
theorem r_cs1m {a1 : Vl_} (hd : dc_at y pc (.invokestatic idx) 3) (hs : ss_at y idx z 1) (hl8 : st.length ≤ 8) (h2 : pc + 3 = pc2) (hC : Cm_ PL z [a1] V V2) (kk : Rc_ PL y pc2 lo st V2 Φ) : Rc_ PL y pc lo (a1 :: st) V Φ :=
  r_callS (as := [a1]) (st := st) hd hs.1 hs.2.1 hs.2.2 rfl rfl hl8 h2 hC (by rintro ro V' ⟨rfl, rfl⟩; exact kk)
theorem r_cs1v {a1 : Vl_} {P : Mm_ → Prop} (hd : dc_at y pc (.invokestatic idx) 3) (hs : ss_at y idx z 1) (hl8 : st.length ≤ 8) (h2 : pc + 3 = pc2) (hC : Cv_ PL z [a1] V P) (kk : ∀ V' : Mm_, P V' → Rc_ PL y pc2 lo st V' Φ) : Rc_ PL y pc lo (a1 :: st) V Φ :=
  r_callS (as := [a1]) (st := st) hd hs.1 hs.2.1 hs.2.2 rfl rfl hl8 h2 hC (by rintro ro V' ⟨rfl, hp⟩; exact kk V' hp)
theorem r_cs2p {a1 a2 : Vl_} {e : Int32} (hd : dc_at y pc (.invokestatic idx) 3) (hs : ss_at y idx z 2) (hl8 : st.length ≤ 8) (h2 : pc + 3 = pc2) (hC : Cp_ PL z [a1, a2] V e) (kk : Rc_ PL y pc2 lo (vI e :: st) V Φ) : Rc_ PL y pc lo (a2 :: a1 :: st) V Φ :=
  r_callS (as := [a1, a2]) (st := st) hd hs.1 hs.2.1 hs.2.2 rfl rfl hl8 h2 hC (by rintro ro V' ⟨x, rfl, rfl, rfl⟩; exact kk)
theorem r_cs2i {a1 a2 : Vl_} {P : Int32 → Mm_ → Prop} (hd : dc_at y pc (.invokestatic idx) 3) (hs : ss_at y idx z 2) (hl8 : st.length ≤ 8) (h2 : pc + 3 = pc2) (hC : Ci_ PL z [a1, a2] V P) (kk : ∀ (x : Int32) (V' : Mm_), P x V' → Rc_ PL y pc2 lo (vI x :: st) V' Φ) : Rc_ PL y pc lo (a2 :: a1 :: st) V Φ :=
  r_callS (as := [a1, a2]) (st := st) hd hs.1 hs.2.1 hs.2.2 rfl rfl hl8 h2 hC (by rintro ro V' ⟨x, rfl, hp⟩; exact kk x V' hp)
theorem r_cs2m {a1 a2 : Vl_} (hd : dc_at y pc (.invokestatic idx) 3) (hs : ss_at y idx z 2) (hl8 : st.length ≤ 8) (h2 : pc + 3 = pc2) (hC : Cm_ PL z [a1, a2] V V2) (kk : Rc_ PL y pc2 lo st V2 Φ) : Rc_ PL y pc lo (a2 :: a1 :: st) V Φ :=
  r_callS (as := [a1, a2]) (st := st) hd hs.1 hs.2.1 hs.2.2 rfl rfl hl8 h2 hC (by rintro ro V' ⟨rfl, rfl⟩; exact kk)
theorem r_cs2v {a1 a2 : Vl_} {P : Mm_ → Prop} (hd : dc_at y pc (.invokestatic idx) 3) (hs : ss_at y idx z 2) (hl8 : st.length ≤ 8) (h2 : pc + 3 = pc2) (hC : Cv_ PL z [a1, a2] V P) (kk : ∀ V' : Mm_, P V' → Rc_ PL y pc2 lo st V' Φ) : Rc_ PL y pc lo (a2 :: a1 :: st) V Φ :=
  r_callS (as := [a1, a2]) (st := st) hd hs.1 hs.2.1 hs.2.2 rfl rfl hl8 h2 hC (by rintro ro V' ⟨rfl, hp⟩; exact kk V' hp)
theorem r_cs3p {a1 a2 a3 : Vl_} {e : Int32} (hd : dc_at y pc (.invokestatic idx) 3) (hs : ss_at y idx z 3) (hl8 : st.length ≤ 8) (h2 : pc + 3 = pc2) (hC : Cp_ PL z [a1, a2, a3] V e) (kk : Rc_ PL y pc2 lo (vI e :: st) V Φ) : Rc_ PL y pc lo (a3 :: a2 :: a1 :: st) V Φ :=
  r_callS (as := [a1, a2, a3]) (st := st) hd hs.1 hs.2.1 hs.2.2 rfl rfl hl8 h2 hC (by rintro ro V' ⟨x, rfl, rfl, rfl⟩; exact kk)
theorem r_cs3i {a1 a2 a3 : Vl_} {P : Int32 → Mm_ → Prop} (hd : dc_at y pc (.invokestatic idx) 3) (hs : ss_at y idx z 3) (hl8 : st.length ≤ 8) (h2 : pc + 3 = pc2) (hC : Ci_ PL z [a1, a2, a3] V P) (kk : ∀ (x : Int32) (V' : Mm_), P x V' → Rc_ PL y pc2 lo (vI x :: st) V' Φ) : Rc_ PL y pc lo (a3 :: a2 :: a1 :: st) V Φ :=
  r_callS (as := [a1, a2, a3]) (st := st) hd hs.1 hs.2.1 hs.2.2 rfl rfl hl8 h2 hC (by rintro ro V' ⟨x, rfl, hp⟩; exact kk x V' hp)
theorem r_cs3m {a1 a2 a3 : Vl_} (hd : dc_at y pc (.invokestatic idx) 3) (hs : ss_at y idx z 3) (hl8 : st.length ≤ 8) (h2 : pc + 3 = pc2) (hC : Cm_ PL z [a1, a2, a3] V V2) (kk : Rc_ PL y pc2 lo st V2 Φ) : Rc_ PL y pc lo (a3 :: a2 :: a1 :: st) V Φ :=
  r_callS (as := [a1, a2, a3]) (st := st) hd hs.1 hs.2.1 hs.2.2 rfl rfl hl8 h2 hC (by rintro ro V' ⟨rfl, rfl⟩; exact kk)
theorem r_cs3v {a1 a2 a3 : Vl_} {P : Mm_ → Prop} (hd : dc_at y pc (.invokestatic idx) 3) (hs : ss_at y idx z 3) (hl8 : st.length ≤ 8) (h2 : pc + 3 = pc2) (hC : Cv_ PL z [a1, a2, a3] V P) (kk : ∀ V' : Mm_, P V' → Rc_ PL y pc2 lo st V' Φ) : Rc_ PL y pc lo (a3 :: a2 :: a1 :: st) V Φ :=
  r_callS (as := [a1, a2, a3]) (st := st) hd hs.1 hs.2.1 hs.2.2 rfl rfl hl8 h2 hC (by rintro ro V' ⟨rfl, hp⟩; exact kk V' hp)
theorem r_cs4p {a1 a2 a3 a4 : Vl_} {e : Int32} (hd : dc_at y pc (.invokestatic idx) 3) (hs : ss_at y idx z 4) (hl8 : st.length ≤ 8) (h2 : pc + 3 = pc2) (hC : Cp_ PL z [a1, a2, a3, a4] V e) (kk : Rc_ PL y pc2 lo (vI e :: st) V Φ) : Rc_ PL y pc lo (a4 :: a3 :: a2 :: a1 :: st) V Φ :=
  r_callS (as := [a1, a2, a3, a4]) (st := st) hd hs.1 hs.2.1 hs.2.2 rfl rfl hl8 h2 hC (by rintro ro V' ⟨x, rfl, rfl, rfl⟩; exact kk)
theorem r_cs4i {a1 a2 a3 a4 : Vl_} {P : Int32 → Mm_ → Prop} (hd : dc_at y pc (.invokestatic idx) 3) (hs : ss_at y idx z 4) (hl8 : st.length ≤ 8) (h2 : pc + 3 = pc2) (hC : Ci_ PL z [a1, a2, a3, a4] V P) (kk : ∀ (x : Int32) (V' : Mm_), P x V' → Rc_ PL y pc2 lo (vI x :: st) V' Φ) : Rc_ PL y pc lo (a4 :: a3 :: a2 :: a1 :: st) V Φ :=
  r_callS (as := [a1, a2, a3, a4]) (st := st) hd hs.1 hs.2.1 hs.2.2 rfl rfl hl8 h2 hC (by rintro ro V' ⟨x, rfl, hp⟩; exact kk x V' hp)
theorem r_cs4m {a1 a2 a3 a4 : Vl_} (hd : dc_at y pc (.invokestatic idx) 3) (hs : ss_at y idx z 4) (hl8 : st.length ≤ 8) (h2 : pc + 3 = pc2) (hC : Cm_ PL z [a1, a2, a3, a4] V V2) (kk : Rc_ PL y pc2 lo st V2 Φ) : Rc_ PL y pc lo (a4 :: a3 :: a2 :: a1 :: st) V Φ :=
  r_callS (as := [a1, a2, a3, a4]) (st := st) hd hs.1 hs.2.1 hs.2.2 rfl rfl hl8 h2 hC (by rintro ro V' ⟨rfl, rfl⟩; exact kk)
theorem r_cs4v {a1 a2 a3 a4 : Vl_} {P : Mm_ → Prop} (hd : dc_at y pc (.invokestatic idx) 3) (hs : ss_at y idx z 4) (hl8 : st.length ≤ 8) (h2 : pc + 3 = pc2) (hC : Cv_ PL z [a1, a2, a3, a4] V P) (kk : ∀ V' : Mm_, P V' → Rc_ PL y pc2 lo st V' Φ) : Rc_ PL y pc lo (a4 :: a3 :: a2 :: a1 :: st) V Φ :=
  r_callS (as := [a1, a2, a3, a4]) (st := st) hd hs.1 hs.2.1 hs.2.2 rfl rfl hl8 h2 hC (by rintro ro V' ⟨rfl, hp⟩; exact kk V' hp)
theorem r_cn2p {a1 a2 : Vl_} {e : Int32} (hd : dc_at y pc (.invokestatic idx) 3) (hs : sn_at y idx z 2) (hl8 : st.length ≤ 8) (h2 : pc + 3 = pc2) (hC : Cp_ PL z [a1, a2] V e) (kk : Rc_ PL y pc2 lo (vI e :: st) V Φ) : Rc_ PL y pc lo (a2 :: a1 :: st) V Φ :=
  (by obtain ⟨⟨host, hw⟩, h1, h3⟩ := hs; exact r_callN (as := [a1, a2]) (st := st) hd hw h1 h3 rfl rfl hl8 h2 hC (by rintro ro V' ⟨x, rfl, rfl, rfl⟩; exact kk))
theorem r_cn3p {a1 a2 a3 : Vl_} {e : Int32} (hd : dc_at y pc (.invokestatic idx) 3) (hs : sn_at y idx z 3) (hl8 : st.length ≤ 8) (h2 : pc + 3 = pc2) (hC : Cp_ PL z [a1, a2, a3] V e) (kk : Rc_ PL y pc2 lo (vI e :: st) V Φ) : Rc_ PL y pc lo (a3 :: a2 :: a1 :: st) V Φ :=
  (by obtain ⟨⟨host, hw⟩, h1, h3⟩ := hs; exact r_callN (as := [a1, a2, a3]) (st := st) hd hw h1 h3 rfl rfl hl8 h2 hC (by rintro ro V' ⟨x, rfl, rfl, rfl⟩; exact kk))
/-- the same point with other words for it -/
theorem Rc_.to {lo' : List (Option Vl_)} {V' : Mm_} (hV : V = V') (hl : l_le lo' lo) (k : Rc_ PL y pc lo' st V' Φ) : Rc_ PL y pc lo st V Φ := by subst hV; exact Rc_.weak hl k
/-- a loop that counts: from i0 up to N; at its head the locals are lo i, the memory is Vf i -/
theorem Rc_for (i0 N : Nat) (lo : Nat → List (Option Vl_)) (Vf : Nat → Mm_) (h0 : i0 ≤ N) (hs : ∀ i, i0 ≤ i → i ≤ N → (i < N → Rc_ PL y pc (lo (i + 1)) st (Vf (i + 1)) Φ) → Rc_ PL y pc (lo i) st (Vf i) Φ) : Rc_ PL y pc (lo i0) st (Vf i0) Φ := by
  have key : ∀ d i, i0 ≤ i → i + d = N → Rc_ PL y pc (lo i) st (Vf i) Φ := by
    intro d
    induction d with
    | zero => exact fun i h1 h2 => hs i h1 (by omega) (fun h => absurd h (by omega))
    | succ d ih => exact fun i h1 h2 => hs i h1 (by omega) (fun _ => ih (i + 1) (by omega) (by omega))
  exact key (N - i0) i0 (Nat.le_refl _) (by omega)
/-- the same, with a state of the loop's own and what holds of it -/
theorem Rc_forI {S : Type} (i0 N : Nat) (lo : Nat → S → List (Option Vl_)) (Vf : S → Mm_) (I : Nat → S → Prop) (h0 : i0 ≤ N) (hs : ∀ i s, i0 ≤ i → i ≤ N → I i s → (∀ s', i < N → I (i + 1) s' → Rc_ PL y pc (lo (i + 1) s') st (Vf s') Φ) → Rc_ PL y pc (lo i s) st (Vf s) Φ) (s0 : S) (hI : I i0 s0) : Rc_ PL y pc (lo i0 s0) st (Vf s0) Φ := by
  have key : ∀ d i s, i0 ≤ i → i + d = N → I i s → Rc_ PL y pc (lo i s) st (Vf s) Φ := by
    intro d
    induction d with
    | zero => exact fun i s h1 h2 h3 => hs i s h1 (by omega) h3 (fun s' h => absurd h (by omega))
    | succ d ih => exact fun i s h1 h2 h3 => hs i s h1 (by omega) h3 (fun s' _ h4 => ih (i + 1) s' (by omega) (by omega) h4)
  exact key (N - i0) i0 s0 (Nat.le_refl _) (by omega) hI
end HELP
end
section
/-! base 6: call sites, fields that are written (printed by wip/whole/sites.py) -/
section MORE
variable {PL : List (Nat × Nat)} {y z : mi_T} {pc pc2 n idx : Nat} {lo : List (Option Vl_)} {st : List Vl_} {V V2 : Mm_} {Φ : Ph_}
theorem r_getIe {g r idx ci k : Nat} {x : Int32} (he : V g r k = x) (hd : dc_at y pc (.getfield idx) 3) (hf : fl_at y.1.cls idx ci k) (hr : r < 46) (hc : k_cls r = some ci) (hk0 : (k_fld g r)[k]? = some none) (h2 : pc + 3 = pc2) (kk : Rc_ PL y pc2 lo (vI x :: st) V Φ) : Rc_ PL y pc lo (vR g r :: st) V Φ := r_getI hd hf hr hc hk0 h2 (by rw [he]; exact kk)
theorem r_ialde {g r j : Nat} {i x : Int32} (he : V g r j = x) (hd : dc_at y pc .iaload 1) (hr : r < 46) (hc : k_cls r = none) (hz : k_isZ r = false) (hi : i = nI j) (hj : j < k_len r) (h2 : pc + 1 = pc2) (kk : Rc_ PL y pc2 lo (vI x :: st) V Φ) : Rc_ PL y pc lo (vI i :: vR g r :: st) V Φ := r_iald hd hr hc hz hi hj h2 (by rw [he]; exact kk)
theorem r_zalde {g r j : Nat} {i x : Int32} (he : V g r j = x) (hd : dc_at y pc .baload 1) (hr : r < 46) (hc : k_cls r = none) (hz : k_isZ r = true) (hi : i = nI j) (hj : j < k_len r) (h2 : pc + 1 = pc2) (kk : Rc_ PL y pc2 lo (vI x :: st) V Φ) : Rc_ PL y pc lo (vI i :: vR g r :: st) V Φ := r_zald hd hr hc hz hi hj h2 (by rw [he]; exact kk)
/-- a value on the stack, under another name -/
theorem r_as {x x' : Int32} (e : x = x') (k : Rc_ PL y pc lo (vI x' :: st) V Φ) : Rc_ PL y pc lo (vI x :: st) V Φ := by rw [e]; exact k
/-- Math.min, Math.max, System.arraycopy: their sites -/
def sm_at (y : mi_T) (idx : Nat) : Prop := gd_T (.methodLink y.1.cls idx Lib.Math.min.name) ∧ 1 ≤ y.2.2.2.2.1 ∧ 21 ≤ y.2.2.2.2.2
def sx_at (y : mi_T) (idx : Nat) : Prop := gd_T (.methodLink y.1.cls idx Lib.Math.max.name) ∧ 1 ≤ y.2.2.2.2.1 ∧ 21 ≤ y.2.2.2.2.2
def sp_at (y : mi_T) (idx : Nat) : Prop := gd_T (.methodLink y.1.cls idx arraycopyName) ∧ 1 ≤ y.2.2.2.2.1 ∧ 26 ≤ y.2.2.2.2.2
theorem tw_minC : gd_T (.code Lib.Math.min.name Lib.Math.min.code 2 (some .int)) := ⟨List.mem_of_getElem? (i := 427) (by decide +kernel), by decide +kernel⟩
theorem tw_maxC : gd_T (.code Lib.Math.max.name Lib.Math.max.code 2 (some .int)) := ⟨List.mem_of_getElem? (i := 438) (by decide +kernel), by decide +kernel⟩
theorem r_mn {a b : Int32} (hd : dc_at y pc (.invokestatic idx) 3) (hs : sm_at y idx) (hl8 : st.length ≤ 8) (h2 : pc + 3 = pc2) (kk : Rc_ PL y pc2 lo (vI (if b < a then b else a) :: st) V Φ) : Rc_ PL y pc lo (vI b :: vI a :: st) V Φ := r_min hd hs.1 tw_426 tw_47 tw_minC hs.2 hl8 h2 kk
theorem r_mx {a b : Int32} (hd : dc_at y pc (.invokestatic idx) 3) (hs : sx_at y idx) (hl8 : st.length ≤ 8) (h2 : pc + 3 = pc2) (kk : Rc_ PL y pc2 lo (vI (if a < b then b else a) :: st) V Φ) : Rc_ PL y pc lo (vI b :: vI a :: st) V Φ := r_max hd hs.1 tw_437 tw_47 tw_maxC hs.2 hl8 h2 kk
theorem r_cpy {g0 r0 g r j : Nat} (hd : dc_at y pc (.invokestatic idx) 3) (hs : sp_at y idx) (hr0 : r0 < 46) (hr : r < 46) (hc0 : k_cls r0 = none) (hc : k_cls r = none) (hz0 : k_isZ r0 = false) (hz : k_isZ r = false) (hj1 : j ≤ k_len r0) (hj2 : j ≤ k_len r) (hl8 : st.length ≤ 8) (h2 : pc + 3 = pc2) (kk : Rc_ PL y pc2 lo st (a_set V g r (va_cpy (V g0 r0) (V g r) 0 0 j)) Φ) : Rc_ PL y pc lo (vI (nI j) :: vI (nI 0) :: vR g r :: vI (nI 0) :: vR g0 r0 :: st) V Φ := r_copy hd hs.1 tw_632 tw_631 tw_50 hr0 hr hc0 hc hz0 hz rfl hj1 hj2 hs.2 hl8 h2 kk
end MORE
theorem st_X0_size_19 : sm_at mX0_size 19 := ⟨tw_564, by decide +kernel, by decide +kernel⟩
theorem st_X0_clear_25 : ss_at mX0_clear 25 mJ7_fill_53178 2 := ⟨tw_276, ms_J7_fill_53178, ⟨by decide +kernel, by decide +kernel⟩⟩
theorem st_X0_copyFrom_31 : sp_at mX0_copyFrom 31 := ⟨tw_647, by decide +kernel, by decide +kernel⟩
theorem st_X1_joins_24 : sn_at mX1_joins 24 mX7_pair 2 := ⟨⟨"IntervalRouting", by simp only [nw_L]; decide +kernel⟩, ms_X7_pair, ⟨by decide +kernel, by decide +kernel⟩⟩
theorem st_X1_isUp_24 : sn_at mX1_isUp 24 mX7_pair 2 := ⟨⟨"IntervalRouting", by simp only [nw_L]; decide +kernel⟩, ms_X7_pair, ⟨by decide +kernel, by decide +kernel⟩⟩
theorem st_X1_insert_28 : sv_at mX1_insert 28 mX1_putBounds 4 := ⟨tw_331, mv_X1_putBounds, ⟨by decide +kernel, by decide +kernel⟩⟩
theorem st_X1_insert_32 : sv_at mX1_insert 32 mX1_putCost 3 := ⟨tw_335, mv_X1_putCost, ⟨by decide +kernel, by decide +kernel⟩⟩
theorem st_X1_insert_36 : sv_at mX1_insert 36 mX1_putUp 3 := ⟨tw_339, mv_X1_putUp, ⟨by decide +kernel, by decide +kernel⟩⟩
theorem st_X1_delete_28 : sv_at mX1_delete 28 mX1_putBounds 4 := ⟨tw_331, mv_X1_putBounds, ⟨by decide +kernel, by decide +kernel⟩⟩
theorem st_X1_delete_32 : sv_at mX1_delete 32 mX1_putCost 3 := ⟨tw_335, mv_X1_putCost, ⟨by decide +kernel, by decide +kernel⟩⟩
theorem st_X1_delete_36 : sv_at mX1_delete 36 mX1_putUp 3 := ⟨tw_339, mv_X1_putUp, ⟨by decide +kernel, by decide +kernel⟩⟩
theorem st_X1_putBounds_24 : sn_at mX1_putBounds 24 mX7_pair 2 := ⟨⟨"IntervalRouting", by simp only [nw_L]; decide +kernel⟩, ms_X7_pair, ⟨by decide +kernel, by decide +kernel⟩⟩
theorem st_X1_putCost_24 : sn_at mX1_putCost 24 mX7_pair 2 := ⟨⟨"IntervalRouting", by simp only [nw_L]; decide +kernel⟩, ms_X7_pair, ⟨by decide +kernel, by decide +kernel⟩⟩
theorem st_X1_putUp_24 : sn_at mX1_putUp 24 mX7_pair 2 := ⟨⟨"IntervalRouting", by simp only [nw_L]; decide +kernel⟩, ms_X7_pair, ⟨by decide +kernel, by decide +kernel⟩⟩
theorem st_X1_clear_43 : ss_at mX1_clear 43 mJ7_fill_53178 2 := ⟨tw_259, ms_J7_fill_53178, ⟨by decide +kernel, by decide +kernel⟩⟩
theorem st_X1_copyFrom_49 : sp_at mX1_copyFrom 49 := ⟨tw_630, by decide +kernel, by decide +kernel⟩
theorem st_X2_startAnew_53 : sv_at mX2_startAnew 53 mX1_clear 0 := ⟨tw_255, mv_X1_clear, ⟨by decide +kernel, by decide +kernel⟩⟩
theorem st_X2_startAnew_56 : sv_at mX2_startAnew 56 mX4_clear 0 := ⟨tw_262, mv_X4_clear, ⟨by decide +kernel, by decide +kernel⟩⟩
theorem st_X2_startAnew_57 : sv_at mX2_startAnew 57 mX5_clear 0 := ⟨tw_267, mv_X5_clear, ⟨by decide +kernel, by decide +kernel⟩⟩
theorem st_X2_startAnew_58 : sv_at mX2_startAnew 58 mX0_clear 0 := ⟨tw_272, mv_X0_clear, ⟨by decide +kernel, by decide +kernel⟩⟩
theorem st_X2_startAnew_59 : ss_at mX2_startAnew 59 mJ7_fill_53178 2 := ⟨tw_277, ms_J7_fill_53178, ⟨by decide +kernel, by decide +kernel⟩⟩
theorem st_X2_copyFrom_65 : sv_at mX2_copyFrom 65 mX1_copyFrom 1 := ⟨tw_626, mv_X1_copyFrom, ⟨by decide +kernel, by decide +kernel⟩⟩
theorem st_X2_copyFrom_69 : sv_at mX2_copyFrom 69 mX4_copyFrom 1 := ⟨tw_633, mv_X4_copyFrom, ⟨by decide +kernel, by decide +kernel⟩⟩
theorem st_X2_copyFrom_72 : sv_at mX2_copyFrom 72 mX5_copyFrom 1 := ⟨tw_638, mv_X5_copyFrom, ⟨by decide +kernel, by decide +kernel⟩⟩
theorem st_X2_copyFrom_75 : sv_at mX2_copyFrom 75 mX0_copyFrom 1 := ⟨tw_643, mv_X0_copyFrom, ⟨by decide +kernel, by decide +kernel⟩⟩
theorem st_X2_copyFrom_78 : sp_at mX2_copyFrom 78 := ⟨tw_648, by decide +kernel, by decide +kernel⟩
theorem st_X2_isUsable_84 : sv_at mX2_isUsable 84 mX1_isUp 2 := ⟨tw_512, mv_X1_isUp, ⟨by decide +kernel, by decide +kernel⟩⟩
theorem st_X2_isUsable_88 : sn_at mX2_isUsable 88 mX7_slot 3 := ⟨⟨"IntervalRouting", by simp only [nw_L]; decide +kernel⟩, ms_X7_slot, ⟨by decide +kernel, by decide +kernel⟩⟩
theorem st_X2_isUsable_92 : sv_at mX2_isUsable 92 mX4_isOpen 3 := ⟨tw_514, mv_X4_isOpen, ⟨by decide +kernel, by decide +kernel⟩⟩
theorem st_X2_isDominated_96 : sv_at mX2_isDominated 96 mX2_isUsable 4 := ⟨tw_522, mv_X2_isUsable, ⟨by decide +kernel, by decide +kernel⟩⟩
theorem st_X2_isDominated_88 : sn_at mX2_isDominated 88 mX7_slot 3 := ⟨⟨"IntervalRouting", by simp only [nw_L]; decide +kernel⟩, ms_X7_slot, ⟨by decide +kernel, by decide +kernel⟩⟩
theorem st_X2_isDominated_100 : sv_at mX2_isDominated 100 mX4_dominates 2 := ⟨tw_523, mv_X4_dominates, ⟨by decide +kernel, by decide +kernel⟩⟩
theorem st_X3_take_45 : sv_at mX3_take 45 mX3_findNeighbours 2 := ⟨tw_393, mv_X3_findNeighbours, ⟨by decide +kernel, by decide +kernel⟩⟩
theorem st_X3_take_49 : sv_at mX3_take 49 mX3_look 4 := ⟨tw_401, mv_X3_look, ⟨by decide +kernel, by decide +kernel⟩⟩
theorem st_X3_takeOne_45 : sv_at mX3_takeOne 45 mX3_findNeighbours 2 := ⟨tw_393, mv_X3_findNeighbours, ⟨by decide +kernel, by decide +kernel⟩⟩
theorem st_X3_takeOne_49 : sv_at mX3_takeOne 49 mX3_look 4 := ⟨tw_401, mv_X3_look, ⟨by decide +kernel, by decide +kernel⟩⟩
theorem st_X3_findNeighbours_60 : sv_at mX3_findNeighbours 60 mX1_isUp 2 := ⟨tw_397, mv_X1_isUp, ⟨by decide +kernel, by decide +kernel⟩⟩
theorem st_X3_look_66 : sn_at mX3_look 66 mX7_pair 2 := ⟨⟨"IntervalRouting", by simp only [nw_L]; decide +kernel⟩, ms_X7_pair, ⟨by decide +kernel, by decide +kernel⟩⟩
theorem st_X3_look_70 : sv_at mX3_look 70 mX3_gather 4 := ⟨tw_406, mv_X3_gather, ⟨by decide +kernel, by decide +kernel⟩⟩
theorem st_X3_look_74 : sv_at mX3_look 74 mX3_putDistance 2 := ⟨tw_421, mv_X3_putDistance, ⟨by decide +kernel, by decide +kernel⟩⟩
theorem st_X3_look_78 : sv_at mX3_look 78 mX3_rankAll 1 := ⟨tw_428, mv_X3_rankAll, ⟨by decide +kernel, by decide +kernel⟩⟩
theorem st_X3_look_82 : sv_at mX3_look 82 mX3_choose 0 := ⟨tw_439, mv_X3_choose, ⟨by decide +kernel, by decide +kernel⟩⟩
theorem st_X3_gather_89 : sn_at mX3_gather 89 mX7_slot 3 := ⟨⟨"IntervalRouting", by simp only [nw_L]; decide +kernel⟩, ms_X7_slot, ⟨by decide +kernel, by decide +kernel⟩⟩
theorem st_X3_gather_100 : sv_at mX3_gather 100 mX4_isOpen 3 := ⟨tw_413, mv_X4_isOpen, ⟨by decide +kernel, by decide +kernel⟩⟩
theorem st_X3_putDistance_108 : sm_at mX3_putDistance 108 := ⟨tw_425, by decide +kernel, by decide +kernel⟩
theorem st_X3_rankAll_113 : sv_at mX3_rankAll 113 mX3_regret 1 := ⟨tw_432, mv_X3_regret, ⟨by decide +kernel, by decide +kernel⟩⟩
theorem st_X3_choose_117 : sv_at mX3_choose 117 mX3_isBetter 2 := ⟨tw_443, mv_X3_isBetter, ⟨by decide +kernel, by decide +kernel⟩⟩
theorem st_X3_regret_120 : sx_at mX3_regret 120 := ⟨tw_436, by decide +kernel, by decide +kernel⟩
theorem st_X3_walk_66 : sn_at mX3_walk 66 mX7_pair 2 := ⟨⟨"IntervalRouting", by simp only [nw_L]; decide +kernel⟩, ms_X7_pair, ⟨by decide +kernel, by decide +kernel⟩⟩
theorem st_X3_countLoops_123 : sv_at mX3_countLoops 123 mX3_walk 2 := ⟨tw_617, mv_X3_walk, ⟨by decide +kernel, by decide +kernel⟩⟩
theorem st_X4_isOpen_27 : sv_at mX4_isOpen 27 mX4_has 1 := ⟨tw_417, mv_X4_has, ⟨by decide +kernel, by decide +kernel⟩⟩
theorem st_X4_receive_31 : sv_at mX4_receive 31 mX4_countGrowth 2 := ⟨tw_483, mv_X4_countGrowth, ⟨by decide +kernel, by decide +kernel⟩⟩
theorem st_X4_clear_35 : ss_at mX4_clear 35 mJ7_fill_53178 2 := ⟨tw_266, ms_J7_fill_53178, ⟨by decide +kernel, by decide +kernel⟩⟩
theorem st_X4_copyFrom_41 : sp_at mX4_copyFrom 41 := ⟨tw_637, by decide +kernel, by decide +kernel⟩
theorem st_X5_differs_18 : sn_at mX5_differs 18 mX7_pair 2 := ⟨⟨"IntervalRouting", by simp only [nw_L]; decide +kernel⟩, ms_X7_pair, ⟨by decide +kernel, by decide +kernel⟩⟩
theorem st_X5_keep_18 : sn_at mX5_keep 18 mX7_pair 2 := ⟨⟨"IntervalRouting", by simp only [nw_L]; decide +kernel⟩, ms_X7_pair, ⟨by decide +kernel, by decide +kernel⟩⟩
theorem st_X5_clear_26 : ss_at mX5_clear 26 mJ7_fill_53178 2 := ⟨tw_271, ms_J7_fill_53178, ⟨by decide +kernel, by decide +kernel⟩⟩
theorem st_X5_copyFrom_32 : sp_at mX5_copyFrom 32 := ⟨tw_642, by decide +kernel, by decide +kernel⟩
theorem st_X6_measure_16 : sn_at mX6_measure 16 mX7_pair 2 := ⟨⟨"IntervalRouting", by simp only [nw_L]; decide +kernel⟩, ms_X7_pair, ⟨by decide +kernel, by decide +kernel⟩⟩
theorem st_X6_measure_20 : sv_at mX6_measure 20 mX1_isUp 2 := ⟨tw_582, mv_X1_isUp, ⟨by decide +kernel, by decide +kernel⟩⟩
theorem st_X6_measure_29 : sv_at mX6_measure 29 mX6_shorten 2 := ⟨tw_584, mv_X6_shorten, ⟨by decide +kernel, by decide +kernel⟩⟩
theorem st_X6_shorten_16 : sn_at mX6_shorten 16 mX7_pair 2 := ⟨⟨"IntervalRouting", by simp only [nw_L]; decide +kernel⟩, ms_X7_pair, ⟨by decide +kernel, by decide +kernel⟩⟩
theorem st_X6_shorten_33 : sm_at mX6_shorten 33 := ⟨tw_588, by decide +kernel, by decide +kernel⟩
theorem st_X6_countPairs_16 : sn_at mX6_countPairs 16 mX7_pair 2 := ⟨⟨"IntervalRouting", by simp only [nw_L]; decide +kernel⟩, ms_X7_pair, ⟨by decide +kernel, by decide +kernel⟩⟩
theorem st_X6_countPairs_38 : sv_at mX6_countPairs 38 mX6_exists 1 := ⟨tw_657, mv_X6_exists, ⟨by decide +kernel, by decide +kernel⟩⟩
theorem st_X7_reset_56 : sv_at mX7_reset 56 mX2_startAnew 1 := ⟨tw_251, mv_X2_startAnew, ⟨by decide +kernel, by decide +kernel⟩⟩
theorem st_X7_addLink_64 : sv_at mX7_addLink 64 mX7_isPair 2 := ⟨tw_312, mv_X7_isPair, ⟨by decide +kernel, by decide +kernel⟩⟩
theorem st_X7_addLink_72 : sv_at mX7_addLink 72 mX1_joins 2 := ⟨tw_320, mv_X1_joins, ⟨by decide +kernel, by decide +kernel⟩⟩
theorem st_X7_addLink_80 : sv_at mX7_addLink 80 mX1_insert 4 := ⟨tw_327, mv_X1_insert, ⟨by decide +kernel, by decide +kernel⟩⟩
theorem st_X7_removeLink_64 : sv_at mX7_removeLink 64 mX7_isPair 2 := ⟨tw_312, mv_X7_isPair, ⟨by decide +kernel, by decide +kernel⟩⟩
theorem st_X7_removeLink_72 : sv_at mX7_removeLink 72 mX1_joins 2 := ⟨tw_320, mv_X1_joins, ⟨by decide +kernel, by decide +kernel⟩⟩
theorem st_X7_removeLink_84 : sv_at mX7_removeLink 84 mX1_delete 2 := ⟨tw_347, mv_X1_delete, ⟨by decide +kernel, by decide +kernel⟩⟩
theorem st_X7_setCost_64 : sv_at mX7_setCost 64 mX7_isPair 2 := ⟨tw_312, mv_X7_isPair, ⟨by decide +kernel, by decide +kernel⟩⟩
theorem st_X7_setCost_72 : sv_at mX7_setCost 72 mX1_joins 2 := ⟨tw_320, mv_X1_joins, ⟨by decide +kernel, by decide +kernel⟩⟩
theorem st_X7_setCost_88 : ss_at mX7_setCost 88 mX7_pair 2 := ⟨tw_355, ms_X7_pair, ⟨by decide +kernel, by decide +kernel⟩⟩
theorem st_X7_setCost_101 : sv_at mX7_setCost 101 mX1_putCost 3 := ⟨tw_356, mv_X1_putCost, ⟨by decide +kernel, by decide +kernel⟩⟩
theorem st_X7_setUp_64 : sv_at mX7_setUp 64 mX7_isPair 2 := ⟨tw_312, mv_X7_isPair, ⟨by decide +kernel, by decide +kernel⟩⟩
theorem st_X7_setUp_105 : ss_at mX7_setUp 105 mX7_isBetween 3 := ⟨tw_361, ms_X7_isBetween, ⟨by decide +kernel, by decide +kernel⟩⟩
theorem st_X7_setUp_72 : sv_at mX7_setUp 72 mX1_joins 2 := ⟨tw_320, mv_X1_joins, ⟨by decide +kernel, by decide +kernel⟩⟩
theorem st_X7_setUp_88 : ss_at mX7_setUp 88 mX7_pair 2 := ⟨tw_355, ms_X7_pair, ⟨by decide +kernel, by decide +kernel⟩⟩
theorem st_X7_setUp_112 : sv_at mX7_setUp 112 mX1_putUp 3 := ⟨tw_364, mv_X1_putUp, ⟨by decide +kernel, by decide +kernel⟩⟩
theorem st_X7_link_64 : sv_at mX7_link 64 mX7_isPair 2 := ⟨tw_312, mv_X7_isPair, ⟨by decide +kernel, by decide +kernel⟩⟩
theorem st_X7_link_105 : ss_at mX7_link 105 mX7_isBetween 3 := ⟨tw_361, ms_X7_isBetween, ⟨by decide +kernel, by decide +kernel⟩⟩
theorem st_X7_link_72 : sv_at mX7_link 72 mX1_joins 2 := ⟨tw_320, mv_X1_joins, ⟨by decide +kernel, by decide +kernel⟩⟩
theorem st_X7_link_88 : ss_at mX7_link 88 mX7_pair 2 := ⟨tw_355, ms_X7_pair, ⟨by decide +kernel, by decide +kernel⟩⟩
theorem st_X7_set_115 : ss_at mX7_set 115 mX7_isSetting 1 := ⟨tw_373, ms_X7_isSetting, ⟨by decide +kernel, by decide +kernel⟩⟩
theorem st_X7_set_105 : ss_at mX7_set 105 mX7_isBetween 3 := ⟨tw_361, ms_X7_isBetween, ⟨by decide +kernel, by decide +kernel⟩⟩
theorem st_X7_run_105 : ss_at mX7_run 105 mX7_isBetween 3 := ⟨tw_361, ms_X7_isBetween, ⟨by decide +kernel, by decide +kernel⟩⟩
theorem st_X7_run_129 : sv_at mX7_run 129 mX7_makeTick 1 := ⟨tw_385, mv_X7_makeTick, ⟨by decide +kernel, by decide +kernel⟩⟩
theorem st_X7_entry_64 : sv_at mX7_entry 64 mX7_isPair 2 := ⟨tw_312, mv_X7_isPair, ⟨by decide +kernel, by decide +kernel⟩⟩
theorem st_X7_entry_105 : ss_at mX7_entry 105 mX7_isBetween 3 := ⟨tw_361, ms_X7_isBetween, ⟨by decide +kernel, by decide +kernel⟩⟩
theorem st_X7_entry_136 : ss_at mX7_entry 136 mX7_slot 3 := ⟨tw_478, ms_X7_slot, ⟨by decide +kernel, by decide +kernel⟩⟩
theorem st_X7_entry_144 : sv_at mX7_entry 144 mX4_has 1 := ⟨tw_507, mv_X4_has, ⟨by decide +kernel, by decide +kernel⟩⟩
theorem st_X7_entry_160 : sv_at mX7_entry 160 mX2_isUsable 4 := ⟨tw_508, mv_X2_isUsable, ⟨by decide +kernel, by decide +kernel⟩⟩
theorem st_X7_entry_164 : ss_at mX7_entry 164 mX7_asNumber 1 := ⟨tw_515, ms_X7_asNumber, ⟨by decide +kernel, by decide +kernel⟩⟩
theorem st_X7_entry_168 : sv_at mX7_entry 168 mX2_isDominated 4 := ⟨tw_518, mv_X2_isDominated, ⟨by decide +kernel, by decide +kernel⟩⟩
theorem st_X7_distance_171 : sv_at mX7_distance 171 mX7_isNode 1 := ⟨tw_316, mv_X7_isNode, ⟨by decide +kernel, by decide +kernel⟩⟩
theorem st_X7_distance_105 : ss_at mX7_distance 105 mX7_isBetween 3 := ⟨tw_361, ms_X7_isBetween, ⟨by decide +kernel, by decide +kernel⟩⟩
theorem st_X7_distance_174 : sv_at mX7_distance 174 mX3_takeOne 4 := ⟨tw_531, mv_X3_takeOne, ⟨by decide +kernel, by decide +kernel⟩⟩
theorem st_X7_distance_88 : ss_at mX7_distance 88 mX7_pair 2 := ⟨tw_355, ms_X7_pair, ⟨by decide +kernel, by decide +kernel⟩⟩
theorem st_X7_distance_178 : sv_at mX7_distance 178 mX3_reaches 1 := ⟨tw_473, mv_X3_reaches, ⟨by decide +kernel, by decide +kernel⟩⟩
theorem st_X7_choice_64 : sv_at mX7_choice 64 mX7_isPair 2 := ⟨tw_312, mv_X7_isPair, ⟨by decide +kernel, by decide +kernel⟩⟩
theorem st_X7_choice_174 : sv_at mX7_choice 174 mX3_takeOne 4 := ⟨tw_531, mv_X3_takeOne, ⟨by decide +kernel, by decide +kernel⟩⟩
theorem st_X7_choice_88 : ss_at mX7_choice 88 mX7_pair 2 := ⟨tw_355, ms_X7_pair, ⟨by decide +kernel, by decide +kernel⟩⟩
theorem st_X7_entries_64 : sv_at mX7_entries 64 mX7_isPair 2 := ⟨tw_312, mv_X7_isPair, ⟨by decide +kernel, by decide +kernel⟩⟩
theorem st_X7_entries_105 : ss_at mX7_entries 105 mX7_isBetween 3 := ⟨tw_361, ms_X7_isBetween, ⟨by decide +kernel, by decide +kernel⟩⟩
theorem st_X7_entries_186 : sv_at mX7_entries 186 mX7_counts 4 := ⟨tw_543, mv_X7_counts, ⟨by decide +kernel, by decide +kernel⟩⟩
theorem st_X7_meanWidthBits_189 : sv_at mX7_meanWidthBits 189 mX3_take 2 := ⟨tw_389, mv_X3_take, ⟨by decide +kernel, by decide +kernel⟩⟩
theorem st_X7_meanWidthBits_88 : ss_at mX7_meanWidthBits 88 mX7_pair 2 := ⟨tw_355, ms_X7_pair, ⟨by decide +kernel, by decide +kernel⟩⟩
theorem st_X7_meanWidthBits_178 : sv_at mX7_meanWidthBits 178 mX3_reaches 1 := ⟨tw_473, mv_X3_reaches, ⟨by decide +kernel, by decide +kernel⟩⟩
theorem st_X7_meanWidthBits_193 : ss_at mX7_meanWidthBits 193 mX7_bitsOf 1 := ⟨tw_551, ms_X7_bitsOf, ⟨by decide +kernel, by decide +kernel⟩⟩
theorem st_X7_journalSize_201 : sv_at mX7_journalSize 201 mX0_size 0 := ⟨tw_560, mv_X0_size, ⟨by decide +kernel, by decide +kernel⟩⟩
theorem st_X7_journal_105 : ss_at mX7_journal 105 mX7_isBetween 3 := ⟨tw_361, ms_X7_isBetween, ⟨by decide +kernel, by decide +kernel⟩⟩
theorem st_X7_journal_201 : sv_at mX7_journal 201 mX0_size 0 := ⟨tw_560, mv_X0_size, ⟨by decide +kernel, by decide +kernel⟩⟩
theorem st_X7_journal_207 : sv_at mX7_journal 207 mX0_value 2 := ⟨tw_569, mv_X0_value, ⟨by decide +kernel, by decide +kernel⟩⟩
theorem st_X7_trueDistance_171 : sv_at mX7_trueDistance 171 mX7_isNode 1 := ⟨tw_316, mv_X7_isNode, ⟨by decide +kernel, by decide +kernel⟩⟩
theorem st_X7_trueDistance_210 : sv_at mX7_trueDistance 210 mX6_measure 2 := ⟨tw_577, mv_X6_measure, ⟨by decide +kernel, by decide +kernel⟩⟩
theorem st_X7_trueDistance_88 : ss_at mX7_trueDistance 88 mX7_pair 2 := ⟨tw_355, ms_X7_pair, ⟨by decide +kernel, by decide +kernel⟩⟩
theorem st_X7_trueDistance_214 : sv_at mX7_trueDistance 214 mX6_exists 1 := ⟨tw_589, mv_X6_exists, ⟨by decide +kernel, by decide +kernel⟩⟩
theorem st_X7_wrongPairs_189 : sv_at mX7_wrongPairs 189 mX3_take 2 := ⟨tw_389, mv_X3_take, ⟨by decide +kernel, by decide +kernel⟩⟩
theorem st_X7_wrongPairs_210 : sv_at mX7_wrongPairs 210 mX6_measure 2 := ⟨tw_577, mv_X6_measure, ⟨by decide +kernel, by decide +kernel⟩⟩
theorem st_X7_wrongPairs_88 : ss_at mX7_wrongPairs 88 mX7_pair 2 := ⟨tw_355, ms_X7_pair, ⟨by decide +kernel, by decide +kernel⟩⟩
theorem st_X7_wrongPairs_220 : sv_at mX7_wrongPairs 220 mX7_isWrong 1 := ⟨tw_597, mv_X7_isWrong, ⟨by decide +kernel, by decide +kernel⟩⟩
theorem st_X7_follow_64 : sv_at mX7_follow 64 mX7_isPair 2 := ⟨tw_312, mv_X7_isPair, ⟨by decide +kernel, by decide +kernel⟩⟩
theorem st_X7_follow_189 : sv_at mX7_follow 189 mX3_take 2 := ⟨tw_389, mv_X3_take, ⟨by decide +kernel, by decide +kernel⟩⟩
theorem st_X7_follow_223 : sv_at mX7_follow 223 mX3_walk 2 := ⟨tw_605, mv_X3_walk, ⟨by decide +kernel, by decide +kernel⟩⟩
theorem st_X7_loops_189 : sv_at mX7_loops 189 mX3_take 2 := ⟨tw_389, mv_X3_take, ⟨by decide +kernel, by decide +kernel⟩⟩
theorem st_X7_loops_226 : sv_at mX7_loops 226 mX3_countLoops 1 := ⟨tw_613, mv_X3_countLoops, ⟨by decide +kernel, by decide +kernel⟩⟩
theorem st_X7_settling_230 : sv_at mX7_settling 230 mX2_copyFrom 1 := ⟨tw_622, mv_X2_copyFrom, ⟨by decide +kernel, by decide +kernel⟩⟩
theorem st_X7_settling_129 : sv_at mX7_settling 129 mX7_makeTick 1 := ⟨tw_385, mv_X7_makeTick, ⟨by decide +kernel, by decide +kernel⟩⟩
theorem st_X7_loss_64 : sv_at mX7_loss 64 mX7_isPair 2 := ⟨tw_312, mv_X7_isPair, ⟨by decide +kernel, by decide +kernel⟩⟩
theorem st_X7_loss_72 : sv_at mX7_loss 72 mX1_joins 2 := ⟨tw_320, mv_X1_joins, ⟨by decide +kernel, by decide +kernel⟩⟩
theorem st_X7_loss_210 : sv_at mX7_loss 210 mX6_measure 2 := ⟨tw_577, mv_X6_measure, ⟨by decide +kernel, by decide +kernel⟩⟩
theorem st_X7_loss_234 : sv_at mX7_loss 234 mX6_countPairs 1 := ⟨tw_653, mv_X6_countPairs, ⟨by decide +kernel, by decide +kernel⟩⟩
theorem st_X7_loss_230 : sv_at mX7_loss 230 mX2_copyFrom 1 := ⟨tw_622, mv_X2_copyFrom, ⟨by decide +kernel, by decide +kernel⟩⟩
theorem st_X7_loss_112 : sv_at mX7_loss 112 mX1_putUp 3 := ⟨tw_364, mv_X1_putUp, ⟨by decide +kernel, by decide +kernel⟩⟩
theorem st_X7_recovery_64 : sv_at mX7_recovery 64 mX7_isPair 2 := ⟨tw_312, mv_X7_isPair, ⟨by decide +kernel, by decide +kernel⟩⟩
theorem st_X7_recovery_72 : sv_at mX7_recovery 72 mX1_joins 2 := ⟨tw_320, mv_X1_joins, ⟨by decide +kernel, by decide +kernel⟩⟩
theorem st_X7_recovery_237 : sv_at mX7_recovery 237 mX1_isUp 2 := ⟨tw_468, mv_X1_isUp, ⟨by decide +kernel, by decide +kernel⟩⟩
theorem st_X7_recovery_230 : sv_at mX7_recovery 230 mX2_copyFrom 1 := ⟨tw_622, mv_X2_copyFrom, ⟨by decide +kernel, by decide +kernel⟩⟩
theorem st_X7_recovery_112 : sv_at mX7_recovery 112 mX1_putUp 3 := ⟨tw_364, mv_X1_putUp, ⟨by decide +kernel, by decide +kernel⟩⟩
theorem st_X7_recovery_129 : sv_at mX7_recovery 129 mX7_makeTick 1 := ⟨tw_385, mv_X7_makeTick, ⟨by decide +kernel, by decide +kernel⟩⟩
theorem st_X7_recovery_226 : sv_at mX7_recovery 226 mX3_countLoops 1 := ⟨tw_613, mv_X3_countLoops, ⟨by decide +kernel, by decide +kernel⟩⟩
theorem st_X7_store_230 : sv_at mX7_store 230 mX2_copyFrom 1 := ⟨tw_622, mv_X2_copyFrom, ⟨by decide +kernel, by decide +kernel⟩⟩
theorem st_X7_recall_230 : sv_at mX7_recall 230 mX2_copyFrom 1 := ⟨tw_622, mv_X2_copyFrom, ⟨by decide +kernel, by decide +kernel⟩⟩
theorem st_X7_isPair_171 : sv_at mX7_isPair 171 mX7_isNode 1 := ⟨tw_316, mv_X7_isNode, ⟨by decide +kernel, by decide +kernel⟩⟩
theorem st_X7_isSetting_105 : ss_at mX7_isSetting 105 mX7_isBetween 3 := ⟨tw_361, ms_X7_isBetween, ⟨by decide +kernel, by decide +kernel⟩⟩
theorem st_X7_counts_136 : ss_at mX7_counts 136 mX7_slot 3 := ⟨tw_478, ms_X7_slot, ⟨by decide +kernel, by decide +kernel⟩⟩
theorem st_X7_counts_144 : sv_at mX7_counts 144 mX4_has 1 := ⟨tw_507, mv_X4_has, ⟨by decide +kernel, by decide +kernel⟩⟩
theorem st_X7_counts_160 : sv_at mX7_counts 160 mX2_isUsable 4 := ⟨tw_508, mv_X2_isUsable, ⟨by decide +kernel, by decide +kernel⟩⟩
theorem st_X7_counts_168 : sv_at mX7_counts 168 mX2_isDominated 4 := ⟨tw_518, mv_X2_isDominated, ⟨by decide +kernel, by decide +kernel⟩⟩
theorem st_X7_isWrong_214 : sv_at mX7_isWrong 214 mX6_exists 1 := ⟨tw_589, mv_X6_exists, ⟨by decide +kernel, by decide +kernel⟩⟩
theorem st_X7_isWrong_178 : sv_at mX7_isWrong 178 mX3_reaches 1 := ⟨tw_473, mv_X3_reaches, ⟨by decide +kernel, by decide +kernel⟩⟩
theorem st_X7_isWrong_105 : ss_at mX7_isWrong 105 mX7_isBetween 3 := ⟨tw_361, ms_X7_isBetween, ⟨by decide +kernel, by decide +kernel⟩⟩
theorem st_X7_makeTick_189 : sv_at mX7_makeTick 189 mX3_take 2 := ⟨tw_389, mv_X3_take, ⟨by decide +kernel, by decide +kernel⟩⟩
theorem st_X7_makeTick_242 : sv_at mX7_makeTick 242 mX7_chooseSpeakers 1 := ⟨tw_447, mv_X7_chooseSpeakers, ⟨by decide +kernel, by decide +kernel⟩⟩
theorem st_X7_makeTick_245 : sv_at mX7_makeTick 245 mX7_speak 2 := ⟨tw_464, mv_X7_speak, ⟨by decide +kernel, by decide +kernel⟩⟩
theorem st_X7_makeTick_249 : sv_at mX7_makeTick 249 mX7_noteChanges 1 := ⟨tw_487, mv_X7_noteChanges, ⟨by decide +kernel, by decide +kernel⟩⟩
theorem st_X7_chooseSpeakers_252 : sv_at mX7_chooseSpeakers 252 mX7_isDue 2 := ⟨tw_451, mv_X7_isDue, ⟨by decide +kernel, by decide +kernel⟩⟩
theorem st_X7_chooseSpeakers_260 : sv_at mX7_chooseSpeakers 260 mX5_differs 3 := ⟨tw_455, mv_X5_differs, ⟨by decide +kernel, by decide +kernel⟩⟩
theorem st_X7_chooseSpeakers_266 : sv_at mX7_chooseSpeakers 266 mX5_keep 3 := ⟨tw_460, mv_X5_keep, ⟨by decide +kernel, by decide +kernel⟩⟩
theorem st_X7_speak_237 : sv_at mX7_speak 237 mX1_isUp 2 := ⟨tw_468, mv_X1_isUp, ⟨by decide +kernel, by decide +kernel⟩⟩
theorem st_X7_speak_270 : sv_at mX7_speak 270 mX7_announce 4 := ⟨tw_469, mv_X7_announce, ⟨by decide +kernel, by decide +kernel⟩⟩
theorem st_X7_announce_88 : ss_at mX7_announce 88 mX7_pair 2 := ⟨tw_355, ms_X7_pair, ⟨by decide +kernel, by decide +kernel⟩⟩
theorem st_X7_announce_178 : sv_at mX7_announce 178 mX3_reaches 1 := ⟨tw_473, mv_X3_reaches, ⟨by decide +kernel, by decide +kernel⟩⟩
theorem st_X7_announce_274 : sm_at mX7_announce 274 := ⟨tw_477, by decide +kernel, by decide +kernel⟩
theorem st_X7_announce_136 : ss_at mX7_announce 136 mX7_slot 3 := ⟨tw_478, ms_X7_slot, ⟨by decide +kernel, by decide +kernel⟩⟩
theorem st_X7_announce_279 : sv_at mX7_announce 279 mX4_receive 5 := ⟨tw_479, mv_X4_receive, ⟨by decide +kernel, by decide +kernel⟩⟩
theorem st_X7_noteChanges_88 : ss_at mX7_noteChanges 88 mX7_pair 2 := ⟨tw_355, ms_X7_pair, ⟨by decide +kernel, by decide +kernel⟩⟩
theorem st_X7_noteChanges_286 : sv_at mX7_noteChanges 286 mX0_add 4 := ⟨tw_491, mv_X0_add, ⟨by decide +kernel, by decide +kernel⟩⟩
theorem st_X8_isNode_54 : ss_at mX8_isNode 54 mX8_in 3 := ⟨tw_730, ms_X8_in, ⟨by decide +kernel, by decide +kernel⟩⟩
theorem st_X8_arePair_58 : sv_at mX8_arePair 58 mX8_isNode 1 := ⟨tw_741, mv_X8_isNode, ⟨by decide +kernel, by decide +kernel⟩⟩
theorem st_X8_isLink_62 : ss_at mX8_isLink 62 mX8_linkAt 3 := ⟨tw_749, ms_X8_linkAt, ⟨by decide +kernel, by decide +kernel⟩⟩
theorem st_X8_areNear_66 : sv_at mX8_areNear 66 mX8_isLink 2 := ⟨tw_745, mv_X8_isLink, ⟨by decide +kernel, by decide +kernel⟩⟩
theorem st_X8_areNear_62 : ss_at mX8_areNear 62 mX8_linkAt 3 := ⟨tw_749, ms_X8_linkAt, ⟨by decide +kernel, by decide +kernel⟩⟩
theorem st_X8_sets_62 : ss_at mX8_sets 62 mX8_linkAt 3 := ⟨tw_749, ms_X8_linkAt, ⟨by decide +kernel, by decide +kernel⟩⟩
theorem st_X8_reset_54 : ss_at mX8_reset 54 mX8_in 3 := ⟨tw_730, ms_X8_in, ⟨by decide +kernel, by decide +kernel⟩⟩
theorem st_X8_reset_51 : sv_at mX8_reset 51 mX8_begins 0 := ⟨tw_676, mv_X8_begins, ⟨by decide +kernel, by decide +kernel⟩⟩
theorem st_X8_addLink_74 : sv_at mX8_addLink 74 mX8_arePair 2 := ⟨tw_737, mv_X8_arePair, ⟨by decide +kernel, by decide +kernel⟩⟩
theorem st_X8_addLink_54 : ss_at mX8_addLink 54 mX8_in 3 := ⟨tw_730, ms_X8_in, ⟨by decide +kernel, by decide +kernel⟩⟩
theorem st_X8_addLink_66 : sv_at mX8_addLink 66 mX8_isLink 2 := ⟨tw_745, mv_X8_isLink, ⟨by decide +kernel, by decide +kernel⟩⟩
theorem st_X8_addLink_77 : sv_at mX8_addLink 77 mX8_sets 4 := ⟨tw_752, mv_X8_sets, ⟨by decide +kernel, by decide +kernel⟩⟩
theorem st_X8_removeLink_74 : sv_at mX8_removeLink 74 mX8_arePair 2 := ⟨tw_737, mv_X8_arePair, ⟨by decide +kernel, by decide +kernel⟩⟩
theorem st_X8_removeLink_66 : sv_at mX8_removeLink 66 mX8_isLink 2 := ⟨tw_745, mv_X8_isLink, ⟨by decide +kernel, by decide +kernel⟩⟩
theorem st_X8_removeLink_77 : sv_at mX8_removeLink 77 mX8_sets 4 := ⟨tw_752, mv_X8_sets, ⟨by decide +kernel, by decide +kernel⟩⟩
theorem st_X8_setCost_74 : sv_at mX8_setCost 74 mX8_arePair 2 := ⟨tw_737, mv_X8_arePair, ⟨by decide +kernel, by decide +kernel⟩⟩
theorem st_X8_setCost_54 : ss_at mX8_setCost 54 mX8_in 3 := ⟨tw_730, ms_X8_in, ⟨by decide +kernel, by decide +kernel⟩⟩
theorem st_X8_setCost_66 : sv_at mX8_setCost 66 mX8_isLink 2 := ⟨tw_745, mv_X8_isLink, ⟨by decide +kernel, by decide +kernel⟩⟩
theorem st_X8_setCost_62 : ss_at mX8_setCost 62 mX8_linkAt 3 := ⟨tw_749, ms_X8_linkAt, ⟨by decide +kernel, by decide +kernel⟩⟩
theorem st_X8_setCost_77 : sv_at mX8_setCost 77 mX8_sets 4 := ⟨tw_752, mv_X8_sets, ⟨by decide +kernel, by decide +kernel⟩⟩
theorem st_X8_setUp_74 : sv_at mX8_setUp 74 mX8_arePair 2 := ⟨tw_737, mv_X8_arePair, ⟨by decide +kernel, by decide +kernel⟩⟩
theorem st_X8_setUp_54 : ss_at mX8_setUp 54 mX8_in 3 := ⟨tw_730, ms_X8_in, ⟨by decide +kernel, by decide +kernel⟩⟩
theorem st_X8_setUp_66 : sv_at mX8_setUp 66 mX8_isLink 2 := ⟨tw_745, mv_X8_isLink, ⟨by decide +kernel, by decide +kernel⟩⟩
theorem st_X8_setUp_62 : ss_at mX8_setUp 62 mX8_linkAt 3 := ⟨tw_749, ms_X8_linkAt, ⟨by decide +kernel, by decide +kernel⟩⟩
theorem st_X8_setUp_77 : sv_at mX8_setUp 77 mX8_sets 4 := ⟨tw_752, mv_X8_sets, ⟨by decide +kernel, by decide +kernel⟩⟩
theorem st_X8_link_74 : sv_at mX8_link 74 mX8_arePair 2 := ⟨tw_737, mv_X8_arePair, ⟨by decide +kernel, by decide +kernel⟩⟩
theorem st_X8_link_54 : ss_at mX8_link 54 mX8_in 3 := ⟨tw_730, ms_X8_in, ⟨by decide +kernel, by decide +kernel⟩⟩
theorem st_X8_link_66 : sv_at mX8_link 66 mX8_isLink 2 := ⟨tw_745, mv_X8_isLink, ⟨by decide +kernel, by decide +kernel⟩⟩
theorem st_X8_link_62 : ss_at mX8_link 62 mX8_linkAt 3 := ⟨tw_749, ms_X8_linkAt, ⟨by decide +kernel, by decide +kernel⟩⟩
theorem st_X8_set_54 : ss_at mX8_set 54 mX8_in 3 := ⟨tw_730, ms_X8_in, ⟨by decide +kernel, by decide +kernel⟩⟩
theorem st_X8_of_81 : ss_at mX8_of 81 mX8_entryAt 4 := ⟨tw_809, ms_X8_entryAt, ⟨by decide +kernel, by decide +kernel⟩⟩
theorem st_X8_isEntry_85 : sv_at mX8_isEntry 85 mX8_of 4 := ⟨tw_805, mv_X8_of, ⟨by decide +kernel, by decide +kernel⟩⟩
theorem st_X8_isUsable_88 : sv_at mX8_isUsable 88 mX8_isEntry 3 := ⟨tw_801, mv_X8_isEntry, ⟨by decide +kernel, by decide +kernel⟩⟩
theorem st_X8_isUsable_85 : sv_at mX8_isUsable 85 mX8_of 4 := ⟨tw_805, mv_X8_of, ⟨by decide +kernel, by decide +kernel⟩⟩
theorem st_X8_isUsable_91 : sv_at mX8_isUsable 91 mX8_areNear 2 := ⟨tw_812, mv_X8_areNear, ⟨by decide +kernel, by decide +kernel⟩⟩
theorem st_X8_least_94 : sv_at mX8_least 94 mX8_isUsable 3 := ⟨tw_797, mv_X8_isUsable, ⟨by decide +kernel, by decide +kernel⟩⟩
theorem st_X8_least_85 : sv_at mX8_least 85 mX8_of 4 := ⟨tw_805, mv_X8_of, ⟨by decide +kernel, by decide +kernel⟩⟩
theorem st_X8_boundOf_97 : sv_at mX8_boundOf 97 mX8_least 4 := ⟨tw_793, mv_X8_least, ⟨by decide +kernel, by decide +kernel⟩⟩
theorem st_X8_weight_85 : sv_at mX8_weight 85 mX8_of 4 := ⟨tw_805, mv_X8_of, ⟨by decide +kernel, by decide +kernel⟩⟩
theorem st_X8_weight_97 : sv_at mX8_weight 97 mX8_least 4 := ⟨tw_793, mv_X8_least, ⟨by decide +kernel, by decide +kernel⟩⟩
theorem st_X8_choiceOf_94 : sv_at mX8_choiceOf 94 mX8_isUsable 3 := ⟨tw_797, mv_X8_isUsable, ⟨by decide +kernel, by decide +kernel⟩⟩
theorem st_X8_choiceOf_100 : sv_at mX8_choiceOf 100 mX8_weight 4 := ⟨tw_820, mv_X8_weight, ⟨by decide +kernel, by decide +kernel⟩⟩
theorem st_X8_isDominated_94 : sv_at mX8_isDominated 94 mX8_isUsable 3 := ⟨tw_797, mv_X8_isUsable, ⟨by decide +kernel, by decide +kernel⟩⟩
theorem st_X8_isDominated_85 : sv_at mX8_isDominated 85 mX8_of 4 := ⟨tw_805, mv_X8_of, ⟨by decide +kernel, by decide +kernel⟩⟩
theorem st_X8_looks_104 : sv_at mX8_looks 104 mX8_boundOf 3 := ⟨tw_789, mv_X8_boundOf, ⟨by decide +kernel, by decide +kernel⟩⟩
theorem st_X8_looks_107 : sv_at mX8_looks 107 mX8_choiceOf 2 := ⟨tw_816, mv_X8_choiceOf, ⟨by decide +kernel, by decide +kernel⟩⟩
theorem st_X8_isNew_111 : ss_at mX8_isNew 111 mX8_sentAt 2 := ⟨tw_828, ms_X8_sentAt, ⟨by decide +kernel, by decide +kernel⟩⟩
theorem st_X8_keepsSent_111 : ss_at mX8_keepsSent 111 mX8_sentAt 2 := ⟨tw_828, ms_X8_sentAt, ⟨by decide +kernel, by decide +kernel⟩⟩
theorem st_X8_receives_81 : ss_at mX8_receives 81 mX8_entryAt 4 := ⟨tw_809, ms_X8_entryAt, ⟨by decide +kernel, by decide +kernel⟩⟩
theorem st_X8_receives_62 : ss_at mX8_receives 62 mX8_linkAt 3 := ⟨tw_749, ms_X8_linkAt, ⟨by decide +kernel, by decide +kernel⟩⟩
theorem st_X8_receives_114 : ss_at mX8_receives 114 mX8_limited 2 := ⟨tw_839, ms_X8_limited, ⟨by decide +kernel, by decide +kernel⟩⟩
theorem st_X8_sendsAll_91 : sv_at mX8_sendsAll 91 mX8_areNear 2 := ⟨tw_812, mv_X8_areNear, ⟨by decide +kernel, by decide +kernel⟩⟩
theorem st_X8_sendsAll_117 : sv_at mX8_sendsAll 117 mX8_receives 4 := ⟨tw_835, mv_X8_receives, ⟨by decide +kernel, by decide +kernel⟩⟩
theorem st_X8_tick_124 : sv_at mX8_tick 124 mX8_looks 0 := ⟨tw_785, mv_X8_looks, ⟨by decide +kernel, by decide +kernel⟩⟩
theorem st_X8_tick_127 : sv_at mX8_tick 127 mX8_isNew 1 := ⟨tw_824, mv_X8_isNew, ⟨by decide +kernel, by decide +kernel⟩⟩
theorem st_X8_tick_130 : sv_at mX8_tick 130 mX8_sendsAll 1 := ⟨tw_831, mv_X8_sendsAll, ⟨by decide +kernel, by decide +kernel⟩⟩
theorem st_X8_tick_134 : sv_at mX8_tick 134 mX8_keepsSent 1 := ⟨tw_842, mv_X8_keepsSent, ⟨by decide +kernel, by decide +kernel⟩⟩
theorem st_X8_tick_107 : sv_at mX8_tick 107 mX8_choiceOf 2 := ⟨tw_816, mv_X8_choiceOf, ⟨by decide +kernel, by decide +kernel⟩⟩
theorem st_X8_tick_137 : sv_at mX8_tick 137 mX8_notes 3 := ⟨tw_846, mv_X8_notes, ⟨by decide +kernel, by decide +kernel⟩⟩
theorem st_X8_run_54 : ss_at mX8_run 54 mX8_in 3 := ⟨tw_730, ms_X8_in, ⟨by decide +kernel, by decide +kernel⟩⟩
theorem st_X8_run_142 : sv_at mX8_run 142 mX8_tick 0 := ⟨tw_781, mv_X8_tick, ⟨by decide +kernel, by decide +kernel⟩⟩
theorem st_X8_entry_74 : sv_at mX8_entry 74 mX8_arePair 2 := ⟨tw_737, mv_X8_arePair, ⟨by decide +kernel, by decide +kernel⟩⟩
theorem st_X8_entry_54 : ss_at mX8_entry 54 mX8_in 3 := ⟨tw_730, ms_X8_in, ⟨by decide +kernel, by decide +kernel⟩⟩
theorem st_X8_entry_88 : sv_at mX8_entry 88 mX8_isEntry 3 := ⟨tw_801, mv_X8_isEntry, ⟨by decide +kernel, by decide +kernel⟩⟩
theorem st_X8_entry_85 : sv_at mX8_entry 85 mX8_of 4 := ⟨tw_805, mv_X8_of, ⟨by decide +kernel, by decide +kernel⟩⟩
theorem st_X8_entry_94 : sv_at mX8_entry 94 mX8_isUsable 3 := ⟨tw_797, mv_X8_isUsable, ⟨by decide +kernel, by decide +kernel⟩⟩
theorem st_X8_entry_145 : sv_at mX8_entry 145 mX8_isDominated 3 := ⟨tw_862, mv_X8_isDominated, ⟨by decide +kernel, by decide +kernel⟩⟩
theorem st_X8_distance_58 : sv_at mX8_distance 58 mX8_isNode 1 := ⟨tw_741, mv_X8_isNode, ⟨by decide +kernel, by decide +kernel⟩⟩
theorem st_X8_distance_54 : ss_at mX8_distance 54 mX8_in 3 := ⟨tw_730, ms_X8_in, ⟨by decide +kernel, by decide +kernel⟩⟩
theorem st_X8_distance_104 : sv_at mX8_distance 104 mX8_boundOf 3 := ⟨tw_789, mv_X8_boundOf, ⟨by decide +kernel, by decide +kernel⟩⟩
theorem st_X8_choice_74 : sv_at mX8_choice 74 mX8_arePair 2 := ⟨tw_737, mv_X8_arePair, ⟨by decide +kernel, by decide +kernel⟩⟩
theorem st_X8_choice_107 : sv_at mX8_choice 107 mX8_choiceOf 2 := ⟨tw_816, mv_X8_choiceOf, ⟨by decide +kernel, by decide +kernel⟩⟩
theorem st_X8_entries_74 : sv_at mX8_entries 74 mX8_arePair 2 := ⟨tw_737, mv_X8_arePair, ⟨by decide +kernel, by decide +kernel⟩⟩
theorem st_X8_entries_54 : ss_at mX8_entries 54 mX8_in 3 := ⟨tw_730, ms_X8_in, ⟨by decide +kernel, by decide +kernel⟩⟩
theorem st_X8_entries_88 : sv_at mX8_entries 88 mX8_isEntry 3 := ⟨tw_801, mv_X8_isEntry, ⟨by decide +kernel, by decide +kernel⟩⟩
theorem st_X8_entries_94 : sv_at mX8_entries 94 mX8_isUsable 3 := ⟨tw_797, mv_X8_isUsable, ⟨by decide +kernel, by decide +kernel⟩⟩
theorem st_X8_entries_145 : sv_at mX8_entries 145 mX8_isDominated 3 := ⟨tw_862, mv_X8_isDominated, ⟨by decide +kernel, by decide +kernel⟩⟩
theorem st_X8_entries_85 : sv_at mX8_entries 85 mX8_of 4 := ⟨tw_805, mv_X8_of, ⟨by decide +kernel, by decide +kernel⟩⟩
theorem st_X8_meanWidthBits_74 : sv_at mX8_meanWidthBits 74 mX8_arePair 2 := ⟨tw_737, mv_X8_arePair, ⟨by decide +kernel, by decide +kernel⟩⟩
theorem st_X8_meanWidthBits_104 : sv_at mX8_meanWidthBits 104 mX8_boundOf 3 := ⟨tw_789, mv_X8_boundOf, ⟨by decide +kernel, by decide +kernel⟩⟩
theorem st_X8_meanWidthBits_148 : ss_at mX8_meanWidthBits 148 mJxf58ca_floatToIntBits_5c35a 1 := ⟨tw_882, ms_Jxf58ca_floatToIntBits_5c35a, ⟨by decide +kernel, by decide +kernel⟩⟩
theorem st_X8_journal_54 : ss_at mX8_journal 54 mX8_in 3 := ⟨tw_730, ms_X8_in, ⟨by decide +kernel, by decide +kernel⟩⟩
theorem st_X8_measures_91 : sv_at mX8_measures 91 mX8_areNear 2 := ⟨tw_812, mv_X8_areNear, ⟨by decide +kernel, by decide +kernel⟩⟩
theorem st_X8_measures_62 : ss_at mX8_measures 62 mX8_linkAt 3 := ⟨tw_749, ms_X8_linkAt, ⟨by decide +kernel, by decide +kernel⟩⟩
theorem st_X8_trueDistance_58 : sv_at mX8_trueDistance 58 mX8_isNode 1 := ⟨tw_741, mv_X8_isNode, ⟨by decide +kernel, by decide +kernel⟩⟩
theorem st_X8_trueDistance_154 : sv_at mX8_trueDistance 154 mX8_measures 0 := ⟨tw_904, mv_X8_measures, ⟨by decide +kernel, by decide +kernel⟩⟩
theorem st_X8_wrongPairs_154 : sv_at mX8_wrongPairs 154 mX8_measures 0 := ⟨tw_904, mv_X8_measures, ⟨by decide +kernel, by decide +kernel⟩⟩
theorem st_X8_wrongPairs_74 : sv_at mX8_wrongPairs 74 mX8_arePair 2 := ⟨tw_737, mv_X8_arePair, ⟨by decide +kernel, by decide +kernel⟩⟩
theorem st_X8_wrongPairs_104 : sv_at mX8_wrongPairs 104 mX8_boundOf 3 := ⟨tw_789, mv_X8_boundOf, ⟨by decide +kernel, by decide +kernel⟩⟩
theorem st_X8_wrongPairs_54 : ss_at mX8_wrongPairs 54 mX8_in 3 := ⟨tw_730, ms_X8_in, ⟨by decide +kernel, by decide +kernel⟩⟩
theorem st_X8_follows_107 : sv_at mX8_follows 107 mX8_choiceOf 2 := ⟨tw_816, mv_X8_choiceOf, ⟨by decide +kernel, by decide +kernel⟩⟩
theorem st_X8_follow_74 : sv_at mX8_follow 74 mX8_arePair 2 := ⟨tw_737, mv_X8_arePair, ⟨by decide +kernel, by decide +kernel⟩⟩
theorem st_X8_follow_157 : sv_at mX8_follow 157 mX8_follows 2 := ⟨tw_916, mv_X8_follows, ⟨by decide +kernel, by decide +kernel⟩⟩
theorem st_X8_loops_74 : sv_at mX8_loops 74 mX8_arePair 2 := ⟨tw_737, mv_X8_arePair, ⟨by decide +kernel, by decide +kernel⟩⟩
theorem st_X8_loops_157 : sv_at mX8_loops 157 mX8_follows 2 := ⟨tw_916, mv_X8_follows, ⟨by decide +kernel, by decide +kernel⟩⟩
theorem st_X8_loops_54 : ss_at mX8_loops 54 mX8_in 3 := ⟨tw_730, ms_X8_in, ⟨by decide +kernel, by decide +kernel⟩⟩
theorem st_X8_settling_160 : sv_at mX8_settling 160 mX8_putsAside 0 := ⟨tw_928, mv_X8_putsAside, ⟨by decide +kernel, by decide +kernel⟩⟩
theorem st_X8_settling_142 : sv_at mX8_settling 142 mX8_tick 0 := ⟨tw_781, mv_X8_tick, ⟨by decide +kernel, by decide +kernel⟩⟩
theorem st_X8_settling_163 : sv_at mX8_settling 163 mX8_putsBack 0 := ⟨tw_932, mv_X8_putsBack, ⟨by decide +kernel, by decide +kernel⟩⟩
theorem st_X8_pairs_154 : sv_at mX8_pairs 154 mX8_measures 0 := ⟨tw_904, mv_X8_measures, ⟨by decide +kernel, by decide +kernel⟩⟩
theorem st_X8_pairs_74 : sv_at mX8_pairs 74 mX8_arePair 2 := ⟨tw_737, mv_X8_arePair, ⟨by decide +kernel, by decide +kernel⟩⟩
theorem st_X8_loss_74 : sv_at mX8_loss 74 mX8_arePair 2 := ⟨tw_737, mv_X8_arePair, ⟨by decide +kernel, by decide +kernel⟩⟩
theorem st_X8_loss_66 : sv_at mX8_loss 66 mX8_isLink 2 := ⟨tw_745, mv_X8_isLink, ⟨by decide +kernel, by decide +kernel⟩⟩
theorem st_X8_loss_166 : sv_at mX8_loss 166 mX8_pairs 0 := ⟨tw_940, mv_X8_pairs, ⟨by decide +kernel, by decide +kernel⟩⟩
theorem st_X8_loss_62 : ss_at mX8_loss 62 mX8_linkAt 3 := ⟨tw_749, ms_X8_linkAt, ⟨by decide +kernel, by decide +kernel⟩⟩
theorem st_X8_loss_77 : sv_at mX8_loss 77 mX8_sets 4 := ⟨tw_752, mv_X8_sets, ⟨by decide +kernel, by decide +kernel⟩⟩
theorem st_X8_recovery_74 : sv_at mX8_recovery 74 mX8_arePair 2 := ⟨tw_737, mv_X8_arePair, ⟨by decide +kernel, by decide +kernel⟩⟩
theorem st_X8_recovery_66 : sv_at mX8_recovery 66 mX8_isLink 2 := ⟨tw_745, mv_X8_isLink, ⟨by decide +kernel, by decide +kernel⟩⟩
theorem st_X8_recovery_62 : ss_at mX8_recovery 62 mX8_linkAt 3 := ⟨tw_749, ms_X8_linkAt, ⟨by decide +kernel, by decide +kernel⟩⟩
theorem st_X8_recovery_160 : sv_at mX8_recovery 160 mX8_putsAside 0 := ⟨tw_928, mv_X8_putsAside, ⟨by decide +kernel, by decide +kernel⟩⟩
theorem st_X8_recovery_77 : sv_at mX8_recovery 77 mX8_sets 4 := ⟨tw_752, mv_X8_sets, ⟨by decide +kernel, by decide +kernel⟩⟩
theorem st_X8_recovery_142 : sv_at mX8_recovery 142 mX8_tick 0 := ⟨tw_781, mv_X8_tick, ⟨by decide +kernel, by decide +kernel⟩⟩
theorem st_X8_recovery_170 : sv_at mX8_recovery 170 mX8_loops 0 := ⟨tw_948, mv_X8_loops, ⟨by decide +kernel, by decide +kernel⟩⟩
theorem st_X8_recovery_163 : sv_at mX8_recovery 163 mX8_putsBack 0 := ⟨tw_932, mv_X8_putsBack, ⟨by decide +kernel, by decide +kernel⟩⟩
theorem st_Jxf58ca_floatToIntBits_5c35a_59 : ss_at mJxf58ca_floatToIntBits_5c35a 59 mJxf58ca_isNaN_12338 1 := ⟨tw_885, ms_Jxf58ca_isNaN_12338, ⟨by decide +kernel, by decide +kernel⟩⟩
theorem rl_X0_add : rl_ok 15 mX0_add := ⟨by decide, _, _, _, _, rfl, rfl, rfl⟩
theorem rl_X0_clear : rl_ok 15 mX0_clear := ⟨by decide, _, _, _, _, rfl, rfl, rfl⟩
theorem rl_X0_copyFrom : rl_ok 15 mX0_copyFrom := ⟨by decide, _, _, _, _, rfl, rfl, rfl⟩
theorem rl_X0_size : rl_ok 15 mX0_size := ⟨by decide, _, _, _, _, rfl, rfl, rfl⟩
theorem rl_X0_value : rl_ok 15 mX0_value := ⟨by decide, _, _, _, _, rfl, rfl, rfl⟩
theorem rl_X1_clear : rl_ok 1 mX1_clear := ⟨by decide, _, _, _, _, rfl, rfl, rfl⟩
theorem rl_X1_copyFrom : rl_ok 1 mX1_copyFrom := ⟨by decide, _, _, _, _, rfl, rfl, rfl⟩
theorem rl_X1_delete : rl_ok 1 mX1_delete := ⟨by decide, _, _, _, _, rfl, rfl, rfl⟩
theorem rl_X1_insert : rl_ok 1 mX1_insert := ⟨by decide, _, _, _, _, rfl, rfl, rfl⟩
theorem rl_X1_isUp : rl_ok 1 mX1_isUp := ⟨by decide, _, _, _, _, rfl, rfl, rfl⟩
theorem rl_X1_joins : rl_ok 1 mX1_joins := ⟨by decide, _, _, _, _, rfl, rfl, rfl⟩
theorem rl_X1_putBounds : rl_ok 1 mX1_putBounds := ⟨by decide, _, _, _, _, rfl, rfl, rfl⟩
theorem rl_X1_putCost : rl_ok 1 mX1_putCost := ⟨by decide, _, _, _, _, rfl, rfl, rfl⟩
theorem rl_X1_putUp : rl_ok 1 mX1_putUp := ⟨by decide, _, _, _, _, rfl, rfl, rfl⟩
theorem rl_X2_copyFrom : rl_ok 0 mX2_copyFrom := ⟨by decide, _, _, _, _, rfl, rfl, rfl⟩
theorem rl_X2_isDominated : rl_ok 0 mX2_isDominated := ⟨by decide, _, _, _, _, rfl, rfl, rfl⟩
theorem rl_X2_isUsable : rl_ok 0 mX2_isUsable := ⟨by decide, _, _, _, _, rfl, rfl, rfl⟩
theorem rl_X2_startAnew : rl_ok 0 mX2_startAnew := ⟨by decide, _, _, _, _, rfl, rfl, rfl⟩
theorem rl_X3_choose : rl_ok 20 mX3_choose := ⟨by decide, _, _, _, _, rfl, rfl, rfl⟩
theorem rl_X3_countLoops : rl_ok 20 mX3_countLoops := ⟨by decide, _, _, _, _, rfl, rfl, rfl⟩
theorem rl_X3_findNeighbours : rl_ok 20 mX3_findNeighbours := ⟨by decide, _, _, _, _, rfl, rfl, rfl⟩
theorem rl_X3_gather : rl_ok 20 mX3_gather := ⟨by decide, _, _, _, _, rfl, rfl, rfl⟩
theorem rl_X3_isBetter : rl_ok 20 mX3_isBetter := ⟨by decide, _, _, _, _, rfl, rfl, rfl⟩
theorem rl_X3_look : rl_ok 20 mX3_look := ⟨by decide, _, _, _, _, rfl, rfl, rfl⟩
theorem rl_X3_putDistance : rl_ok 20 mX3_putDistance := ⟨by decide, _, _, _, _, rfl, rfl, rfl⟩
theorem rl_X3_rankAll : rl_ok 20 mX3_rankAll := ⟨by decide, _, _, _, _, rfl, rfl, rfl⟩
theorem rl_X3_reaches : rl_ok 20 mX3_reaches := ⟨by decide, _, _, _, _, rfl, rfl, rfl⟩
theorem rl_X3_regret : rl_ok 20 mX3_regret := ⟨by decide, _, _, _, _, rfl, rfl, rfl⟩
theorem rl_X3_take : rl_ok 20 mX3_take := ⟨by decide, _, _, _, _, rfl, rfl, rfl⟩
theorem rl_X3_takeOne : rl_ok 20 mX3_takeOne := ⟨by decide, _, _, _, _, rfl, rfl, rfl⟩
theorem rl_X3_walk : rl_ok 20 mX3_walk := ⟨by decide, _, _, _, _, rfl, rfl, rfl⟩
theorem rl_X4_clear : rl_ok 6 mX4_clear := ⟨by decide, _, _, _, _, rfl, rfl, rfl⟩
theorem rl_X4_copyFrom : rl_ok 6 mX4_copyFrom := ⟨by decide, _, _, _, _, rfl, rfl, rfl⟩
theorem rl_X4_countGrowth : rl_ok 6 mX4_countGrowth := ⟨by decide, _, _, _, _, rfl, rfl, rfl⟩
theorem rl_X4_dominates : rl_ok 6 mX4_dominates := ⟨by decide, _, _, _, _, rfl, rfl, rfl⟩
theorem rl_X4_has : rl_ok 6 mX4_has := ⟨by decide, _, _, _, _, rfl, rfl, rfl⟩
theorem rl_X4_isOpen : rl_ok 6 mX4_isOpen := ⟨by decide, _, _, _, _, rfl, rfl, rfl⟩
theorem rl_X4_receive : rl_ok 6 mX4_receive := ⟨by decide, _, _, _, _, rfl, rfl, rfl⟩
theorem rl_X5_clear : rl_ok 12 mX5_clear := ⟨by decide, _, _, _, _, rfl, rfl, rfl⟩
theorem rl_X5_copyFrom : rl_ok 12 mX5_copyFrom := ⟨by decide, _, _, _, _, rfl, rfl, rfl⟩
theorem rl_X5_differs : rl_ok 12 mX5_differs := ⟨by decide, _, _, _, _, rfl, rfl, rfl⟩
theorem rl_X5_keep : rl_ok 12 mX5_keep := ⟨by decide, _, _, _, _, rfl, rfl, rfl⟩
theorem rl_X6_countPairs : rl_ok 30 mX6_countPairs := ⟨by decide, _, _, _, _, rfl, rfl, rfl⟩
theorem rl_X6_exists : rl_ok 30 mX6_exists := ⟨by decide, _, _, _, _, rfl, rfl, rfl⟩
theorem rl_X6_measure : rl_ok 30 mX6_measure := ⟨by decide, _, _, _, _, rfl, rfl, rfl⟩
theorem rl_X6_shorten : rl_ok 30 mX6_shorten := ⟨by decide, _, _, _, _, rfl, rfl, rfl⟩
theorem rl_X7_addLink : rl_ok 18 mX7_addLink := ⟨by decide, _, _, _, _, rfl, rfl, rfl⟩
theorem rl_X7_announce : rl_ok 18 mX7_announce := ⟨by decide, _, _, _, _, rfl, rfl, rfl⟩
theorem rl_X7_choice : rl_ok 18 mX7_choice := ⟨by decide, _, _, _, _, rfl, rfl, rfl⟩
theorem rl_X7_chooseSpeakers : rl_ok 18 mX7_chooseSpeakers := ⟨by decide, _, _, _, _, rfl, rfl, rfl⟩
theorem rl_X7_counts : rl_ok 18 mX7_counts := ⟨by decide, _, _, _, _, rfl, rfl, rfl⟩
theorem rl_X7_distance : rl_ok 18 mX7_distance := ⟨by decide, _, _, _, _, rfl, rfl, rfl⟩
theorem rl_X7_entries : rl_ok 18 mX7_entries := ⟨by decide, _, _, _, _, rfl, rfl, rfl⟩
theorem rl_X7_entry : rl_ok 18 mX7_entry := ⟨by decide, _, _, _, _, rfl, rfl, rfl⟩
theorem rl_X7_follow : rl_ok 18 mX7_follow := ⟨by decide, _, _, _, _, rfl, rfl, rfl⟩
theorem rl_X7_isDue : rl_ok 18 mX7_isDue := ⟨by decide, _, _, _, _, rfl, rfl, rfl⟩
theorem rl_X7_isNode : rl_ok 18 mX7_isNode := ⟨by decide, _, _, _, _, rfl, rfl, rfl⟩
theorem rl_X7_isPair : rl_ok 18 mX7_isPair := ⟨by decide, _, _, _, _, rfl, rfl, rfl⟩
theorem rl_X7_isWrong : rl_ok 18 mX7_isWrong := ⟨by decide, _, _, _, _, rfl, rfl, rfl⟩
theorem rl_X7_journal : rl_ok 18 mX7_journal := ⟨by decide, _, _, _, _, rfl, rfl, rfl⟩
theorem rl_X7_journalSize : rl_ok 18 mX7_journalSize := ⟨by decide, _, _, _, _, rfl, rfl, rfl⟩
theorem rl_X7_link : rl_ok 18 mX7_link := ⟨by decide, _, _, _, _, rfl, rfl, rfl⟩
theorem rl_X7_loops : rl_ok 18 mX7_loops := ⟨by decide, _, _, _, _, rfl, rfl, rfl⟩
theorem rl_X7_loss : rl_ok 18 mX7_loss := ⟨by decide, _, _, _, _, rfl, rfl, rfl⟩
theorem rl_X7_makeTick : rl_ok 18 mX7_makeTick := ⟨by decide, _, _, _, _, rfl, rfl, rfl⟩
theorem rl_X7_meanWidthBits : rl_ok 18 mX7_meanWidthBits := ⟨by decide, _, _, _, _, rfl, rfl, rfl⟩
theorem rl_X7_noteChanges : rl_ok 18 mX7_noteChanges := ⟨by decide, _, _, _, _, rfl, rfl, rfl⟩
theorem rl_X7_recall : rl_ok 18 mX7_recall := ⟨by decide, _, _, _, _, rfl, rfl, rfl⟩
theorem rl_X7_recovery : rl_ok 18 mX7_recovery := ⟨by decide, _, _, _, _, rfl, rfl, rfl⟩
theorem rl_X7_removeLink : rl_ok 18 mX7_removeLink := ⟨by decide, _, _, _, _, rfl, rfl, rfl⟩
theorem rl_X7_reset : rl_ok 18 mX7_reset := ⟨by decide, _, _, _, _, rfl, rfl, rfl⟩
theorem rl_X7_run : rl_ok 18 mX7_run := ⟨by decide, _, _, _, _, rfl, rfl, rfl⟩
theorem rl_X7_sent : rl_ok 18 mX7_sent := ⟨by decide, _, _, _, _, rfl, rfl, rfl⟩
theorem rl_X7_set : rl_ok 18 mX7_set := ⟨by decide, _, _, _, _, rfl, rfl, rfl⟩
theorem rl_X7_setCost : rl_ok 18 mX7_setCost := ⟨by decide, _, _, _, _, rfl, rfl, rfl⟩
theorem rl_X7_setUp : rl_ok 18 mX7_setUp := ⟨by decide, _, _, _, _, rfl, rfl, rfl⟩
theorem rl_X7_settling : rl_ok 18 mX7_settling := ⟨by decide, _, _, _, _, rfl, rfl, rfl⟩
theorem rl_X7_speak : rl_ok 18 mX7_speak := ⟨by decide, _, _, _, _, rfl, rfl, rfl⟩
theorem rl_X7_store : rl_ok 18 mX7_store := ⟨by decide, _, _, _, _, rfl, rfl, rfl⟩
theorem rl_X7_time : rl_ok 18 mX7_time := ⟨by decide, _, _, _, _, rfl, rfl, rfl⟩
theorem rl_X7_trueDistance : rl_ok 18 mX7_trueDistance := ⟨by decide, _, _, _, _, rfl, rfl, rfl⟩
theorem rl_X7_wrongPairs : rl_ok 18 mX7_wrongPairs := ⟨by decide, _, _, _, _, rfl, rfl, rfl⟩
theorem rl_X8_addLink : rl_ok 33 mX8_addLink := ⟨by decide, _, _, _, _, rfl, rfl, rfl⟩
theorem rl_X8_areNear : rl_ok 33 mX8_areNear := ⟨by decide, _, _, _, _, rfl, rfl, rfl⟩
theorem rl_X8_arePair : rl_ok 33 mX8_arePair := ⟨by decide, _, _, _, _, rfl, rfl, rfl⟩
theorem rl_X8_begins : rl_ok 33 mX8_begins := ⟨by decide, _, _, _, _, rfl, rfl, rfl⟩
theorem rl_X8_boundOf : rl_ok 33 mX8_boundOf := ⟨by decide, _, _, _, _, rfl, rfl, rfl⟩
theorem rl_X8_choice : rl_ok 33 mX8_choice := ⟨by decide, _, _, _, _, rfl, rfl, rfl⟩
theorem rl_X8_choiceOf : rl_ok 33 mX8_choiceOf := ⟨by decide, _, _, _, _, rfl, rfl, rfl⟩
theorem rl_X8_distance : rl_ok 33 mX8_distance := ⟨by decide, _, _, _, _, rfl, rfl, rfl⟩
theorem rl_X8_entries : rl_ok 33 mX8_entries := ⟨by decide, _, _, _, _, rfl, rfl, rfl⟩
theorem rl_X8_entry : rl_ok 33 mX8_entry := ⟨by decide, _, _, _, _, rfl, rfl, rfl⟩
theorem rl_X8_follow : rl_ok 33 mX8_follow := ⟨by decide, _, _, _, _, rfl, rfl, rfl⟩
theorem rl_X8_follows : rl_ok 33 mX8_follows := ⟨by decide, _, _, _, _, rfl, rfl, rfl⟩
theorem rl_X8_isDominated : rl_ok 33 mX8_isDominated := ⟨by decide, _, _, _, _, rfl, rfl, rfl⟩
theorem rl_X8_isEntry : rl_ok 33 mX8_isEntry := ⟨by decide, _, _, _, _, rfl, rfl, rfl⟩
theorem rl_X8_isLink : rl_ok 33 mX8_isLink := ⟨by decide, _, _, _, _, rfl, rfl, rfl⟩
theorem rl_X8_isNew : rl_ok 33 mX8_isNew := ⟨by decide, _, _, _, _, rfl, rfl, rfl⟩
theorem rl_X8_isNode : rl_ok 33 mX8_isNode := ⟨by decide, _, _, _, _, rfl, rfl, rfl⟩
theorem rl_X8_isUsable : rl_ok 33 mX8_isUsable := ⟨by decide, _, _, _, _, rfl, rfl, rfl⟩
theorem rl_X8_journal : rl_ok 33 mX8_journal := ⟨by decide, _, _, _, _, rfl, rfl, rfl⟩
theorem rl_X8_journalSize : rl_ok 33 mX8_journalSize := ⟨by decide, _, _, _, _, rfl, rfl, rfl⟩
theorem rl_X8_keepsSent : rl_ok 33 mX8_keepsSent := ⟨by decide, _, _, _, _, rfl, rfl, rfl⟩
theorem rl_X8_least : rl_ok 33 mX8_least := ⟨by decide, _, _, _, _, rfl, rfl, rfl⟩
theorem rl_X8_link : rl_ok 33 mX8_link := ⟨by decide, _, _, _, _, rfl, rfl, rfl⟩
theorem rl_X8_looks : rl_ok 33 mX8_looks := ⟨by decide, _, _, _, _, rfl, rfl, rfl⟩
theorem rl_X8_loops : rl_ok 33 mX8_loops := ⟨by decide, _, _, _, _, rfl, rfl, rfl⟩
theorem rl_X8_loss : rl_ok 33 mX8_loss := ⟨by decide, _, _, _, _, rfl, rfl, rfl⟩
theorem rl_X8_meanWidthBits : rl_ok 33 mX8_meanWidthBits := ⟨by decide, _, _, _, _, rfl, rfl, rfl⟩
theorem rl_X8_measures : rl_ok 33 mX8_measures := ⟨by decide, _, _, _, _, rfl, rfl, rfl⟩
theorem rl_X8_notes : rl_ok 33 mX8_notes := ⟨by decide, _, _, _, _, rfl, rfl, rfl⟩
theorem rl_X8_of : rl_ok 33 mX8_of := ⟨by decide, _, _, _, _, rfl, rfl, rfl⟩
theorem rl_X8_pairs : rl_ok 33 mX8_pairs := ⟨by decide, _, _, _, _, rfl, rfl, rfl⟩
theorem rl_X8_putsAside : rl_ok 33 mX8_putsAside := ⟨by decide, _, _, _, _, rfl, rfl, rfl⟩
theorem rl_X8_putsBack : rl_ok 33 mX8_putsBack := ⟨by decide, _, _, _, _, rfl, rfl, rfl⟩
theorem rl_X8_recall : rl_ok 33 mX8_recall := ⟨by decide, _, _, _, _, rfl, rfl, rfl⟩
theorem rl_X8_receives : rl_ok 33 mX8_receives := ⟨by decide, _, _, _, _, rfl, rfl, rfl⟩
theorem rl_X8_recovery : rl_ok 33 mX8_recovery := ⟨by decide, _, _, _, _, rfl, rfl, rfl⟩
theorem rl_X8_removeLink : rl_ok 33 mX8_removeLink := ⟨by decide, _, _, _, _, rfl, rfl, rfl⟩
theorem rl_X8_reset : rl_ok 33 mX8_reset := ⟨by decide, _, _, _, _, rfl, rfl, rfl⟩
theorem rl_X8_run : rl_ok 33 mX8_run := ⟨by decide, _, _, _, _, rfl, rfl, rfl⟩
theorem rl_X8_sendsAll : rl_ok 33 mX8_sendsAll := ⟨by decide, _, _, _, _, rfl, rfl, rfl⟩
theorem rl_X8_sent : rl_ok 33 mX8_sent := ⟨by decide, _, _, _, _, rfl, rfl, rfl⟩
theorem rl_X8_set : rl_ok 33 mX8_set := ⟨by decide, _, _, _, _, rfl, rfl, rfl⟩
theorem rl_X8_setCost : rl_ok 33 mX8_setCost := ⟨by decide, _, _, _, _, rfl, rfl, rfl⟩
theorem rl_X8_setUp : rl_ok 33 mX8_setUp := ⟨by decide, _, _, _, _, rfl, rfl, rfl⟩
theorem rl_X8_sets : rl_ok 33 mX8_sets := ⟨by decide, _, _, _, _, rfl, rfl, rfl⟩
theorem rl_X8_settling : rl_ok 33 mX8_settling := ⟨by decide, _, _, _, _, rfl, rfl, rfl⟩
theorem rl_X8_store : rl_ok 33 mX8_store := ⟨by decide, _, _, _, _, rfl, rfl, rfl⟩
theorem rl_X8_tick : rl_ok 33 mX8_tick := ⟨by decide, _, _, _, _, rfl, rfl, rfl⟩
theorem rl_X8_time : rl_ok 33 mX8_time := ⟨by decide, _, _, _, _, rfl, rfl, rfl⟩
theorem rl_X8_trueDistance : rl_ok 33 mX8_trueDistance := ⟨by decide, _, _, _, _, rfl, rfl, rfl⟩
theorem rl_X8_weight : rl_ok 33 mX8_weight := ⟨by decide, _, _, _, _, rfl, rfl, rfl⟩
theorem rl_X8_wrongPairs : rl_ok 33 mX8_wrongPairs := ⟨by decide, _, _, _, _, rfl, rfl, rfl⟩
theorem ft_2_0 : ∀ (C : String) (T : u_T) (N : Nat), vwCl[(2 : Nat)]? = some (C, T, N) → (T 0).2.2.2 = false ∧ parseFieldDescriptor (T 0).2.2.1 = some FieldType.int := by
  intro C T N h
  cases h
  exact ⟨rfl, by decide +kernel⟩
theorem ft_2_1 : ∀ (C : String) (T : u_T) (N : Nat), vwCl[(2 : Nat)]? = some (C, T, N) → (T 1).2.2.2 = false ∧ parseFieldDescriptor (T 1).2.2.1 = some FieldType.int := by
  intro C T N h
  cases h
  exact ⟨rfl, by decide +kernel⟩
theorem ft_2_2 : ∀ (C : String) (T : u_T) (N : Nat), vwCl[(2 : Nat)]? = some (C, T, N) → (T 2).2.2.2 = false ∧ parseFieldDescriptor (T 2).2.2.1 = some FieldType.int := by
  intro C T N h
  cases h
  exact ⟨rfl, by decide +kernel⟩
theorem ft_1_0 : ∀ (C : String) (T : u_T) (N : Nat), vwCl[(1 : Nat)]? = some (C, T, N) → (T 0).2.2.2 = false ∧ parseFieldDescriptor (T 0).2.2.1 = some FieldType.int := by
  intro C T N h
  cases h
  exact ⟨rfl, by decide +kernel⟩
theorem ft_0_1 : ∀ (C : String) (T : u_T) (N : Nat), vwCl[(0 : Nat)]? = some (C, T, N) → (T 1).2.2.2 = false ∧ parseFieldDescriptor (T 1).2.2.1 = some FieldType.int := by
  intro C T N h
  cases h
  exact ⟨rfl, by decide +kernel⟩
theorem ft_3_4 : ∀ (C : String) (T : u_T) (N : Nat), vwCl[(3 : Nat)]? = some (C, T, N) → (T 4).2.2.2 = false ∧ parseFieldDescriptor (T 4).2.2.1 = some FieldType.int := by
  intro C T N h
  cases h
  exact ⟨rfl, by decide +kernel⟩
theorem ft_3_10 : ∀ (C : String) (T : u_T) (N : Nat), vwCl[(3 : Nat)]? = some (C, T, N) → (T 10).2.2.2 = false ∧ parseFieldDescriptor (T 10).2.2.1 = some FieldType.int := by
  intro C T N h
  cases h
  exact ⟨rfl, by decide +kernel⟩
theorem ft_7_7 : ∀ (C : String) (T : u_T) (N : Nat), vwCl[(7 : Nat)]? = some (C, T, N) → (T 7).2.2.2 = false ∧ parseFieldDescriptor (T 7).2.2.1 = some FieldType.boolean := by
  intro C T N h
  cases h
  exact ⟨rfl, by decide +kernel⟩
theorem ft_8_0 : ∀ (C : String) (T : u_T) (N : Nat), vwCl[(8 : Nat)]? = some (C, T, N) → (T 0).2.2.2 = false ∧ parseFieldDescriptor (T 0).2.2.1 = some FieldType.int := by
  intro C T N h
  cases h
  exact ⟨rfl, by decide +kernel⟩
theorem ft_8_4 : ∀ (C : String) (T : u_T) (N : Nat), vwCl[(8 : Nat)]? = some (C, T, N) → (T 4).2.2.2 = false ∧ parseFieldDescriptor (T 4).2.2.1 = some FieldType.boolean := by
  intro C T N h
  cases h
  exact ⟨rfl, by decide +kernel⟩
theorem ft_8_14 : ∀ (C : String) (T : u_T) (N : Nat), vwCl[(8 : Nat)]? = some (C, T, N) → (T 14).2.2.2 = false ∧ parseFieldDescriptor (T 14).2.2.1 = some FieldType.int := by
  intro C T N h
  cases h
  exact ⟨rfl, by decide +kernel⟩
end
section
/-! class, leaves: written by wip/whole/m1.py -/
theorem i_lt {a b : Int32} : a < b ↔ a.toInt < b.toInt := Int32.lt_iff_toInt_lt

set_option maxRecDepth 100000 in
set_option maxHeartbeats 4000000 in
theorem c_X7_pair {PL : List (Nat × Nat)} {a b : Nat} {V : Mm_} : Cp_ PL mX7_pair [vI (nI a), vI (nI b)] V (nI (a * 8 + b)) := by
  refine Ca_.of ms_X7_pair.2.2.2.2.2 0 (lo := [some (vI (nI a)), some (vI (nI b))]) rfl (Nat.le_of_ble_eq_true rfl) ?_
  refine r_iload_n (pc2 := 1) dX7_pair_0 rfl rfl ?_
  refine r_bipush (pc2 := 3) (nI 8) dX7_pair_1 (by decide) rfl ?_
  refine r_imulN (pc2 := 4) dX7_pair_3 rfl ?_
  refine r_iload_n (pc2 := 5) dX7_pair_4 rfl rfl ?_
  refine r_iaddN (pc2 := 6) dX7_pair_5 rfl ?_
  exact r_iret dX7_pair_6 rfl (⟨rfl, rfl⟩)

set_option maxRecDepth 100000 in
set_option maxHeartbeats 4000000 in
theorem c_X7_slot {PL : List (Nat × Nat)} {a b c : Nat} {V : Mm_} : Cp_ PL mX7_slot [vI (nI a), vI (nI b), vI (nI c)] V (nI ((a * 8 + b) * 8 + c)) := by
  refine Ca_.of ms_X7_slot.2.2.2.2.2 0 (lo := [some (vI (nI a)), some (vI (nI b)), some (vI (nI c))]) rfl (Nat.le_of_ble_eq_true rfl) ?_
  refine r_iload_n (pc2 := 1) dX7_slot_0 rfl rfl ?_
  refine r_bipush (pc2 := 3) (nI 8) dX7_slot_1 (by decide) rfl ?_
  refine r_imulN (pc2 := 4) dX7_slot_3 rfl ?_
  refine r_iload_n (pc2 := 5) dX7_slot_4 rfl rfl ?_
  refine r_iaddN (pc2 := 6) dX7_slot_5 rfl ?_
  refine r_bipush (pc2 := 8) (nI 8) dX7_slot_6 (by decide) rfl ?_
  refine r_imulN (pc2 := 9) dX7_slot_8 rfl ?_
  refine r_iload_n (pc2 := 10) dX7_slot_9 rfl rfl ?_
  refine r_iaddN (pc2 := 11) dX7_slot_10 rfl ?_
  exact r_iret dX7_slot_11 rfl (⟨rfl, rfl⟩)

set_option maxRecDepth 100000 in
set_option maxHeartbeats 4000000 in
theorem c_X7_isBetween {PL : List (Nat × Nat)} {v a b : Int32} {V : Mm_} : Cp_ PL mX7_isBetween [vI v, vI a, vI b] V (b2 (decide (a ≤ v ∧ v ≤ b))) := by
  refine Ca_.of ms_X7_isBetween.2.2.2.2.2 0 (lo := [some (vI v), some (vI a), some (vI b)]) rfl (Nat.le_of_ble_eq_true rfl) ?_
  refine r_iload_n (pc2 := 1) dX7_isBetween_0 rfl rfl ?_
  refine r_iload_n (pc2 := 2) dX7_isBetween_1 rfl rfl ?_
  refine r_ic_lt (pc2 := 5) (tgt := 14) dX7_isBetween_2 (by decide) rfl (fun c2 => ?_) (fun c2 => ?_)
  · skip
    refine r_iconst (pc2 := 15) (nI 0) dX7_isBetween_14 (by decide) rfl ?_
    exact r_zret dX7_isBetween_15 rfl (Or.inl rfl) (⟨b2_f (by simp only [Int32.lt_iff_toInt_lt, Int32.le_iff_toInt_le, ← Int32.toInt_inj, decide_eq_true_eq, decide_eq_false_iff_not] at c2 ⊢; omega), rfl⟩)
  · skip
    refine r_iload_n (pc2 := 6) dX7_isBetween_5 rfl rfl ?_
    refine r_iload_n (pc2 := 7) dX7_isBetween_6 rfl rfl ?_
    refine r_ic_gt (pc2 := 10) (tgt := 14) dX7_isBetween_7 (by decide) rfl (fun c7 => ?_) (fun c7 => ?_)
    · skip
      refine r_iconst (pc2 := 15) (nI 0) dX7_isBetween_14 (by decide) rfl ?_
      exact r_zret dX7_isBetween_15 rfl (Or.inl rfl) (⟨b2_f (by simp only [Int32.lt_iff_toInt_lt, Int32.le_iff_toInt_le, ← Int32.toInt_inj, decide_eq_true_eq, decide_eq_false_iff_not] at c2 c7 ⊢; omega), rfl⟩)
    · skip
      refine r_iconst (pc2 := 11) (nI 1) dX7_isBetween_10 (by decide) rfl ?_
      refine r_goto (pc2 := 15) dX7_isBetween_11 (by decide) ?_
      exact r_zret dX7_isBetween_15 rfl (Or.inr rfl) (⟨b2_t (by simp only [Int32.lt_iff_toInt_lt, Int32.le_iff_toInt_le, ← Int32.toInt_inj, decide_eq_true_eq, decide_eq_false_iff_not] at c2 c7 ⊢; omega), rfl⟩)

set_option maxRecDepth 100000 in
set_option maxHeartbeats 4000000 in
theorem c_X7_asNumber {PL : List (Nat × Nat)} {b : Bool} {V : Mm_} : Cp_ PL mX7_asNumber [vI (b2 b)] V (b2 b) := by
  refine Ca_.of ms_X7_asNumber.2.2.2.2.2 0 (lo := [some (vI (b2 b))]) rfl (Nat.le_of_ble_eq_true rfl) ?_
  refine r_iload_n (pc2 := 1) dX7_asNumber_0 rfl rfl ?_
  refine r_ifB_eq (pc2 := 4) (tgt := 8) dX7_asNumber_1 (by decide) rfl (fun c1 => ?_) (fun c1 => ?_)
  · skip
    refine r_iconst (pc2 := 9) (nI 0) dX7_asNumber_8 (by decide) rfl ?_
    exact r_iret dX7_asNumber_9 rfl (⟨b2_0 c1, rfl⟩)
  · skip
    refine r_iconst (pc2 := 5) (nI 1) dX7_asNumber_4 (by decide) rfl ?_
    refine r_goto (pc2 := 9) dX7_asNumber_5 (by decide) ?_
    exact r_iret dX7_asNumber_9 rfl (⟨b2_1 c1, rfl⟩)

set_option maxRecDepth 100000 in
set_option maxHeartbeats 4000000 in
theorem c_X1_joins {PL : List (Nat × Nat)} {g a b : Nat} {V : Mm_} (ha : a < 8) (hb : b < 8) : Cp_ PL mX1_joins [vR g 1, vI (nI a), vI (nI b)] V (b2 (decide (0 < V g 2 (a * 8 + b)))) := by
  refine Ca_.of mv_X1_joins.2.2.2.2.2.2 0 (lo := [some (vR g 1), some (vI (nI a)), some (vI (nI b))]) rfl (Nat.le_of_ble_eq_true rfl) ?_
  refine r_aload_n (pc2 := 1) dX1_joins_0 rfl rfl ?_
  refine r_getR (pc2 := 4) dX1_joins_1 fl_X1_9 (by decide) rfl rfl rfl ?_
  refine r_iload_n (pc2 := 5) dX1_joins_4 rfl rfl ?_
  refine r_iload_n (pc2 := 6) dX1_joins_5 rfl rfl ?_
  refine r_cn2p (pc2 := 9) dX1_joins_6 st_X1_joins_24 (Nat.le_of_ble_eq_true rfl) rfl (c_X7_pair) ?_
  refine r_iald (pc2 := 10) (j := _) dX1_joins_9 (by decide) rfl rfl (rfl) (by show _ < 64; omega) rfl ?_
  refine r_if_le (pc2 := 13) (tgt := 17) dX1_joins_10 (by decide) rfl (fun c10 => ?_) (fun c10 => ?_)
  · skip
    refine r_iconst (pc2 := 18) (nI 0) dX1_joins_17 (by decide) rfl ?_
    exact r_zret dX1_joins_18 rfl (Or.inl rfl) (⟨b2_f (by simp only [Int32.lt_iff_toInt_lt, Int32.le_iff_toInt_le, ← Int32.toInt_inj, decide_eq_true_eq, decide_eq_false_iff_not] at c10 ⊢; omega), rfl⟩)
  · skip
    refine r_iconst (pc2 := 14) (nI 1) dX1_joins_13 (by decide) rfl ?_
    refine r_goto (pc2 := 18) dX1_joins_14 (by decide) ?_
    exact r_zret dX1_joins_18 rfl (Or.inr rfl) (⟨b2_t (by simp only [Int32.lt_iff_toInt_lt, Int32.le_iff_toInt_le, ← Int32.toInt_inj, decide_eq_true_eq, decide_eq_false_iff_not] at c10 ⊢; omega), rfl⟩)

set_option maxRecDepth 100000 in
set_option maxHeartbeats 4000000 in
theorem c_X1_isUp {PL : List (Nat × Nat)} {g a b : Nat} {V : Mm_} (ha : a < 8) (hb : b < 8) : Cp_ PL mX1_isUp [vR g 1, vI (nI a), vI (nI b)] V (b2 (decide (V g 5 (a * 8 + b) = nI 1))) := by
  refine Ca_.of mv_X1_isUp.2.2.2.2.2.2 0 (lo := [some (vR g 1), some (vI (nI a)), some (vI (nI b))]) rfl (Nat.le_of_ble_eq_true rfl) ?_
  refine r_aload_n (pc2 := 1) dX1_isUp_0 rfl rfl ?_
  refine r_getR (pc2 := 4) dX1_isUp_1 fl_X1_21 (by decide) rfl rfl rfl ?_
  refine r_iload_n (pc2 := 5) dX1_isUp_4 rfl rfl ?_
  refine r_iload_n (pc2 := 6) dX1_isUp_5 rfl rfl ?_
  refine r_cn2p (pc2 := 9) dX1_isUp_6 st_X1_isUp_24 (Nat.le_of_ble_eq_true rfl) rfl (c_X7_pair) ?_
  refine r_iald (pc2 := 10) (j := _) dX1_isUp_9 (by decide) rfl rfl (rfl) (by show _ < 64; omega) rfl ?_
  refine r_iconst (pc2 := 11) (nI 1) dX1_isUp_10 (by decide) rfl ?_
  refine r_ic_ne (pc2 := 14) (tgt := 18) dX1_isUp_11 (by decide) rfl (fun c11 => ?_) (fun c11 => ?_)
  · skip
    refine r_iconst (pc2 := 19) (nI 0) dX1_isUp_18 (by decide) rfl ?_
    exact r_zret dX1_isUp_19 rfl (Or.inl rfl) (⟨b2_f (by simp only [Int32.lt_iff_toInt_lt, Int32.le_iff_toInt_le, ← Int32.toInt_inj, decide_eq_true_eq, decide_eq_false_iff_not] at c11 ⊢; omega), rfl⟩)
  · skip
    refine r_iconst (pc2 := 15) (nI 1) dX1_isUp_14 (by decide) rfl ?_
    refine r_goto (pc2 := 19) dX1_isUp_15 (by decide) ?_
    exact r_zret dX1_isUp_19 rfl (Or.inr rfl) (⟨b2_t (by simp only [Int32.lt_iff_toInt_lt, Int32.le_iff_toInt_le, ← Int32.toInt_inj, decide_eq_true_eq, decide_eq_false_iff_not] at c11 ⊢; omega), rfl⟩)

set_option maxRecDepth 100000 in
set_option maxHeartbeats 4000000 in
theorem c_X4_has {PL : List (Nat × Nat)} {g k : Nat} {V : Mm_} (hk : k < 512) : Cp_ PL mX4_has [vR g 6, vI (nI k)] V (b2 (decide (0 < V g 9 k))) := by
  refine Ca_.of mv_X4_has.2.2.2.2.2.2 0 (lo := [some (vR g 6), some (vI (nI k))]) rfl (Nat.le_of_ble_eq_true rfl) ?_
  refine r_aload_n (pc2 := 1) dX4_has_0 rfl rfl ?_
  refine r_getR (pc2 := 4) dX4_has_1 fl_X4_18 (by decide) rfl rfl rfl ?_
  refine r_iload_n (pc2 := 5) dX4_has_4 rfl rfl ?_
  refine r_iald (pc2 := 6) (j := _) dX4_has_5 (by decide) rfl rfl (rfl) (by show _ < 512; omega) rfl ?_
  refine r_if_le (pc2 := 9) (tgt := 13) dX4_has_6 (by decide) rfl (fun c6 => ?_) (fun c6 => ?_)
  · skip
    refine r_iconst (pc2 := 14) (nI 0) dX4_has_13 (by decide) rfl ?_
    exact r_zret dX4_has_14 rfl (Or.inl rfl) (⟨b2_f (by simp only [Int32.lt_iff_toInt_lt, Int32.le_iff_toInt_le, ← Int32.toInt_inj, decide_eq_true_eq, decide_eq_false_iff_not] at c6 ⊢; omega), rfl⟩)
  · skip
    refine r_iconst (pc2 := 10) (nI 1) dX4_has_9 (by decide) rfl ?_
    refine r_goto (pc2 := 14) dX4_has_10 (by decide) ?_
    exact r_zret dX4_has_14 rfl (Or.inr rfl) (⟨b2_t (by simp only [Int32.lt_iff_toInt_lt, Int32.le_iff_toInt_le, ← Int32.toInt_inj, decide_eq_true_eq, decide_eq_false_iff_not] at c6 ⊢; omega), rfl⟩)

set_option maxRecDepth 100000 in
set_option maxHeartbeats 4000000 in
theorem c_X4_isOpen {PL : List (Nat × Nat)} {g k : Nat} {t inf : Int32} {V : Mm_} (hk : k < 512) : Cp_ PL mX4_isOpen [vR g 6, vI (nI k), vI t, vI inf] V (b2 (decide (0 < V g 9 k ∧ t ≤ V g 9 k ∧ V g 8 k < inf ∧ V g 11 k < t))) := by
  refine Ca_.of mv_X4_isOpen.2.2.2.2.2.2 0 (lo := [some (vR g 6), some (vI (nI k)), some (vI t), some (vI inf)]) rfl (Nat.le_of_ble_eq_true rfl) ?_
  refine r_aload_n (pc2 := 1) dX4_isOpen_0 rfl rfl ?_
  refine r_iload_n (pc2 := 2) dX4_isOpen_1 rfl rfl ?_
  refine r_cv1p (pc2 := 5) dX4_isOpen_2 st_X4_isOpen_27 rl_X4_has (Nat.le_of_ble_eq_true rfl) rfl (c_X4_has (by omega)) ?_
  refine r_ifB_eq (pc2 := 8) (tgt := 42) dX4_isOpen_5 (by decide) rfl (fun c5 => ?_) (fun c5 => ?_)
  · skip
    refine r_iconst (pc2 := 43) (nI 0) dX4_isOpen_42 (by decide) rfl ?_
    exact r_zret dX4_isOpen_43 rfl (Or.inl rfl) (⟨b2_f (by simp only [Int32.lt_iff_toInt_lt, Int32.le_iff_toInt_le, ← Int32.toInt_inj, decide_eq_true_eq, decide_eq_false_iff_not] at c5 ⊢; omega), rfl⟩)
  · skip
    refine r_aload_n (pc2 := 9) dX4_isOpen_8 rfl rfl ?_
    refine r_getR (pc2 := 12) dX4_isOpen_9 fl_X4_18 (by decide) rfl rfl rfl ?_
    refine r_iload_n (pc2 := 13) dX4_isOpen_12 rfl rfl ?_
    refine r_iald (pc2 := 14) (j := _) dX4_isOpen_13 (by decide) rfl rfl (rfl) (by show _ < 512; omega) rfl ?_
    refine r_iload_n (pc2 := 15) dX4_isOpen_14 rfl rfl ?_
    refine r_ic_lt (pc2 := 18) (tgt := 42) dX4_isOpen_15 (by decide) rfl (fun c15 => ?_) (fun c15 => ?_)
    · skip
      refine r_iconst (pc2 := 43) (nI 0) dX4_isOpen_42 (by decide) rfl ?_
      exact r_zret dX4_isOpen_43 rfl (Or.inl rfl) (⟨b2_f (by simp only [Int32.lt_iff_toInt_lt, Int32.le_iff_toInt_le, ← Int32.toInt_inj, decide_eq_true_eq, decide_eq_false_iff_not] at c5 c15 ⊢; omega), rfl⟩)
    · skip
      refine r_aload_n (pc2 := 19) dX4_isOpen_18 rfl rfl ?_
      refine r_getR (pc2 := 22) dX4_isOpen_19 fl_X4_15 (by decide) rfl rfl rfl ?_
      refine r_iload_n (pc2 := 23) dX4_isOpen_22 rfl rfl ?_
      refine r_iald (pc2 := 24) (j := _) dX4_isOpen_23 (by decide) rfl rfl (rfl) (by show _ < 512; omega) rfl ?_
      refine r_iload_n (pc2 := 25) dX4_isOpen_24 rfl rfl ?_
      refine r_ic_ge (pc2 := 28) (tgt := 42) dX4_isOpen_25 (by decide) rfl (fun c25 => ?_) (fun c25 => ?_)
      · skip
        refine r_iconst (pc2 := 43) (nI 0) dX4_isOpen_42 (by decide) rfl ?_
        exact r_zret dX4_isOpen_43 rfl (Or.inl rfl) (⟨b2_f (by simp only [Int32.lt_iff_toInt_lt, Int32.le_iff_toInt_le, ← Int32.toInt_inj, decide_eq_true_eq, decide_eq_false_iff_not] at c5 c15 c25 ⊢; omega), rfl⟩)
      · skip
        refine r_iload_n (pc2 := 29) dX4_isOpen_28 rfl rfl ?_
        refine r_aload_n (pc2 := 30) dX4_isOpen_29 rfl rfl ?_
        refine r_getR (pc2 := 33) dX4_isOpen_30 fl_X4_24 (by decide) rfl rfl rfl ?_
        refine r_iload_n (pc2 := 34) dX4_isOpen_33 rfl rfl ?_
        refine r_iald (pc2 := 35) (j := _) dX4_isOpen_34 (by decide) rfl rfl (rfl) (by show _ < 512; omega) rfl ?_
        refine r_ic_le (pc2 := 38) (tgt := 42) dX4_isOpen_35 (by decide) rfl (fun c35 => ?_) (fun c35 => ?_)
        · skip
          refine r_iconst (pc2 := 43) (nI 0) dX4_isOpen_42 (by decide) rfl ?_
          exact r_zret dX4_isOpen_43 rfl (Or.inl rfl) (⟨b2_f (by simp only [Int32.lt_iff_toInt_lt, Int32.le_iff_toInt_le, ← Int32.toInt_inj, decide_eq_true_eq, decide_eq_false_iff_not] at c5 c15 c25 c35 ⊢; omega), rfl⟩)
        · skip
          refine r_iconst (pc2 := 39) (nI 1) dX4_isOpen_38 (by decide) rfl ?_
          refine r_goto (pc2 := 43) dX4_isOpen_39 (by decide) ?_
          exact r_zret dX4_isOpen_43 rfl (Or.inr rfl) (⟨b2_t (by simp only [Int32.lt_iff_toInt_lt, Int32.le_iff_toInt_le, ← Int32.toInt_inj, decide_eq_true_eq, decide_eq_false_iff_not] at c5 c15 c25 c35 ⊢; omega), rfl⟩)
end
