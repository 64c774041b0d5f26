-- ===== PART A: goes FIRST, ahead of the names: the tables' words, and 'selects' of the private methods out of them =====
/-- a private method of a class that the tables say can be made, by its rows of tables_1 -/
def lw_okq (q : MethodName × Nat) : Prop := (q.1.cls ≠ "java/lang/invoke/MethodHandle" ∧ q.1.cls ≠ "java/lang/invoke/VarHandle") ∧ Cond.instantiable q.1.cls q.2 ∈ tables_1 ∧ Cond.privateMethod q.1 ∈ tables_1 ∧ Cond.instanceMethod q.1 ∈ tables_1
theorem lw_p0 : lw_okq (⟨"GoalOrder", "forgetOrdering", "()V"⟩, 9) := ⟨⟨by decide +kernel, by decide +kernel⟩, List.mem_of_getElem? (i := 8) (by decide +kernel), List.mem_of_getElem? (i := 224) (by decide +kernel), List.mem_of_getElem? (i := 225) (by decide +kernel)⟩
theorem lw_p1 : lw_okq (⟨"GoalOrder", "fits", "(III)Z"⟩, 9) := ⟨⟨by decide +kernel, by decide +kernel⟩, List.mem_of_getElem? (i := 8) (by decide +kernel), List.mem_of_getElem? (i := 260) (by decide +kernel), List.mem_of_getElem? (i := 261) (by decide +kernel)⟩
theorem lw_p2 : lw_okq (⟨"GoalOrder$Tree", "spreadVariables", "(LGoalOrder$Node;)V"⟩, 3) := ⟨⟨by decide +kernel, by decide +kernel⟩, List.mem_of_getElem? (i := 36) (by decide +kernel), List.mem_of_getElem? (i := 286) (by decide +kernel), List.mem_of_getElem? (i := 287) (by decide +kernel)⟩
theorem lw_p3 : lw_okq (⟨"GoalOrder$Trial", "canDo", "(LGoalOrder$Node;J)Z"⟩, 4) := ⟨⟨by decide +kernel, by decide +kernel⟩, List.mem_of_getElem? (i := 156) (by decide +kernel), List.mem_of_getElem? (i := 309) (by decide +kernel), List.mem_of_getElem? (i := 310) (by decide +kernel)⟩
theorem lw_p4 : lw_okq (⟨"GoalOrder$Trial", "canDoRow", "(LGoalOrder$Node;)Z"⟩, 4) := ⟨⟨by decide +kernel, by decide +kernel⟩, List.mem_of_getElem? (i := 156) (by decide +kernel), List.mem_of_getElem? (i := 313) (by decide +kernel), List.mem_of_getElem? (i := 314) (by decide +kernel)⟩
theorem lw_p5 : lw_okq (⟨"GoalOrder$Trial", "doLeftmost", "(LGoalOrder$Node;)LGoalOrder$Node;"⟩, 4) := ⟨⟨by decide +kernel, by decide +kernel⟩, List.mem_of_getElem? (i := 156) (by decide +kernel), List.mem_of_getElem? (i := 317) (by decide +kernel), List.mem_of_getElem? (i := 318) (by decide +kernel)⟩
theorem lw_p6 : lw_okq (⟨"GoalOrder$Trial", "canDoChoice", "(LGoalOrder$Node;)Z"⟩, 4) := ⟨⟨by decide +kernel, by decide +kernel⟩, List.mem_of_getElem? (i := 156) (by decide +kernel), List.mem_of_getElem? (i := 324) (by decide +kernel), List.mem_of_getElem? (i := 325) (by decide +kernel)⟩
theorem lw_p7 : lw_okq (⟨"GoalOrder$Trial", "canDoPart", "(LGoalOrder$Node;LGoalOrder$Node;J)Z"⟩, 4) := ⟨⟨by decide +kernel, by decide +kernel⟩, List.mem_of_getElem? (i := 156) (by decide +kernel), List.mem_of_getElem? (i := 329) (by decide +kernel), List.mem_of_getElem? (i := 330) (by decide +kernel)⟩
theorem lw_p8 : lw_okq (⟨"GoalOrder$Trial", "canJoin", "(LGoalOrder$Node;JJ)Z"⟩, 4) := ⟨⟨by decide +kernel, by decide +kernel⟩, List.mem_of_getElem? (i := 156) (by decide +kernel), List.mem_of_getElem? (i := 333) (by decide +kernel), List.mem_of_getElem? (i := 334) (by decide +kernel)⟩
theorem lw_p9 : lw_okq (⟨"GoalOrder$Trial", "outerOf", "(LGoalOrder$Node;)J"⟩, 4) := ⟨⟨by decide +kernel, by decide +kernel⟩, List.mem_of_getElem? (i := 156) (by decide +kernel), List.mem_of_getElem? (i := 337) (by decide +kernel), List.mem_of_getElem? (i := 338) (by decide +kernel)⟩
theorem lw_p10 : lw_okq (⟨"GoalOrder$Trial", "canDoNot", "(LGoalOrder$Node;)Z"⟩, 4) := ⟨⟨by decide +kernel, by decide +kernel⟩, List.mem_of_getElem? (i := 156) (by decide +kernel), List.mem_of_getElem? (i := 341) (by decide +kernel), List.mem_of_getElem? (i := 342) (by decide +kernel)⟩
theorem lw_p11 : lw_okq (⟨"GoalOrder$Trial", "canDoTest", "(LGoalOrder$Node;)Z"⟩, 4) := ⟨⟨by decide +kernel, by decide +kernel⟩, List.mem_of_getElem? (i := 156) (by decide +kernel), List.mem_of_getElem? (i := 348) (by decide +kernel), List.mem_of_getElem? (i := 349) (by decide +kernel)⟩
theorem lw_p12 : lw_okq (⟨"GoalOrder$Trial", "canDoAtom", "(LGoalOrder$Node;)Z"⟩, 4) := ⟨⟨by decide +kernel, by decide +kernel⟩, List.mem_of_getElem? (i := 156) (by decide +kernel), List.mem_of_getElem? (i := 356) (by decide +kernel), List.mem_of_getElem? (i := 357) (by decide +kernel)⟩
theorem lw_p13 : lw_okq (⟨"GoalOrder$Trial", "canDoCall", "(LGoalOrder$Node;)Z"⟩, 4) := ⟨⟨by decide +kernel, by decide +kernel⟩, List.mem_of_getElem? (i := 156) (by decide +kernel), List.mem_of_getElem? (i := 383) (by decide +kernel), List.mem_of_getElem? (i := 384) (by decide +kernel)⟩
theorem lw_p14 : lw_okq (⟨"GoalOrder", "madeAt", "(LGoalOrder$Node;)I"⟩, 9) := ⟨⟨by decide +kernel, by decide +kernel⟩, List.mem_of_getElem? (i := 8) (by decide +kernel), List.mem_of_getElem? (i := 428) (by decide +kernel), List.mem_of_getElem? (i := 429) (by decide +kernel)⟩
theorem lw_p15 : lw_okq (⟨"GoalOrderModel", "begin", "()V"⟩, 42) := ⟨⟨by decide +kernel, by decide +kernel⟩, List.mem_of_getElem? (i := 447) (by decide +kernel), List.mem_of_getElem? (i := 453) (by decide +kernel), List.mem_of_getElem? (i := 454) (by decide +kernel)⟩
def lw_privs_1 : List (MethodName × Nat) := [(⟨"GoalOrder", "forgetOrdering", "()V"⟩, 9), (⟨"GoalOrder", "fits", "(III)Z"⟩, 9), (⟨"GoalOrder$Tree", "spreadVariables", "(LGoalOrder$Node;)V"⟩, 3), (⟨"GoalOrder$Trial", "canDo", "(LGoalOrder$Node;J)Z"⟩, 4), (⟨"GoalOrder$Trial", "canDoRow", "(LGoalOrder$Node;)Z"⟩, 4), (⟨"GoalOrder$Trial", "doLeftmost", "(LGoalOrder$Node;)LGoalOrder$Node;"⟩, 4), (⟨"GoalOrder$Trial", "canDoChoice", "(LGoalOrder$Node;)Z"⟩, 4), (⟨"GoalOrder$Trial", "canDoPart", "(LGoalOrder$Node;LGoalOrder$Node;J)Z"⟩, 4), (⟨"GoalOrder$Trial", "canJoin", "(LGoalOrder$Node;JJ)Z"⟩, 4), (⟨"GoalOrder$Trial", "outerOf", "(LGoalOrder$Node;)J"⟩, 4), (⟨"GoalOrder$Trial", "canDoNot", "(LGoalOrder$Node;)Z"⟩, 4), (⟨"GoalOrder$Trial", "canDoTest", "(LGoalOrder$Node;)Z"⟩, 4), (⟨"GoalOrder$Trial", "canDoAtom", "(LGoalOrder$Node;)Z"⟩, 4), (⟨"GoalOrder$Trial", "canDoCall", "(LGoalOrder$Node;)Z"⟩, 4), (⟨"GoalOrder", "madeAt", "(LGoalOrder$Node;)I"⟩, 9), (⟨"GoalOrderModel", "begin", "()V"⟩, 42)]
theorem lw_r1 : ∀ q ∈ lw_privs_1, lw_okq q := List.forall_mem_cons.mpr ⟨lw_p0, List.forall_mem_cons.mpr ⟨lw_p1, List.forall_mem_cons.mpr ⟨lw_p2, List.forall_mem_cons.mpr ⟨lw_p3, List.forall_mem_cons.mpr ⟨lw_p4, List.forall_mem_cons.mpr ⟨lw_p5, List.forall_mem_cons.mpr ⟨lw_p6, List.forall_mem_cons.mpr ⟨lw_p7, List.forall_mem_cons.mpr ⟨lw_p8, List.forall_mem_cons.mpr ⟨lw_p9, List.forall_mem_cons.mpr ⟨lw_p10, List.forall_mem_cons.mpr ⟨lw_p11, List.forall_mem_cons.mpr ⟨lw_p12, List.forall_mem_cons.mpr ⟨lw_p13, List.forall_mem_cons.mpr ⟨lw_p14, List.forall_mem_cons.mpr ⟨lw_p15, fun _ h => absurd h List.not_mem_nil⟩⟩⟩⟩⟩⟩⟩⟩⟩⟩⟩⟩⟩⟩⟩⟩
theorem lw_p16 : lw_okq (⟨"GoalOrderModel", "made", "(II)I"⟩, 42) := ⟨⟨by decide +kernel, by decide +kernel⟩, List.mem_of_getElem? (i := 447) (by decide +kernel), List.mem_of_getElem? (i := 457) (by decide +kernel), List.mem_of_getElem? (i := 458) (by decide +kernel)⟩
theorem lw_p17 : lw_okq (⟨"GoalOrderModel", "changed", "()V"⟩, 42) := ⟨⟨by decide +kernel, by decide +kernel⟩, List.mem_of_getElem? (i := 447) (by decide +kernel), List.mem_of_getElem? (i := 461) (by decide +kernel), List.mem_of_getElem? (i := 462) (by decide +kernel)⟩
theorem lw_p18 : lw_okq (⟨"GoalOrderModel", "isParent", "(I)Z"⟩, 42) := ⟨⟨by decide +kernel, by decide +kernel⟩, List.mem_of_getElem? (i := 447) (by decide +kernel), List.mem_of_getElem? (i := 617) (by decide +kernel), List.mem_of_getElem? (i := 618) (by decide +kernel)⟩
theorem lw_p19 : lw_okq (⟨"GoalOrderModel", "isNode", "(I)Z"⟩, 42) := ⟨⟨by decide +kernel, by decide +kernel⟩, List.mem_of_getElem? (i := 447) (by decide +kernel), List.mem_of_getElem? (i := 621) (by decide +kernel), List.mem_of_getElem? (i := 622) (by decide +kernel)⟩
theorem lw_p20 : lw_okq (⟨"GoalOrderModel", "hasRow", "(II)Z"⟩, 42) := ⟨⟨by decide +kernel, by decide +kernel⟩, List.mem_of_getElem? (i := 447) (by decide +kernel), List.mem_of_getElem? (i := 625) (by decide +kernel), List.mem_of_getElem? (i := 626) (by decide +kernel)⟩
theorem lw_p21 : lw_okq (⟨"GoalOrderModel", "look", "()V"⟩, 42) := ⟨⟨by decide +kernel, by decide +kernel⟩, List.mem_of_getElem? (i := 447) (by decide +kernel), List.mem_of_getElem? (i := 641) (by decide +kernel), List.mem_of_getElem? (i := 642) (by decide +kernel)⟩
theorem lw_p22 : lw_okq (⟨"GoalOrderModel", "rowOf", "(II)J"⟩, 42) := ⟨⟨by decide +kernel, by decide +kernel⟩, List.mem_of_getElem? (i := 447) (by decide +kernel), List.mem_of_getElem? (i := 645) (by decide +kernel), List.mem_of_getElem? (i := 646) (by decide +kernel)⟩
theorem lw_p23 : lw_okq (⟨"GoalOrderModel", "tried", "(IJ)Z"⟩, 42) := ⟨⟨by decide +kernel, by decide +kernel⟩, List.mem_of_getElem? (i := 447) (by decide +kernel), List.mem_of_getElem? (i := 649) (by decide +kernel), List.mem_of_getElem? (i := 650) (by decide +kernel)⟩
theorem lw_p24 : lw_okq (⟨"GoalOrderModel", "atom", "(I)V"⟩, 42) := ⟨⟨by decide +kernel, by decide +kernel⟩, List.mem_of_getElem? (i := 447) (by decide +kernel), List.mem_of_getElem? (i := 653) (by decide +kernel), List.mem_of_getElem? (i := 654) (by decide +kernel)⟩
theorem lw_p25 : lw_okq (⟨"GoalOrderModel", "isIn", "(JI)Z"⟩, 42) := ⟨⟨by decide +kernel, by decide +kernel⟩, List.mem_of_getElem? (i := 447) (by decide +kernel), List.mem_of_getElem? (i := 657) (by decide +kernel), List.mem_of_getElem? (i := 658) (by decide +kernel)⟩
theorem lw_p26 : lw_okq (⟨"GoalOrderModel", "comes", "(IIJ)V"⟩, 42) := ⟨⟨by decide +kernel, by decide +kernel⟩, List.mem_of_getElem? (i := 447) (by decide +kernel), List.mem_of_getElem? (i := 661) (by decide +kernel), List.mem_of_getElem? (i := 662) (by decide +kernel)⟩
theorem lw_p27 : lw_okq (⟨"GoalOrderModel", "same", "(IIIJ)V"⟩, 42) := ⟨⟨by decide +kernel, by decide +kernel⟩, List.mem_of_getElem? (i := 447) (by decide +kernel), List.mem_of_getElem? (i := 665) (by decide +kernel), List.mem_of_getElem? (i := 666) (by decide +kernel)⟩
theorem lw_p28 : lw_okq (⟨"GoalOrderModel", "areIn", "(JJ)Z"⟩, 42) := ⟨⟨by decide +kernel, by decide +kernel⟩, List.mem_of_getElem? (i := 447) (by decide +kernel), List.mem_of_getElem? (i := 669) (by decide +kernel), List.mem_of_getElem? (i := 670) (by decide +kernel)⟩
theorem lw_p29 : lw_okq (⟨"GoalOrderModel", "compare", "(IIJ)V"⟩, 42) := ⟨⟨by decide +kernel, by decide +kernel⟩, List.mem_of_getElem? (i := 447) (by decide +kernel), List.mem_of_getElem? (i := 673) (by decide +kernel), List.mem_of_getElem? (i := 674) (by decide +kernel)⟩
theorem lw_p30 : lw_okq (⟨"GoalOrderModel", "call", "(IJ)V"⟩, 42) := ⟨⟨by decide +kernel, by decide +kernel⟩, List.mem_of_getElem? (i := 447) (by decide +kernel), List.mem_of_getElem? (i := 677) (by decide +kernel), List.mem_of_getElem? (i := 678) (by decide +kernel)⟩
theorem lw_p31 : lw_okq (⟨"GoalOrderModel", "goesOn", "()Z"⟩, 42) := ⟨⟨by decide +kernel, by decide +kernel⟩, List.mem_of_getElem? (i := 447) (by decide +kernel), List.mem_of_getElem? (i := 681) (by decide +kernel), List.mem_of_getElem? (i := 682) (by decide +kernel)⟩
def lw_privs_2 : List (MethodName × Nat) := [(⟨"GoalOrderModel", "made", "(II)I"⟩, 42), (⟨"GoalOrderModel", "changed", "()V"⟩, 42), (⟨"GoalOrderModel", "isParent", "(I)Z"⟩, 42), (⟨"GoalOrderModel", "isNode", "(I)Z"⟩, 42), (⟨"GoalOrderModel", "hasRow", "(II)Z"⟩, 42), (⟨"GoalOrderModel", "look", "()V"⟩, 42), (⟨"GoalOrderModel", "rowOf", "(II)J"⟩, 42), (⟨"GoalOrderModel", "tried", "(IJ)Z"⟩, 42), (⟨"GoalOrderModel", "atom", "(I)V"⟩, 42), (⟨"GoalOrderModel", "isIn", "(JI)Z"⟩, 42), (⟨"GoalOrderModel", "comes", "(IIJ)V"⟩, 42), (⟨"GoalOrderModel", "same", "(IIIJ)V"⟩, 42), (⟨"GoalOrderModel", "areIn", "(JJ)Z"⟩, 42), (⟨"GoalOrderModel", "compare", "(IIJ)V"⟩, 42), (⟨"GoalOrderModel", "call", "(IJ)V"⟩, 42), (⟨"GoalOrderModel", "goesOn", "()Z"⟩, 42)]
theorem lw_r2 : ∀ q ∈ lw_privs_2, lw_okq q := List.forall_mem_cons.mpr ⟨lw_p16, List.forall_mem_cons.mpr ⟨lw_p17, List.forall_mem_cons.mpr ⟨lw_p18, List.forall_mem_cons.mpr ⟨lw_p19, List.forall_mem_cons.mpr ⟨lw_p20, List.forall_mem_cons.mpr ⟨lw_p21, List.forall_mem_cons.mpr ⟨lw_p22, List.forall_mem_cons.mpr ⟨lw_p23, List.forall_mem_cons.mpr ⟨lw_p24, List.forall_mem_cons.mpr ⟨lw_p25, List.forall_mem_cons.mpr ⟨lw_p26, List.forall_mem_cons.mpr ⟨lw_p27, List.forall_mem_cons.mpr ⟨lw_p28, List.forall_mem_cons.mpr ⟨lw_p29, List.forall_mem_cons.mpr ⟨lw_p30, List.forall_mem_cons.mpr ⟨lw_p31, fun _ h => absurd h List.not_mem_nil⟩⟩⟩⟩⟩⟩⟩⟩⟩⟩⟩⟩⟩⟩⟩⟩
theorem lw_p32 : lw_okq (⟨"GoalOrderModel", "row", "(II)Z"⟩, 42) := ⟨⟨by decide +kernel, by decide +kernel⟩, List.mem_of_getElem? (i := 447) (by decide +kernel), List.mem_of_getElem? (i := 685) (by decide +kernel), List.mem_of_getElem? (i := 686) (by decide +kernel)⟩
theorem lw_p33 : lw_okq (⟨"GoalOrderModel", "ended", "(IZJ)V"⟩, 42) := ⟨⟨by decide +kernel, by decide +kernel⟩, List.mem_of_getElem? (i := 447) (by decide +kernel), List.mem_of_getElem? (i := 689) (by decide +kernel), List.mem_of_getElem? (i := 690) (by decide +kernel)⟩
theorem lw_p34 : lw_okq (⟨"GoalOrderModel", "choice", "(II)Z"⟩, 42) := ⟨⟨by decide +kernel, by decide +kernel⟩, List.mem_of_getElem? (i := 447) (by decide +kernel), List.mem_of_getElem? (i := 693) (by decide +kernel), List.mem_of_getElem? (i := 694) (by decide +kernel)⟩
theorem lw_p35 : lw_okq (⟨"GoalOrderModel", "not", "(II)Z"⟩, 42) := ⟨⟨by decide +kernel, by decide +kernel⟩, List.mem_of_getElem? (i := 447) (by decide +kernel), List.mem_of_getElem? (i := 698) (by decide +kernel), List.mem_of_getElem? (i := 699) (by decide +kernel)⟩
theorem lw_p36 : lw_okq (⟨"GoalOrderModel", "test", "(II)Z"⟩, 42) := ⟨⟨by decide +kernel, by decide +kernel⟩, List.mem_of_getElem? (i := 447) (by decide +kernel), List.mem_of_getElem? (i := 702) (by decide +kernel), List.mem_of_getElem? (i := 703) (by decide +kernel)⟩
theorem lw_p37 : lw_okq (⟨"GoalOrderModel", "stuckOf", "()I"⟩, 42) := ⟨⟨by decide +kernel, by decide +kernel⟩, List.mem_of_getElem? (i := 447) (by decide +kernel), List.mem_of_getElem? (i := 706) (by decide +kernel), List.mem_of_getElem? (i := 707) (by decide +kernel)⟩
def lw_privs_3 : List (MethodName × Nat) := [(⟨"GoalOrderModel", "row", "(II)Z"⟩, 42), (⟨"GoalOrderModel", "ended", "(IZJ)V"⟩, 42), (⟨"GoalOrderModel", "choice", "(II)Z"⟩, 42), (⟨"GoalOrderModel", "not", "(II)Z"⟩, 42), (⟨"GoalOrderModel", "test", "(II)Z"⟩, 42), (⟨"GoalOrderModel", "stuckOf", "()I"⟩, 42)]
theorem lw_r3 : ∀ q ∈ lw_privs_3, lw_okq q := List.forall_mem_cons.mpr ⟨lw_p32, List.forall_mem_cons.mpr ⟨lw_p33, List.forall_mem_cons.mpr ⟨lw_p34, List.forall_mem_cons.mpr ⟨lw_p35, List.forall_mem_cons.mpr ⟨lw_p36, List.forall_mem_cons.mpr ⟨lw_p37, fun _ h => absurd h List.not_mem_nil⟩⟩⟩⟩⟩⟩
def lw_privs : List (MethodName × Nat) := lw_privs_1 ++ (lw_privs_2 ++ (lw_privs_3))
def lw_tbl : List Cond := k2_sels lw_privs ++ tables_1
theorem lw_privs_ok : ∀ q ∈ lw_privs, lw_okq q := by
  show ∀ q ∈ lw_privs_1 ++ (lw_privs_2 ++ (lw_privs_3)), lw_okq q
  exact List.forall_mem_append.mpr ⟨lw_r1, List.forall_mem_append.mpr ⟨lw_r2, lw_r3⟩⟩
/-! the words that are the same for every method -/
def jm_tb : List Cond := lw_tbl.filter goodWord
theorem jm_good : ∀ w ∈ jm_tb, goodWord w = true := fun w h => (List.mem_filter.mp h).2
theorem jm_inT {w : Cond} (h : w ∈ tables_1) (g : goodWord w = true) : w ∈ jm_tb := List.mem_filter.mpr ⟨List.mem_append_right _ h, g⟩
theorem jm_in1 {w : Cond} (h : w ∈ tables_1_1) (g : goodWord w = true) : w ∈ jm_tb := jm_inT (List.mem_append_left _ h) g
theorem jm_in2 {w : Cond} (h : w ∈ tables_1_2) (g : goodWord w = true) : w ∈ jm_tb := jm_inT (List.mem_append_right _ (List.mem_append_left _ h)) g
theorem jm_in3 {w : Cond} (h : w ∈ tables_1_3) (g : goodWord w = true) : w ∈ jm_tb := jm_inT (List.mem_append_right _ (List.mem_append_right _ (List.mem_append_left _ h))) g
theorem jm_in4 {w : Cond} (h : w ∈ tables_1_4) (g : goodWord w = true) : w ∈ jm_tb := jm_inT (List.mem_append_right _ (List.mem_append_right _ (List.mem_append_right _ (h)))) g
theorem jm_inS {q : MethodName × Nat} (h : q ∈ lw_privs) : Cond.selects q.1.cls q.1 q.1 ∈ jm_tb := List.mem_filter.mpr ⟨List.mem_append_left _ (List.mem_map.mpr ⟨q, h, rfl⟩), rfl⟩
theorem jm_tb1 {w : Cond} (h : w ∈ tables_1_1) : w ∈ tables_1 := List.mem_append_left _ h
theorem jm_tb2 {w : Cond} (h : w ∈ tables_1_2) : w ∈ tables_1 := List.mem_append_right _ (List.mem_append_left _ h)
theorem jm_tb3 {w : Cond} (h : w ∈ tables_1_3) : w ∈ tables_1 := List.mem_append_right _ (List.mem_append_right _ (List.mem_append_left _ h))
theorem jm_tb4 {w : Cond} (h : w ∈ tables_1_4) : w ∈ tables_1 := List.mem_append_right _ (List.mem_append_right _ (List.mem_append_right _ (h)))
/-! classes -/
def RX0 : String := "GoalOrder$Node"
def TX0 : u_T := fun k => match k with
  | 0 => ("GoalOrder$Node", "number", "I", true)
  | 1 => ("GoalOrder$Node", "variables", "[I", true)
  | 2 => ("GoalOrder$Node", "many", "I", false)
  | 3 => ("GoalOrder$Node", "sort", "I", false)
  | 4 => ("GoalOrder$Node", "predicate", "I", false)
  | 5 => ("GoalOrder$Node", "depth", "I", false)
  | 6 => ("GoalOrder$Node", "parts", "I", false)
  | 7 => ("GoalOrder$Node", "parent", "LGoalOrder$Node;", false)
  | 8 => ("GoalOrder$Node", "firstPart", "LGoalOrder$Node;", false)
  | 9 => ("GoalOrder$Node", "lastPart", "LGoalOrder$Node;", false)
  | 10 => ("GoalOrder$Node", "nextPart", "LGoalOrder$Node;", false)
  | 11 => ("GoalOrder$Node", "within", "J", false)
  | 12 => ("GoalOrder$Node", "outside", "J", false)
  | 13 => ("GoalOrder$Node", "ahead", "J", false)
  | 14 => ("GoalOrder$Node", "behind", "J", false)
  | 15 => ("GoalOrder$Node", "way", "I", false)
  | 16 => ("GoalOrder$Node", "stuckNumber", "I", false)
  | 17 => ("GoalOrder$Node", "done", "Z", false)
  | 18 => ("GoalOrder$Node", "firstDone", "LGoalOrder$Node;", false)
  | _ => ("GoalOrder$Node", "nextDone", "LGoalOrder$Node;", false)
def tyX0 : Nat → FieldType := fun k => match k with
  | 0 => .int
  | 1 => .array .int
  | 2 => .int
  | 3 => .int
  | 4 => .int
  | 5 => .int
  | 6 => .int
  | 7 => .object "GoalOrder$Node"
  | 8 => .object "GoalOrder$Node"
  | 9 => .object "GoalOrder$Node"
  | 10 => .object "GoalOrder$Node"
  | 11 => .long
  | 12 => .long
  | 13 => .long
  | 14 => .long
  | 15 => .int
  | 16 => .int
  | 17 => .boolean
  | 18 => .object "GoalOrder$Node"
  | _ => .object "GoalOrder$Node"
theorem nmX0 : ∀ a, a < 20 → ∀ b, b < 20 → a ≠ b → (TX0 a).2.1 ≠ (TX0 b).2.1 := by decide +kernel
theorem tyX0_ok : ∀ k, k < 20 → parseFieldDescriptor (TX0 k).2.2.1 = some (tyX0 k) := by decide +kernel
theorem inX0 : ∀ w ∈ u_ws RX0 TX0 20, w ∈ jm_tb := by
  intro w hw
  obtain ⟨k, hk, rfl⟩ := List.mem_map.mp hw
  have hk := List.mem_range.mp hk
  rcases (show k = 0 ∨ k = 1 ∨ k = 2 ∨ k = 3 ∨ k = 4 ∨ k = 5 ∨ k = 6 ∨ k = 7 ∨ k = 8 ∨ k = 9 ∨ k = 10 ∨ k = 11 ∨ k = 12 ∨ k = 13 ∨ k = 14 ∨ k = 15 ∨ k = 16 ∨ k = 17 ∨ k = 18 ∨ k = 19 by omega) with rfl | rfl | rfl | rfl | rfl | rfl | rfl | rfl | rfl | rfl | rfl | rfl | rfl | rfl | rfl | rfl | rfl | rfl | rfl | rfl
  · exact jm_in1 (List.mem_of_getElem? (i := 94) rfl) rfl
  · exact jm_in1 (List.mem_of_getElem? (i := 96) rfl) rfl
  · exact jm_in1 (List.mem_of_getElem? (i := 98) rfl) rfl
  · exact jm_in1 (List.mem_of_getElem? (i := 100) rfl) rfl
  · exact jm_in1 (List.mem_of_getElem? (i := 102) rfl) rfl
  · exact jm_in1 (List.mem_of_getElem? (i := 104) rfl) rfl
  · exact jm_in1 (List.mem_of_getElem? (i := 106) rfl) rfl
  · exact jm_in1 (List.mem_of_getElem? (i := 108) rfl) rfl
  · exact jm_in1 (List.mem_of_getElem? (i := 110) rfl) rfl
  · exact jm_in1 (List.mem_of_getElem? (i := 112) rfl) rfl
  · exact jm_in1 (List.mem_of_getElem? (i := 114) rfl) rfl
  · exact jm_in1 (List.mem_of_getElem? (i := 116) rfl) rfl
  · exact jm_in1 (List.mem_of_getElem? (i := 118) rfl) rfl
  · exact jm_in1 (List.mem_of_getElem? (i := 120) rfl) rfl
  · exact jm_in1 (List.mem_of_getElem? (i := 122) rfl) rfl
  · exact jm_in1 (List.mem_of_getElem? (i := 124) rfl) rfl
  · exact jm_in1 (List.mem_of_getElem? (i := 126) rfl) rfl
  · exact jm_in1 (List.mem_of_getElem? (i := 128) rfl) rfl
  · exact jm_in1 (List.mem_of_getElem? (i := 130) rfl) rfl
  · exact jm_in1 (List.mem_of_getElem? (i := 132) rfl) rfl
def RX1 : String := "GoalOrder$Predicates"
def TX1 : u_T := fun k => match k with
  | 0 => ("GoalOrder$Predicates", "arguments", "[I", true)
  | 1 => ("GoalOrder$Predicates", "modes", "[I", true)
  | 2 => ("GoalOrder$Predicates", "outs", "[I", true)
  | _ => ("GoalOrder$Predicates", "count", "I", false)
def tyX1 : Nat → FieldType := fun k => match k with
  | 0 => .array .int
  | 1 => .array .int
  | 2 => .array .int
  | _ => .int
theorem nmX1 : ∀ a, a < 4 → ∀ b, b < 4 → a ≠ b → (TX1 a).2.1 ≠ (TX1 b).2.1 := by decide +kernel
theorem tyX1_ok : ∀ k, k < 4 → parseFieldDescriptor (TX1 k).2.2.1 = some (tyX1 k) := by decide +kernel
theorem inX1 : ∀ w ∈ u_ws RX1 TX1 4, w ∈ jm_tb := by
  intro w hw
  obtain ⟨k, hk, rfl⟩ := List.mem_map.mp hw
  have hk := List.mem_range.mp hk
  rcases (show k = 0 ∨ k = 1 ∨ k = 2 ∨ k = 3 by omega) with rfl | rfl | rfl | rfl
  · exact jm_in1 (List.mem_of_getElem? (i := 25) rfl) rfl
  · exact jm_in1 (List.mem_of_getElem? (i := 27) rfl) rfl
  · exact jm_in1 (List.mem_of_getElem? (i := 29) rfl) rfl
  · exact jm_in1 (List.mem_of_getElem? (i := 31) rfl) rfl
def RX2 : String := "GoalOrder$Tree"
def TX2 : u_T := fun k => match k with
  | 0 => ("GoalOrder$Tree", "root", "LGoalOrder$Node;", true)
  | 1 => ("GoalOrder$Tree", "nodes", "[LGoalOrder$Node;", true)
  | _ => ("GoalOrder$Tree", "count", "I", false)
def tyX2 : Nat → FieldType := fun k => match k with
  | 0 => .object "GoalOrder$Node"
  | 1 => .array (.object "GoalOrder$Node")
  | _ => .int
theorem nmX2 : ∀ a, a < 3 → ∀ b, b < 3 → a ≠ b → (TX2 a).2.1 ≠ (TX2 b).2.1 := by decide +kernel
theorem tyX2_ok : ∀ k, k < 3 → parseFieldDescriptor (TX2 k).2.2.1 = some (tyX2 k) := by decide +kernel
theorem inX2 : ∀ w ∈ u_ws RX2 TX2 3, w ∈ jm_tb := by
  intro w hw
  obtain ⟨k, hk, rfl⟩ := List.mem_map.mp hw
  have hk := List.mem_range.mp hk
  rcases (show k = 0 ∨ k = 1 ∨ k = 2 by omega) with rfl | rfl | rfl
  · exact jm_in1 (List.mem_of_getElem? (i := 148) rfl) rfl
  · exact jm_in1 (List.mem_of_getElem? (i := 150) rfl) rfl
  · exact jm_in1 (List.mem_of_getElem? (i := 152) rfl) rfl
def RX3 : String := "GoalOrder$Trial"
def TX3 : u_T := fun k => match k with
  | 0 => ("GoalOrder$Trial", "predicates", "LGoalOrder$Predicates;", true)
  | 1 => ("GoalOrder$Trial", "wantedNow", "J", false)
  | 2 => ("GoalOrder$Trial", "tries", "I", false)
  | _ => ("GoalOrder$Trial", "overrun", "Z", false)
def tyX3 : Nat → FieldType := fun k => match k with
  | 0 => .object "GoalOrder$Predicates"
  | 1 => .long
  | 2 => .int
  | _ => .boolean
theorem nmX3 : ∀ a, a < 4 → ∀ b, b < 4 → a ≠ b → (TX3 a).2.1 ≠ (TX3 b).2.1 := by decide +kernel
theorem tyX3_ok : ∀ k, k < 4 → parseFieldDescriptor (TX3 k).2.2.1 = some (tyX3 k) := by decide +kernel
theorem inX3 : ∀ w ∈ u_ws RX3 TX3 4, w ∈ jm_tb := by
  intro w hw
  obtain ⟨k, hk, rfl⟩ := List.mem_map.mp hw
  have hk := List.mem_range.mp hk
  rcases (show k = 0 ∨ k = 1 ∨ k = 2 ∨ k = 3 by omega) with rfl | rfl | rfl | rfl
  · exact jm_in1 (List.mem_of_getElem? (i := 166) rfl) rfl
  · exact jm_in1 (List.mem_of_getElem? (i := 168) rfl) rfl
  · exact jm_in1 (List.mem_of_getElem? (i := 170) rfl) rfl
  · exact jm_in1 (List.mem_of_getElem? (i := 172) rfl) rfl
def RX4 : String := "GoalOrder"
def TX4 : u_T := fun k => match k with
  | 0 => ("GoalOrder", "predicates", "LGoalOrder$Predicates;", true)
  | 1 => ("GoalOrder", "tree", "LGoalOrder$Tree;", true)
  | 2 => ("GoalOrder", "trial", "LGoalOrder$Trial;", true)
  | 3 => ("GoalOrder", "row", "[I", true)
  | 4 => ("GoalOrder", "rowMany", "I", false)
  | 5 => ("GoalOrder", "givenSet", "J", false)
  | 6 => ("GoalOrder", "wantedSet", "J", false)
  | 7 => ("GoalOrder", "ordered", "Z", false)
  | _ => ("GoalOrder", "stuckAt", "I", false)
def tyX4 : Nat → FieldType := fun k => match k with
  | 0 => .object "GoalOrder$Predicates"
  | 1 => .object "GoalOrder$Tree"
  | 2 => .object "GoalOrder$Trial"
  | 3 => .array .int
  | 4 => .int
  | 5 => .long
  | 6 => .long
  | 7 => .boolean
  | _ => .int
theorem nmX4 : ∀ a, a < 9 → ∀ b, b < 9 → a ≠ b → (TX4 a).2.1 ≠ (TX4 b).2.1 := by decide +kernel
theorem tyX4_ok : ∀ k, k < 9 → parseFieldDescriptor (TX4 k).2.2.1 = some (tyX4 k) := by decide +kernel
theorem inX4 : ∀ w ∈ u_ws RX4 TX4 9, w ∈ jm_tb := by
  intro w hw
  obtain ⟨k, hk, rfl⟩ := List.mem_map.mp hw
  have hk := List.mem_range.mp hk
  rcases (show k = 0 ∨ k = 1 ∨ k = 2 ∨ k = 3 ∨ k = 4 ∨ k = 5 ∨ k = 6 ∨ k = 7 ∨ k = 8 by omega) with rfl | rfl | rfl | rfl | rfl | rfl | rfl | rfl | rfl
  · exact jm_in1 (List.mem_of_getElem? (i := 184) rfl) rfl
  · exact jm_in1 (List.mem_of_getElem? (i := 186) rfl) rfl
  · exact jm_in1 (List.mem_of_getElem? (i := 188) rfl) rfl
  · exact jm_in1 (List.mem_of_getElem? (i := 190) rfl) rfl
  · exact jm_in1 (List.mem_of_getElem? (i := 192) rfl) rfl
  · exact jm_in1 (List.mem_of_getElem? (i := 194) rfl) rfl
  · exact jm_in1 (List.mem_of_getElem? (i := 196) rfl) rfl
  · exact jm_in1 (List.mem_of_getElem? (i := 198) rfl) rfl
  · exact jm_in1 (List.mem_of_getElem? (i := 200) rfl) rfl
def RX5 : String := "GoalOrderModel"
def TX5 : u_T := fun k => match k with
  | 0 => ("GoalOrderModel", "thrown", "I", false)
  | 1 => ("GoalOrderModel", "predicates", "I", false)
  | 2 => ("GoalOrderModel", "arity", "[I", true)
  | 3 => ("GoalOrderModel", "modes", "[I", true)
  | 4 => ("GoalOrderModel", "outs", "[I", true)
  | 5 => ("GoalOrderModel", "nodes", "I", false)
  | 6 => ("GoalOrderModel", "sort", "[I", true)
  | 7 => ("GoalOrderModel", "depth", "[I", true)
  | 8 => ("GoalOrderModel", "parent", "[I", true)
  | 9 => ("GoalOrderModel", "many", "[I", true)
  | 10 => ("GoalOrderModel", "first", "[I", true)
  | 11 => ("GoalOrderModel", "last", "[I", true)
  | 12 => ("GoalOrderModel", "next", "[I", true)
  | 13 => ("GoalOrderModel", "of", "[I", true)
  | 14 => ("GoalOrderModel", "width", "[I", true)
  | 15 => ("GoalOrderModel", "variable", "[I", true)
  | 16 => ("GoalOrderModel", "row", "[I", true)
  | 17 => ("GoalOrderModel", "rowMany", "I", false)
  | 18 => ("GoalOrderModel", "givens", "J", false)
  | 19 => ("GoalOrderModel", "wanteds", "J", false)
  | 20 => ("GoalOrderModel", "within", "[I", true)
  | 21 => ("GoalOrderModel", "outers", "[J", true)
  | 22 => ("GoalOrderModel", "inner", "[J", true)
  | 23 => ("GoalOrderModel", "ahead", "[J", true)
  | 24 => ("GoalOrderModel", "behind", "[J", true)
  | 25 => ("GoalOrderModel", "can", "[Z", true)
  | 26 => ("GoalOrderModel", "done", "[Z", true)
  | 27 => ("GoalOrderModel", "rank", "[I", true)
  | 28 => ("GoalOrderModel", "way", "[I", true)
  | 29 => ("GoalOrderModel", "alike", "[I", true)
  | 30 => ("GoalOrderModel", "blame", "[I", true)
  | 31 => ("GoalOrderModel", "frame", "[I", true)
  | 32 => ("GoalOrderModel", "step", "[I", true)
  | 33 => ("GoalOrderModel", "at", "[I", true)
  | 34 => ("GoalOrderModel", "ranks", "[I", true)
  | 35 => ("GoalOrderModel", "now", "[J", true)
  | 36 => ("GoalOrderModel", "each", "[J", true)
  | 37 => ("GoalOrderModel", "some", "[J", true)
  | 38 => ("GoalOrderModel", "frames", "I", false)
  | 39 => ("GoalOrderModel", "tries", "I", false)
  | 40 => ("GoalOrderModel", "ordered", "Z", false)
  | _ => ("GoalOrderModel", "stuckAt", "I", false)
def tyX5 : Nat → FieldType := fun k => match k with
  | 0 => .int
  | 1 => .int
  | 2 => .array .int
  | 3 => .array .int
  | 4 => .array .int
  | 5 => .int
  | 6 => .array .int
  | 7 => .array .int
  | 8 => .array .int
  | 9 => .array .int
  | 10 => .array .int
  | 11 => .array .int
  | 12 => .array .int
  | 13 => .array .int
  | 14 => .array .int
  | 15 => .array .int
  | 16 => .array .int
  | 17 => .int
  | 18 => .long
  | 19 => .long
  | 20 => .array .int
  | 21 => .array .long
  | 22 => .array .long
  | 23 => .array .long
  | 24 => .array .long
  | 25 => .array .boolean
  | 26 => .array .boolean
  | 27 => .array .int
  | 28 => .array .int
  | 29 => .array .int
  | 30 => .array .int
  | 31 => .array .int
  | 32 => .array .int
  | 33 => .array .int
  | 34 => .array .int
  | 35 => .array .long
  | 36 => .array .long
  | 37 => .array .long
  | 38 => .int
  | 39 => .int
  | 40 => .boolean
  | _ => .int
theorem nmX5 : ∀ a, a < 42 → ∀ b, b < 42 → a ≠ b → (TX5 a).2.1 ≠ (TX5 b).2.1 := by decide +kernel
theorem tyX5_ok : ∀ k, k < 42 → parseFieldDescriptor (TX5 k).2.2.1 = some (tyX5 k) := by decide +kernel
theorem inX5 : ∀ w ∈ u_ws RX5 TX5 42, w ∈ jm_tb := by
  intro w hw
  obtain ⟨k, hk, rfl⟩ := List.mem_map.mp hw
  have hk := List.mem_range.mp hk
  rcases (show k = 0 ∨ k = 1 ∨ k = 2 ∨ k = 3 ∨ k = 4 ∨ k = 5 ∨ k = 6 ∨ k = 7 ∨ k = 8 ∨ k = 9 ∨ k = 10 ∨ k = 11 ∨ k = 12 ∨ k = 13 ∨ k = 14 ∨ k = 15 ∨ k = 16 ∨ k = 17 ∨ k = 18 ∨ k = 19 ∨ k = 20 ∨ k = 21 ∨ k = 22 ∨ k = 23 ∨ k = 24 ∨ k = 25 ∨ k = 26 ∨ k = 27 ∨ k = 28 ∨ k = 29 ∨ k = 30 ∨ k = 31 ∨ k = 32 ∨ k = 33 ∨ k = 34 ∨ k = 35 ∨ k = 36 ∨ k = 37 ∨ k = 38 ∨ k = 39 ∨ k = 40 ∨ k = 41 by omega) with rfl | rfl | rfl | rfl | rfl | rfl | rfl | rfl | rfl | rfl | rfl | rfl | rfl | rfl | rfl | rfl | rfl | rfl | rfl | rfl | rfl | rfl | rfl | rfl | rfl | rfl | rfl | rfl | rfl | rfl | rfl | rfl | rfl | rfl | rfl | rfl | rfl | rfl | rfl | rfl | rfl | rfl
  · exact jm_in3 (List.mem_of_getElem? (i := 26) rfl) rfl
  · exact jm_in3 (List.mem_of_getElem? (i := 28) rfl) rfl
  · exact jm_in3 (List.mem_of_getElem? (i := 30) rfl) rfl
  · exact jm_in3 (List.mem_of_getElem? (i := 32) rfl) rfl
  · exact jm_in3 (List.mem_of_getElem? (i := 34) rfl) rfl
  · exact jm_in3 (List.mem_of_getElem? (i := 36) rfl) rfl
  · exact jm_in3 (List.mem_of_getElem? (i := 38) rfl) rfl
  · exact jm_in3 (List.mem_of_getElem? (i := 40) rfl) rfl
  · exact jm_in3 (List.mem_of_getElem? (i := 42) rfl) rfl
  · exact jm_in3 (List.mem_of_getElem? (i := 44) rfl) rfl
  · exact jm_in3 (List.mem_of_getElem? (i := 46) rfl) rfl
  · exact jm_in3 (List.mem_of_getElem? (i := 48) rfl) rfl
  · exact jm_in3 (List.mem_of_getElem? (i := 50) rfl) rfl
  · exact jm_in3 (List.mem_of_getElem? (i := 52) rfl) rfl
  · exact jm_in3 (List.mem_of_getElem? (i := 54) rfl) rfl
  · exact jm_in3 (List.mem_of_getElem? (i := 56) rfl) rfl
  · exact jm_in3 (List.mem_of_getElem? (i := 58) rfl) rfl
  · exact jm_in3 (List.mem_of_getElem? (i := 60) rfl) rfl
  · exact jm_in3 (List.mem_of_getElem? (i := 62) rfl) rfl
  · exact jm_in3 (List.mem_of_getElem? (i := 64) rfl) rfl
  · exact jm_in3 (List.mem_of_getElem? (i := 66) rfl) rfl
  · exact jm_in3 (List.mem_of_getElem? (i := 68) rfl) rfl
  · exact jm_in3 (List.mem_of_getElem? (i := 70) rfl) rfl
  · exact jm_in3 (List.mem_of_getElem? (i := 72) rfl) rfl
  · exact jm_in3 (List.mem_of_getElem? (i := 74) rfl) rfl
  · exact jm_in3 (List.mem_of_getElem? (i := 76) rfl) rfl
  · exact jm_in3 (List.mem_of_getElem? (i := 78) rfl) rfl
  · exact jm_in3 (List.mem_of_getElem? (i := 80) rfl) rfl
  · exact jm_in3 (List.mem_of_getElem? (i := 82) rfl) rfl
  · exact jm_in3 (List.mem_of_getElem? (i := 84) rfl) rfl
  · exact jm_in3 (List.mem_of_getElem? (i := 86) rfl) rfl
  · exact jm_in3 (List.mem_of_getElem? (i := 88) rfl) rfl
  · exact jm_in3 (List.mem_of_getElem? (i := 90) rfl) rfl
  · exact jm_in3 (List.mem_of_getElem? (i := 92) rfl) rfl
  · exact jm_in3 (List.mem_of_getElem? (i := 94) rfl) rfl
  · exact jm_in3 (List.mem_of_getElem? (i := 96) rfl) rfl
  · exact jm_in3 (List.mem_of_getElem? (i := 98) rfl) rfl
  · exact jm_in3 (List.mem_of_getElem? (i := 100) rfl) rfl
  · exact jm_in3 (List.mem_of_getElem? (i := 102) rfl) rfl
  · exact jm_in3 (List.mem_of_getElem? (i := 104) rfl) rfl
  · exact jm_in3 (List.mem_of_getElem? (i := 106) rfl) rfl
  · exact jm_in3 (List.mem_of_getElem? (i := 108) rfl) rfl
abbrev vwCl : List vw_C := [(RX0, TX0, 20), (RX1, TX1, 4), (RX2, TX2, 3), (RX3, TX3, 4), (RX4, TX4, 9), (RX5, TX5, 42)]
/-! kinds: objects 0 GoalOrder$Node, 1 GoalOrder$Predicates, 2 GoalOrder$Tree, 3 GoalOrder$Trial, 4 GoalOrder, 5 GoalOrderModel; arrays 6 GoalOrder$Node.variables[7], 7 GoalOrder$Predicates.arguments[60], 8 GoalOrder$Predicates.modes[60], 9 GoalOrder$Predicates.outs[240], 10 GoalOrder$Tree.nodes[250], 11 GoalOrder.row[7], 12 GoalOrderModel.arity[60], 13 GoalOrderModel.modes[60], 14 GoalOrderModel.outs[240], 15 GoalOrderModel.sort[250], 16 GoalOrderModel.depth[250], 17 GoalOrderModel.parent[250], 18 GoalOrderModel.many[250], 19 GoalOrderModel.first[250], 20 GoalOrderModel.last[250], 21 GoalOrderModel.next[250], 22 GoalOrderModel.of[250], 23 GoalOrderModel.width[250], 24 GoalOrderModel.variable[1750], 25 GoalOrderModel.row[7], 26 GoalOrderModel.within[15000], 27 GoalOrderModel.outers[250], 28 GoalOrderModel.inner[250], 29 GoalOrderModel.ahead[250], 30 GoalOrderModel.behind[250], 31 GoalOrderModel.can[250], 32 GoalOrderModel.done[250], 33 GoalOrderModel.rank[250], 34 GoalOrderModel.way[250], 35 GoalOrderModel.alike[250], 36 GoalOrderModel.blame[250], 37 GoalOrderModel.frame[40], 38 GoalOrderModel.step[40], 39 GoalOrderModel.at[40], 40 GoalOrderModel.ranks[40], 41 GoalOrderModel.now[40], 42 GoalOrderModel.each[40], 43 GoalOrderModel.some[40] -/
def kTab : List (List Nat) := [[0, 9, 0, 0, 0, 0, 0, 3, 3, 3, 3, 1, 1, 1, 1, 0, 0, 2, 3, 3], [10, 11, 12, 0], [3, 13, 0], [4, 1, 0, 2], [4, 5, 6, 14, 0, 1, 1, 2, 0], [0, 0, 15, 16, 17, 0, 18, 19, 20, 21, 22, 23, 24, 25, 26, 27, 28, 0, 1, 1, 29, 30, 31, 32, 33, 34, 35, 36, 37, 38, 39, 40, 41, 42, 43, 44, 45, 46, 0, 0, 2, 0], [0], [0], [0], [0], [3], [0], [0], [0], [0], [0], [0], [0], [0], [0], [0], [0], [0], [0], [0], [0], [0], [1], [1], [1], [1], [2], [2], [0], [0], [0], [0], [0], [0], [0], [0], [1], [1], [1]]
def kLen : List Nat := [0, 0, 0, 0, 0, 0, 7, 60, 60, 240, 250, 7, 60, 60, 240, 250, 250, 250, 250, 250, 250, 250, 250, 250, 1750, 7, 15000, 250, 250, 250, 250, 250, 250, 250, 250, 250, 250, 40, 40, 40, 40, 40, 40, 40]
def kAtT : List Nat := [0, 0, 0, 0, 0, 0, 0, 0, 0, 0, 1, 0, 0, 0, 0, 0, 0, 0, 0, 0, 0, 0, 0, 0, 0, 0, 0, 2, 2, 2, 2, 3, 3, 0, 0, 0, 0, 0, 0, 0, 0, 2, 2, 2]
def kob (k : Nat) : Option Nat := if k < 6 then some k else none
def kly (k j : Nat) : Nat := if k < 6 then (kTab.getD k []).getD j 0 else (kTab.getD k []).getD 0 0
def kln (k : Nat) : Nat := kLen.getD k 0
def kat (k : Nat) : Nat := kAtT.getD k 0
def katy (t : Nat) : FieldType := match t with
  | 0 => .int
  | 1 => .object "GoalOrder$Node"
  | 2 => .long
  | _ => .boolean
abbrev katn : Nat := 4
abbrev aV : Type := Int32 ⊕ (Int64 ⊕ Option (Nat × Nat))
abbrev vI (x : Int32) : aV := .inl x
abbrev vL (x : Int64) : aV := .inr (.inl x)
abbrev vR (r : Option (Nat × Nat)) : aV := .inr (.inr r)
abbrev aS : Type := (Nat → Nat → Nat → Int32) × (Nat → Nat → Nat → Int64) × (Nat → Nat → Nat → Option Nat) × (Nat → Nat)
abbrev mD : Type := va_G × Heap × (Nat → Nat)
abbrev mM : Type := MethodName × ByteArray × Nat × Option FieldType
def u3 {α : Type} (f : Nat → Nat → Nat → α) (k i j : Nat) (v : α) : Nat → Nat → Nat → α := fun a b c => if a = k ∧ b = i ∧ c = j then v else f a b c
def z3 {α : Type} (f : Nat → Nat → Nat → α) (k i : Nat) (v : α) : Nat → Nat → Nat → α := fun a b c => if a = k ∧ b = i then v else f a b c
def sI (st : aS) (k i j : Nat) (v : Int32) : aS := (u3 st.1 k i j v, st.2)
def sL (st : aS) (k i j : Nat) (v : Int64) : aS := (st.1, u3 st.2.1 k i j v, st.2.2)
def sR (st : aS) (k i j : Nat) (v : Option Nat) : aS := (st.1, st.2.1, u3 st.2.2.1 k i j v, st.2.2.2)
def sNew (st : aS) (k : Nat) : aS := (z3 st.1 k (st.2.2.2 k) 0, z3 st.2.1 k (st.2.2.2 k) 0, z3 st.2.2.1 k (st.2.2.2 k) none, fun a => if a = k then st.2.2.2 a + 1 else st.2.2.2 a)
/-! the tables, class by class -/
theorem jm_lays : ∀ (ci : Nat) (q : vw_C), vwCl[ci]? = some q → ∀ w ∈ u_ws q.1 q.2.1 q.2.2, w ∈ jm_tb := by
  intro ci q hq
  have hl : ci < 6 := (List.getElem?_eq_some_iff.mp hq).1
  rcases (show ci = 0 ∨ ci = 1 ∨ ci = 2 ∨ ci = 3 ∨ ci = 4 ∨ ci = 5 by omega) with rfl | rfl | rfl | rfl | rfl | rfl
  · cases hq; exact inX0
  · cases hq; exact inX1
  · cases hq; exact inX2
  · cases hq; exact inX3
  · cases hq; exact inX4
  · cases hq; exact inX5
theorem jm_tys : ∀ (ci : Nat) (q : vw_C), vwCl[ci]? = some q → ∃ ty : Nat → FieldType, ∀ k, k < q.2.2 → parseFieldDescriptor (q.2.1 k).2.2.1 = some (ty k) := by
  intro ci q hq
  have hl : ci < 6 := (List.getElem?_eq_some_iff.mp hq).1
  rcases (show ci = 0 ∨ ci = 1 ∨ ci = 2 ∨ ci = 3 ∨ ci = 4 ∨ ci = 5 by omega) with rfl | rfl | rfl | rfl | rfl | rfl
  · cases hq; exact ⟨tyX0, tyX0_ok⟩
  · cases hq; exact ⟨tyX1, tyX1_ok⟩
  · cases hq; exact ⟨tyX2, tyX2_ok⟩
  · cases hq; exact ⟨tyX3, tyX3_ok⟩
  · cases hq; exact ⟨tyX4, tyX4_ok⟩
  · cases hq; exact ⟨tyX5, tyX5_ok⟩
theorem jm_nms : ∀ (ci : Nat) (q : vw_C), vwCl[ci]? = some q → ∀ a, a < q.2.2 → ∀ b, b < q.2.2 → a ≠ b → (q.2.1 a).2.1 ≠ (q.2.1 b).2.1 := by
  intro ci q hq
  have hl : ci < 6 := (List.getElem?_eq_some_iff.mp hq).1
  rcases (show ci = 0 ∨ ci = 1 ∨ ci = 2 ∨ ci = 3 ∨ ci = 4 ∨ ci = 5 by omega) with rfl | rfl | rfl | rfl | rfl | rfl
  · cases hq; exact nmX0
  · cases hq; exact nmX1
  · cases hq; exact nmX2
  · cases hq; exact nmX3
  · cases hq; exact nmX4
  · cases hq; exact nmX5
def jm_nest : List Cond := [.fieldLinkNest "GoalOrder" 97 "GoalOrder$Tree" "root" "LGoalOrder$Node;" "GoalOrder", .fieldLinkNest "GoalOrder" 105 "GoalOrder$Trial" "overrun" "Z" "GoalOrder", .methodLinkNest "GoalOrder$Trial" 164 ⟨"GoalOrder", "hasPlace", "(II)Z"⟩ "GoalOrder", .methodLinkNest "GoalOrder$Node" 64 ⟨"GoalOrder", "hasPlace", "(II)Z"⟩ "GoalOrder"]
theorem jm_nestIn : ∀ w ∈ jm_nest, w ∈ tables_1 := by
  intro w hw
  simp only [jm_nest, List.mem_cons, List.not_mem_nil, or_false] at hw
  rcases hw with rfl | rfl | rfl | rfl
  · exact jm_tb1 (List.mem_of_getElem? (i := 145) rfl)
  · exact jm_tb1 (List.mem_of_getElem? (i := 165) rfl)
  · exact jm_tb2 (List.mem_of_getElem? (i := 158) rfl)
  · exact jm_tb2 (List.mem_of_getElem? (i := 196) rfl)
def jm_over : List String := ["GoalOrder$Node"]
def jm_statics : List (String × String × Nat × List Int32) := [("GoalOrder", "FEWEST", 10, [0, 0, 0, 0, 0, 0, 2, 2, 1, 1, 1, 0, 0]), ("GoalOrder", "MOST", 11, [0, 0, 0, 0, 0, 0, 2, 2, 5, 1, 7, 6, 0])]
