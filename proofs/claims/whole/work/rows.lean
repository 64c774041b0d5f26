section
-- ===== PART A: goes FIRST, ahead of the names: the tables' words, and 'selects' of the private methods out of them =====
/-- a private method of a class that the tables say can be made, by its rows of tables_1 -/
def lw_okq (q : MethodName × Nat) : Prop := (q.1.cls ≠ "java/lang/invoke/MethodHandle" ∧ q.1.cls ≠ "java/lang/invoke/VarHandle") ∧ Cond.instantiable q.1.cls q.2 ∈ tables_1 ∧ Cond.privateMethod q.1 ∈ tables_1 ∧ Cond.instanceMethod q.1 ∈ tables_1
theorem lw_p0 : lw_okq (⟨"GoalOrder", "forgetOrdering", "()V"⟩, 9) := ⟨⟨by decide +kernel, by decide +kernel⟩, List.mem_of_getElem? (i := 8) (by decide +kernel), List.mem_of_getElem? (i := 224) (by decide +kernel), List.mem_of_getElem? (i := 225) (by decide +kernel)⟩
theorem lw_p1 : lw_okq (⟨"GoalOrder", "fits", "(III)Z"⟩, 9) := ⟨⟨by decide +kernel, by decide +kernel⟩, List.mem_of_getElem? (i := 8) (by decide +kernel), List.mem_of_getElem? (i := 260) (by decide +kernel), List.mem_of_getElem? (i := 261) (by decide +kernel)⟩
theorem lw_p2 : lw_okq (⟨"GoalOrder$Tree", "spreadVariables", "(LGoalOrder$Node;)V"⟩, 3) := ⟨⟨by decide +kernel, by decide +kernel⟩, List.mem_of_getElem? (i := 36) (by decide +kernel), List.mem_of_getElem? (i := 286) (by decide +kernel), List.mem_of_getElem? (i := 287) (by decide +kernel)⟩
theorem lw_p3 : lw_okq (⟨"GoalOrder$Trial", "canDo", "(LGoalOrder$Node;J)Z"⟩, 4) := ⟨⟨by decide +kernel, by decide +kernel⟩, List.mem_of_getElem? (i := 156) (by decide +kernel), List.mem_of_getElem? (i := 309) (by decide +kernel), List.mem_of_getElem? (i := 310) (by decide +kernel)⟩
theorem lw_p4 : lw_okq (⟨"GoalOrder$Trial", "canDoRow", "(LGoalOrder$Node;)Z"⟩, 4) := ⟨⟨by decide +kernel, by decide +kernel⟩, List.mem_of_getElem? (i := 156) (by decide +kernel), List.mem_of_getElem? (i := 313) (by decide +kernel), List.mem_of_getElem? (i := 314) (by decide +kernel)⟩
theorem lw_p5 : lw_okq (⟨"GoalOrder$Trial", "doLeftmost", "(LGoalOrder$Node;)LGoalOrder$Node;"⟩, 4) := ⟨⟨by decide +kernel, by decide +kernel⟩, List.mem_of_getElem? (i := 156) (by decide +kernel), List.mem_of_getElem? (i := 317) (by decide +kernel), List.mem_of_getElem? (i := 318) (by decide +kernel)⟩
theorem lw_p6 : lw_okq (⟨"GoalOrder$Trial", "canDoChoice", "(LGoalOrder$Node;)Z"⟩, 4) := ⟨⟨by decide +kernel, by decide +kernel⟩, List.mem_of_getElem? (i := 156) (by decide +kernel), List.mem_of_getElem? (i := 324) (by decide +kernel), List.mem_of_getElem? (i := 325) (by decide +kernel)⟩
theorem lw_p7 : lw_okq (⟨"GoalOrder$Trial", "canDoPart", "(LGoalOrder$Node;LGoalOrder$Node;J)Z"⟩, 4) := ⟨⟨by decide +kernel, by decide +kernel⟩, List.mem_of_getElem? (i := 156) (by decide +kernel), List.mem_of_getElem? (i := 329) (by decide +kernel), List.mem_of_getElem? (i := 330) (by decide +kernel)⟩
theorem lw_p8 : lw_okq (⟨"GoalOrder$Trial", "canJoin", "(LGoalOrder$Node;JJ)Z"⟩, 4) := ⟨⟨by decide +kernel, by decide +kernel⟩, List.mem_of_getElem? (i := 156) (by decide +kernel), List.mem_of_getElem? (i := 333) (by decide +kernel), List.mem_of_getElem? (i := 334) (by decide +kernel)⟩
theorem lw_p9 : lw_okq (⟨"GoalOrder$Trial", "outerOf", "(LGoalOrder$Node;)J"⟩, 4) := ⟨⟨by decide +kernel, by decide +kernel⟩, List.mem_of_getElem? (i := 156) (by decide +kernel), List.mem_of_getElem? (i := 337) (by decide +kernel), List.mem_of_getElem? (i := 338) (by decide +kernel)⟩
theorem lw_p10 : lw_okq (⟨"GoalOrder$Trial", "canDoNot", "(LGoalOrder$Node;)Z"⟩, 4) := ⟨⟨by decide +kernel, by decide +kernel⟩, List.mem_of_getElem? (i := 156) (by decide +kernel), List.mem_of_getElem? (i := 341) (by decide +kernel), List.mem_of_getElem? (i := 342) (by decide +kernel)⟩
theorem lw_p11 : lw_okq (⟨"GoalOrder$Trial", "canDoTest", "(LGoalOrder$Node;)Z"⟩, 4) := ⟨⟨by decide +kernel, by decide +kernel⟩, List.mem_of_getElem? (i := 156) (by decide +kernel), List.mem_of_getElem? (i := 348) (by decide +kernel), List.mem_of_getElem? (i := 349) (by decide +kernel)⟩
theorem lw_p12 : lw_okq (⟨"GoalOrder$Trial", "canDoAtom", "(LGoalOrder$Node;)Z"⟩, 4) := ⟨⟨by decide +kernel, by decide +kernel⟩, List.mem_of_getElem? (i := 156) (by decide +kernel), List.mem_of_getElem? (i := 356) (by decide +kernel), List.mem_of_getElem? (i := 357) (by decide +kernel)⟩
theorem lw_p13 : lw_okq (⟨"GoalOrder$Trial", "canDoCall", "(LGoalOrder$Node;)Z"⟩, 4) := ⟨⟨by decide +kernel, by decide +kernel⟩, List.mem_of_getElem? (i := 156) (by decide +kernel), List.mem_of_getElem? (i := 383) (by decide +kernel), List.mem_of_getElem? (i := 384) (by decide +kernel)⟩
theorem lw_p14 : lw_okq (⟨"GoalOrder", "madeAt", "(LGoalOrder$Node;)I"⟩, 9) := ⟨⟨by decide +kernel, by decide +kernel⟩, List.mem_of_getElem? (i := 8) (by decide +kernel), List.mem_of_getElem? (i := 428) (by decide +kernel), List.mem_of_getElem? (i := 429) (by decide +kernel)⟩
theorem lw_p15 : lw_okq (⟨"GoalOrderModel", "begin", "()V"⟩, 42) := ⟨⟨by decide +kernel, by decide +kernel⟩, List.mem_of_getElem? (i := 447) (by decide +kernel), List.mem_of_getElem? (i := 453) (by decide +kernel), List.mem_of_getElem? (i := 454) (by decide +kernel)⟩
def lw_privs_1 : List (MethodName × Nat) := [(⟨"GoalOrder", "forgetOrdering", "()V"⟩, 9), (⟨"GoalOrder", "fits", "(III)Z"⟩, 9), (⟨"GoalOrder$Tree", "spreadVariables", "(LGoalOrder$Node;)V"⟩, 3), (⟨"GoalOrder$Trial", "canDo", "(LGoalOrder$Node;J)Z"⟩, 4), (⟨"GoalOrder$Trial", "canDoRow", "(LGoalOrder$Node;)Z"⟩, 4), (⟨"GoalOrder$Trial", "doLeftmost", "(LGoalOrder$Node;)LGoalOrder$Node;"⟩, 4), (⟨"GoalOrder$Trial", "canDoChoice", "(LGoalOrder$Node;)Z"⟩, 4), (⟨"GoalOrder$Trial", "canDoPart", "(LGoalOrder$Node;LGoalOrder$Node;J)Z"⟩, 4), (⟨"GoalOrder$Trial", "canJoin", "(LGoalOrder$Node;JJ)Z"⟩, 4), (⟨"GoalOrder$Trial", "outerOf", "(LGoalOrder$Node;)J"⟩, 4), (⟨"GoalOrder$Trial", "canDoNot", "(LGoalOrder$Node;)Z"⟩, 4), (⟨"GoalOrder$Trial", "canDoTest", "(LGoalOrder$Node;)Z"⟩, 4), (⟨"GoalOrder$Trial", "canDoAtom", "(LGoalOrder$Node;)Z"⟩, 4), (⟨"GoalOrder$Trial", "canDoCall", "(LGoalOrder$Node;)Z"⟩, 4), (⟨"GoalOrder", "madeAt", "(LGoalOrder$Node;)I"⟩, 9), (⟨"GoalOrderModel", "begin", "()V"⟩, 42)]
theorem lw_r1 : ∀ q ∈ lw_privs_1, lw_okq q := List.forall_mem_cons.mpr ⟨lw_p0, List.forall_mem_cons.mpr ⟨lw_p1, List.forall_mem_cons.mpr ⟨lw_p2, List.forall_mem_cons.mpr ⟨lw_p3, List.forall_mem_cons.mpr ⟨lw_p4, List.forall_mem_cons.mpr ⟨lw_p5, List.forall_mem_cons.mpr ⟨lw_p6, List.forall_mem_cons.mpr ⟨lw_p7, List.forall_mem_cons.mpr ⟨lw_p8, List.forall_mem_cons.mpr ⟨lw_p9, List.forall_mem_cons.mpr ⟨lw_p10, List.forall_mem_cons.mpr ⟨lw_p11, List.forall_mem_cons.mpr ⟨lw_p12, List.forall_mem_cons.mpr ⟨lw_p13, List.forall_mem_cons.mpr ⟨lw_p14, List.forall_mem_cons.mpr ⟨lw_p15, fun _ h => absurd h List.not_mem_nil⟩⟩⟩⟩⟩⟩⟩⟩⟩⟩⟩⟩⟩⟩⟩⟩
theorem lw_p16 : lw_okq (⟨"GoalOrderModel", "made", "(II)I"⟩, 42) := ⟨⟨by decide +kernel, by decide +kernel⟩, List.mem_of_getElem? (i := 447) (by decide +kernel), List.mem_of_getElem? (i := 457) (by decide +kernel), List.mem_of_getElem? (i := 458) (by decide +kernel)⟩
theorem lw_p17 : lw_okq (⟨"GoalOrderModel", "changed", "()V"⟩, 42) := ⟨⟨by decide +kernel, by decide +kernel⟩, List.mem_of_getElem? (i := 447) (by decide +kernel), List.mem_of_getElem? (i := 461) (by decide +kernel), List.mem_of_getElem? (i := 462) (by decide +kernel)⟩
theorem lw_p18 : lw_okq (⟨"GoalOrderModel", "isParent", "(I)Z"⟩, 42) := ⟨⟨by decide +kernel, by decide +kernel⟩, List.mem_of_getElem? (i := 447) (by decide +kernel), List.mem_of_getElem? (i := 617) (by decide +kernel), List.mem_of_getElem? (i := 618) (by decide +kernel)⟩
theorem lw_p19 : lw_okq (⟨"GoalOrderModel", "isNode", "(I)Z"⟩, 42) := ⟨⟨by decide +kernel, by decide +kernel⟩, List.mem_of_getElem? (i := 447) (by decide +kernel), List.mem_of_getElem? (i := 621) (by decide +kernel), List.mem_of_getElem? (i := 622) (by decide +kernel)⟩
theorem lw_p20 : lw_okq (⟨"GoalOrderModel", "hasRow", "(II)Z"⟩, 42) := ⟨⟨by decide +kernel, by decide +kernel⟩, List.mem_of_getElem? (i := 447) (by decide +kernel), List.mem_of_getElem? (i := 625) (by decide +kernel), List.mem_of_getElem? (i := 626) (by decide +kernel)⟩
theorem lw_p21 : lw_okq (⟨"GoalOrderModel", "look", "()V"⟩, 42) := ⟨⟨by decide +kernel, by decide +kernel⟩, List.mem_of_getElem? (i := 447) (by decide +kernel), List.mem_of_getElem? (i := 641) (by decide +kernel), List.mem_of_getElem? (i := 642) (by decide +kernel)⟩
theorem lw_p22 : lw_okq (⟨"GoalOrderModel", "rowOf", "(II)J"⟩, 42) := ⟨⟨by decide +kernel, by decide +kernel⟩, List.mem_of_getElem? (i := 447) (by decide +kernel), List.mem_of_getElem? (i := 645) (by decide +kernel), List.mem_of_getElem? (i := 646) (by decide +kernel)⟩
theorem lw_p23 : lw_okq (⟨"GoalOrderModel", "tried", "(IJ)Z"⟩, 42) := ⟨⟨by decide +kernel, by decide +kernel⟩, List.mem_of_getElem? (i := 447) (by decide +kernel), List.mem_of_getElem? (i := 649) (by decide +kernel), List.mem_of_getElem? (i := 650) (by decide +kernel)⟩
theorem lw_p24 : lw_okq (⟨"GoalOrderModel", "atom", "(I)V"⟩, 42) := ⟨⟨by decide +kernel, by decide +kernel⟩, List.mem_of_getElem? (i := 447) (by decide +kernel), List.mem_of_getElem? (i := 653) (by decide +kernel), List.mem_of_getElem? (i := 654) (by decide +kernel)⟩
theorem lw_p25 : lw_okq (⟨"GoalOrderModel", "isIn", "(JI)Z"⟩, 42) := ⟨⟨by decide +kernel, by decide +kernel⟩, List.mem_of_getElem? (i := 447) (by decide +kernel), List.mem_of_getElem? (i := 657) (by decide +kernel), List.mem_of_getElem? (i := 658) (by decide +kernel)⟩
theorem lw_p26 : lw_okq (⟨"GoalOrderModel", "comes", "(IIJ)V"⟩, 42) := ⟨⟨by decide +kernel, by decide +kernel⟩, List.mem_of_getElem? (i := 447) (by decide +kernel), List.mem_of_getElem? (i := 661) (by decide +kernel), List.mem_of_getElem? (i := 662) (by decide +kernel)⟩
theorem lw_p27 : lw_okq (⟨"GoalOrderModel", "same", "(IIIJ)V"⟩, 42) := ⟨⟨by decide +kernel, by decide +kernel⟩, List.mem_of_getElem? (i := 447) (by decide +kernel), List.mem_of_getElem? (i := 665) (by decide +kernel), List.mem_of_getElem? (i := 666) (by decide +kernel)⟩
theorem lw_p28 : lw_okq (⟨"GoalOrderModel", "areIn", "(JJ)Z"⟩, 42) := ⟨⟨by decide +kernel, by decide +kernel⟩, List.mem_of_getElem? (i := 447) (by decide +kernel), List.mem_of_getElem? (i := 669) (by decide +kernel), List.mem_of_getElem? (i := 670) (by decide +kernel)⟩
theorem lw_p29 : lw_okq (⟨"GoalOrderModel", "compare", "(IIJ)V"⟩, 42) := ⟨⟨by decide +kernel, by decide +kernel⟩, List.mem_of_getElem? (i := 447) (by decide +kernel), List.mem_of_getElem? (i := 673) (by decide +kernel), List.mem_of_getElem? (i := 674) (by decide +kernel)⟩
theorem lw_p30 : lw_okq (⟨"GoalOrderModel", "call", "(IJ)V"⟩, 42) := ⟨⟨by decide +kernel, by decide +kernel⟩, List.mem_of_getElem? (i := 447) (by decide +kernel), List.mem_of_getElem? (i := 677) (by decide +kernel), List.mem_of_getElem? (i := 678) (by decide +kernel)⟩
theorem lw_p31 : lw_okq (⟨"GoalOrderModel", "goesOn", "()Z"⟩, 42) := ⟨⟨by decide +kernel, by decide +kernel⟩, List.mem_of_getElem? (i := 447) (by decide +kernel), List.mem_of_getElem? (i := 681) (by decide +kernel), List.mem_of_getElem? (i := 682) (by decide +kernel)⟩
def lw_privs_2 : List (MethodName × Nat) := [(⟨"GoalOrderModel", "made", "(II)I"⟩, 42), (⟨"GoalOrderModel", "changed", "()V"⟩, 42), (⟨"GoalOrderModel", "isParent", "(I)Z"⟩, 42), (⟨"GoalOrderModel", "isNode", "(I)Z"⟩, 42), (⟨"GoalOrderModel", "hasRow", "(II)Z"⟩, 42), (⟨"GoalOrderModel", "look", "()V"⟩, 42), (⟨"GoalOrderModel", "rowOf", "(II)J"⟩, 42), (⟨"GoalOrderModel", "tried", "(IJ)Z"⟩, 42), (⟨"GoalOrderModel", "atom", "(I)V"⟩, 42), (⟨"GoalOrderModel", "isIn", "(JI)Z"⟩, 42), (⟨"GoalOrderModel", "comes", "(IIJ)V"⟩, 42), (⟨"GoalOrderModel", "same", "(IIIJ)V"⟩, 42), (⟨"GoalOrderModel", "areIn", "(JJ)Z"⟩, 42), (⟨"GoalOrderModel", "compare", "(IIJ)V"⟩, 42), (⟨"GoalOrderModel", "call", "(IJ)V"⟩, 42), (⟨"GoalOrderModel", "goesOn", "()Z"⟩, 42)]
theorem lw_r2 : ∀ q ∈ lw_privs_2, lw_okq q := List.forall_mem_cons.mpr ⟨lw_p16, List.forall_mem_cons.mpr ⟨lw_p17, List.forall_mem_cons.mpr ⟨lw_p18, List.forall_mem_cons.mpr ⟨lw_p19, List.forall_mem_cons.mpr ⟨lw_p20, List.forall_mem_cons.mpr ⟨lw_p21, List.forall_mem_cons.mpr ⟨lw_p22, List.forall_mem_cons.mpr ⟨lw_p23, List.forall_mem_cons.mpr ⟨lw_p24, List.forall_mem_cons.mpr ⟨lw_p25, List.forall_mem_cons.mpr ⟨lw_p26, List.forall_mem_cons.mpr ⟨lw_p27, List.forall_mem_cons.mpr ⟨lw_p28, List.forall_mem_cons.mpr ⟨lw_p29, List.forall_mem_cons.mpr ⟨lw_p30, List.forall_mem_cons.mpr ⟨lw_p31, fun _ h => absurd h List.not_mem_nil⟩⟩⟩⟩⟩⟩⟩⟩⟩⟩⟩⟩⟩⟩⟩⟩
theorem lw_p32 : lw_okq (⟨"GoalOrderModel", "row", "(II)Z"⟩, 42) := ⟨⟨by decide +kernel, by decide +kernel⟩, List.mem_of_getElem? (i := 447) (by decide +kernel), List.mem_of_getElem? (i := 685) (by decide +kernel), List.mem_of_getElem? (i := 686) (by decide +kernel)⟩
theorem lw_p33 : lw_okq (⟨"GoalOrderModel", "ended", "(IZJ)V"⟩, 42) := ⟨⟨by decide +kernel, by decide +kernel⟩, List.mem_of_getElem? (i := 447) (by decide +kernel), List.mem_of_getElem? (i := 689) (by decide +kernel), List.mem_of_getElem? (i := 690) (by decide +kernel)⟩
theorem lw_p34 : lw_okq (⟨"GoalOrderModel", "choice", "(II)Z"⟩, 42) := ⟨⟨by decide +kernel, by decide +kernel⟩, List.mem_of_getElem? (i := 447) (by decide +kernel), List.mem_of_getElem? (i := 693) (by decide +kernel), List.mem_of_getElem? (i := 694) (by decide +kernel)⟩
theorem lw_p35 : lw_okq (⟨"GoalOrderModel", "not", "(II)Z"⟩, 42) := ⟨⟨by decide +kernel, by decide +kernel⟩, List.mem_of_getElem? (i := 447) (by decide +kernel), List.mem_of_getElem? (i := 698) (by decide +kernel), List.mem_of_getElem? (i := 699) (by decide +kernel)⟩
theorem lw_p36 : lw_okq (⟨"GoalOrderModel", "test", "(II)Z"⟩, 42) := ⟨⟨by decide +kernel, by decide +kernel⟩, List.mem_of_getElem? (i := 447) (by decide +kernel), List.mem_of_getElem? (i := 702) (by decide +kernel), List.mem_of_getElem? (i := 703) (by decide +kernel)⟩
theorem lw_p37 : lw_okq (⟨"GoalOrderModel", "stuckOf", "()I"⟩, 42) := ⟨⟨by decide +kernel, by decide +kernel⟩, List.mem_of_getElem? (i := 447) (by decide +kernel), List.mem_of_getElem? (i := 706) (by decide +kernel), List.mem_of_getElem? (i := 707) (by decide +kernel)⟩
def lw_privs_3 : List (MethodName × Nat) := [(⟨"GoalOrderModel", "row", "(II)Z"⟩, 42), (⟨"GoalOrderModel", "ended", "(IZJ)V"⟩, 42), (⟨"GoalOrderModel", "choice", "(II)Z"⟩, 42), (⟨"GoalOrderModel", "not", "(II)Z"⟩, 42), (⟨"GoalOrderModel", "test", "(II)Z"⟩, 42), (⟨"GoalOrderModel", "stuckOf", "()I"⟩, 42)]
theorem lw_r3 : ∀ q ∈ lw_privs_3, lw_okq q := List.forall_mem_cons.mpr ⟨lw_p32, List.forall_mem_cons.mpr ⟨lw_p33, List.forall_mem_cons.mpr ⟨lw_p34, List.forall_mem_cons.mpr ⟨lw_p35, List.forall_mem_cons.mpr ⟨lw_p36, List.forall_mem_cons.mpr ⟨lw_p37, fun _ h => absurd h List.not_mem_nil⟩⟩⟩⟩⟩⟩
def lw_privs : List (MethodName × Nat) := lw_privs_1 ++ (lw_privs_2 ++ (lw_privs_3))
def lw_tbl : List Cond := k2_sels lw_privs ++ tables_1
theorem lw_privs_ok : ∀ q ∈ lw_privs, lw_okq q := by
  show ∀ q ∈ lw_privs_1 ++ (lw_privs_2 ++ (lw_privs_3)), lw_okq q
  exact List.forall_mem_append.mpr ⟨lw_r1, List.forall_mem_append.mpr ⟨lw_r2, lw_r3⟩⟩
/-! the words that are the same for every method -/
def jm_tb : List Cond := lw_tbl.filter goodWord
theorem jm_good : ∀ w ∈ jm_tb, goodWord w = true := fun w h => (List.mem_filter.mp h).2
theorem jm_inT {w : Cond} (h : w ∈ tables_1) (g : goodWord w = true) : w ∈ jm_tb := List.mem_filter.mpr ⟨List.mem_append_right _ h, g⟩
theorem jm_in1 {w : Cond} (h : w ∈ tables_1_1) (g : goodWord w = true) : w ∈ jm_tb := jm_inT (List.mem_append_left _ h) g
theorem jm_in2 {w : Cond} (h : w ∈ tables_1_2) (g : goodWord w = true) : w ∈ jm_tb := jm_inT (List.mem_append_right _ (List.mem_append_left _ h)) g
theorem jm_in3 {w : Cond} (h : w ∈ tables_1_3) (g : goodWord w = true) : w ∈ jm_tb := jm_inT (List.mem_append_right _ (List.mem_append_right _ (List.mem_append_left _ h))) g
theorem jm_in4 {w : Cond} (h : w ∈ tables_1_4) (g : goodWord w = true) : w ∈ jm_tb := jm_inT (List.mem_append_right _ (List.mem_append_right _ (List.mem_append_right _ (h)))) g
theorem jm_inS {q : MethodName × Nat} (h : q ∈ lw_privs) : Cond.selects q.1.cls q.1 q.1 ∈ jm_tb := List.mem_filter.mpr ⟨List.mem_append_left _ (List.mem_map.mpr ⟨q, h, rfl⟩), rfl⟩
theorem jm_tb1 {w : Cond} (h : w ∈ tables_1_1) : w ∈ tables_1 := List.mem_append_left _ h
theorem jm_tb2 {w : Cond} (h : w ∈ tables_1_2) : w ∈ tables_1 := List.mem_append_right _ (List.mem_append_left _ h)
theorem jm_tb3 {w : Cond} (h : w ∈ tables_1_3) : w ∈ tables_1 := List.mem_append_right _ (List.mem_append_right _ (List.mem_append_left _ h))
theorem jm_tb4 {w : Cond} (h : w ∈ tables_1_4) : w ∈ tables_1 := List.mem_append_right _ (List.mem_append_right _ (List.mem_append_right _ (h)))
/-! classes -/
def RX0 : String := "GoalOrder$Node"
def TX0 : u_T := fun k => match k with
  | 0 => ("GoalOrder$Node", "number", "I", true)
  | 1 => ("GoalOrder$Node", "variables", "[I", true)
  | 2 => ("GoalOrder$Node", "many", "I", false)
  | 3 => ("GoalOrder$Node", "sort", "I", false)
  | 4 => ("GoalOrder$Node", "predicate", "I", false)
  | 5 => ("GoalOrder$Node", "depth", "I", false)
  | 6 => ("GoalOrder$Node", "parts", "I", false)
  | 7 => ("GoalOrder$Node", "parent", "LGoalOrder$Node;", false)
  | 8 => ("GoalOrder$Node", "firstPart", "LGoalOrder$Node;", false)
  | 9 => ("GoalOrder$Node", "lastPart", "LGoalOrder$Node;", false)
  | 10 => ("GoalOrder$Node", "nextPart", "LGoalOrder$Node;", false)
  | 11 => ("GoalOrder$Node", "within", "J", false)
  | 12 => ("GoalOrder$Node", "outside", "J", false)
  | 13 => ("GoalOrder$Node", "ahead", "J", false)
  | 14 => ("GoalOrder$Node", "behind", "J", false)
  | 15 => ("GoalOrder$Node", "way", "I", false)
  | 16 => ("GoalOrder$Node", "stuckNumber", "I", false)
  | 17 => ("GoalOrder$Node", "done", "Z", false)
  | 18 => ("GoalOrder$Node", "firstDone", "LGoalOrder$Node;", false)
  | _ => ("GoalOrder$Node", "nextDone", "LGoalOrder$Node;", false)
def tyX0 : Nat → FieldType := fun k => match k with
  | 0 => .int
  | 1 => .array .int
  | 2 => .int
  | 3 => .int
  | 4 => .int
  | 5 => .int
  | 6 => .int
  | 7 => .object "GoalOrder$Node"
  | 8 => .object "GoalOrder$Node"
  | 9 => .object "GoalOrder$Node"
  | 10 => .object "GoalOrder$Node"
  | 11 => .long
  | 12 => .long
  | 13 => .long
  | 14 => .long
  | 15 => .int
  | 16 => .int
  | 17 => .boolean
  | 18 => .object "GoalOrder$Node"
  | _ => .object "GoalOrder$Node"
theorem nmX0 : ∀ a, a < 20 → ∀ b, b < 20 → a ≠ b → (TX0 a).2.1 ≠ (TX0 b).2.1 := by decide +kernel
theorem tyX0_ok : ∀ k, k < 20 → parseFieldDescriptor (TX0 k).2.2.1 = some (tyX0 k) := by decide +kernel
theorem inX0 : ∀ w ∈ u_ws RX0 TX0 20, w ∈ jm_tb := by
  intro w hw
  obtain ⟨k, hk, rfl⟩ := List.mem_map.mp hw
  have hk := List.mem_range.mp hk
  rcases (show k = 0 ∨ k = 1 ∨ k = 2 ∨ k = 3 ∨ k = 4 ∨ k = 5 ∨ k = 6 ∨ k = 7 ∨ k = 8 ∨ k = 9 ∨ k = 10 ∨ k = 11 ∨ k = 12 ∨ k = 13 ∨ k = 14 ∨ k = 15 ∨ k = 16 ∨ k = 17 ∨ k = 18 ∨ k = 19 by omega) with rfl | rfl | rfl | rfl | rfl | rfl | rfl | rfl | rfl | rfl | rfl | rfl | rfl | rfl | rfl | rfl | rfl | rfl | rfl | rfl
  · exact jm_in1 (List.mem_of_getElem? (i := 94) rfl) rfl
  · exact jm_in1 (List.mem_of_getElem? (i := 96) rfl) rfl
  · exact jm_in1 (List.mem_of_getElem? (i := 98) rfl) rfl
  · exact jm_in1 (List.mem_of_getElem? (i := 100) rfl) rfl
  · exact jm_in1 (List.mem_of_getElem? (i := 102) rfl) rfl
  · exact jm_in1 (List.mem_of_getElem? (i := 104) rfl) rfl
  · exact jm_in1 (List.mem_of_getElem? (i := 106) rfl) rfl
  · exact jm_in1 (List.mem_of_getElem? (i := 108) rfl) rfl
  · exact jm_in1 (List.mem_of_getElem? (i := 110) rfl) rfl
  · exact jm_in1 (List.mem_of_getElem? (i := 112) rfl) rfl
  · exact jm_in1 (List.mem_of_getElem? (i := 114) rfl) rfl
  · exact jm_in1 (List.mem_of_getElem? (i := 116) rfl) rfl
  · exact jm_in1 (List.mem_of_getElem? (i := 118) rfl) rfl
  · exact jm_in1 (List.mem_of_getElem? (i := 120) rfl) rfl
  · exact jm_in1 (List.mem_of_getElem? (i := 122) rfl) rfl
  · exact jm_in1 (List.mem_of_getElem? (i := 124) rfl) rfl
  · exact jm_in1 (List.mem_of_getElem? (i := 126) rfl) rfl
  · exact jm_in1 (List.mem_of_getElem? (i := 128) rfl) rfl
  · exact jm_in1 (List.mem_of_getElem? (i := 130) rfl) rfl
  · exact jm_in1 (List.mem_of_getElem? (i := 132) rfl) rfl
def RX1 : String := "GoalOrder$Predicates"
def TX1 : u_T := fun k => match k with
  | 0 => ("GoalOrder$Predicates", "arguments", "[I", true)
  | 1 => ("GoalOrder$Predicates", "modes", "[I", true)
  | 2 => ("GoalOrder$Predicates", "outs", "[I", true)
  | _ => ("GoalOrder$Predicates", "count", "I", false)
def tyX1 : Nat → FieldType := fun k => match k with
  | 0 => .array .int
  | 1 => .array .int
  | 2 => .array .int
  | _ => .int
theorem nmX1 : ∀ a, a < 4 → ∀ b, b < 4 → a ≠ b → (TX1 a).2.1 ≠ (TX1 b).2.1 := by decide +kernel
theorem tyX1_ok : ∀ k, k < 4 → parseFieldDescriptor (TX1 k).2.2.1 = some (tyX1 k) := by decide +kernel
theorem inX1 : ∀ w ∈ u_ws RX1 TX1 4, w ∈ jm_tb := by
  intro w hw
  obtain ⟨k, hk, rfl⟩ := List.mem_map.mp hw
  have hk := List.mem_range.mp hk
  rcases (show k = 0 ∨ k = 1 ∨ k = 2 ∨ k = 3 by omega) with rfl | rfl | rfl | rfl
  · exact jm_in1 (List.mem_of_getElem? (i := 25) rfl) rfl
  · exact jm_in1 (List.mem_of_getElem? (i := 27) rfl) rfl
  · exact jm_in1 (List.mem_of_getElem? (i := 29) rfl) rfl
  · exact jm_in1 (List.mem_of_getElem? (i := 31) rfl) rfl
def RX2 : String := "GoalOrder$Tree"
def TX2 : u_T := fun k => match k with
  | 0 => ("GoalOrder$Tree", "root", "LGoalOrder$Node;", true)
  | 1 => ("GoalOrder$Tree", "nodes", "[LGoalOrder$Node;", true)
  | _ => ("GoalOrder$Tree", "count", "I", false)
def tyX2 : Nat → FieldType := fun k => match k with
  | 0 => .object "GoalOrder$Node"
  | 1 => .array (.object "GoalOrder$Node")
  | _ => .int
theorem nmX2 : ∀ a, a < 3 → ∀ b, b < 3 → a ≠ b → (TX2 a).2.1 ≠ (TX2 b).2.1 := by decide +kernel
theorem tyX2_ok : ∀ k, k < 3 → parseFieldDescriptor (TX2 k).2.2.1 = some (tyX2 k) := by decide +kernel
theorem inX2 : ∀ w ∈ u_ws RX2 TX2 3, w ∈ jm_tb := by
  intro w hw
  obtain ⟨k, hk, rfl⟩ := List.mem_map.mp hw
  have hk := List.mem_range.mp hk
  rcases (show k = 0 ∨ k = 1 ∨ k = 2 by omega) with rfl | rfl | rfl
  · exact jm_in1 (List.mem_of_getElem? (i := 148) rfl) rfl
  · exact jm_in1 (List.mem_of_getElem? (i := 150) rfl) rfl
  · exact jm_in1 (List.mem_of_getElem? (i := 152) rfl) rfl
def RX3 : String := "GoalOrder$Trial"
def TX3 : u_T := fun k => match k with
  | 0 => ("GoalOrder$Trial", "predicates", "LGoalOrder$Predicates;", true)
  | 1 => ("GoalOrder$Trial", "wantedNow", "J", false)
  | 2 => ("GoalOrder$Trial", "tries", "I", false)
  | _ => ("GoalOrder$Trial", "overrun", "Z", false)
def tyX3 : Nat → FieldType := fun k => match k with
  | 0 => .object "GoalOrder$Predicates"
  | 1 => .long
  | 2 => .int
  | _ => .boolean
theorem nmX3 : ∀ a, a < 4 → ∀ b, b < 4 → a ≠ b → (TX3 a).2.1 ≠ (TX3 b).2.1 := by decide +kernel
theorem tyX3_ok : ∀ k, k < 4 → parseFieldDescriptor (TX3 k).2.2.1 = some (tyX3 k) := by decide +kernel
theorem inX3 : ∀ w ∈ u_ws RX3 TX3 4, w ∈ jm_tb := by
  intro w hw
  obtain ⟨k, hk, rfl⟩ := List.mem_map.mp hw
  have hk := List.mem_range.mp hk
  rcases (show k = 0 ∨ k = 1 ∨ k = 2 ∨ k = 3 by omega) with rfl | rfl | rfl | rfl
  · exact jm_in1 (List.mem_of_getElem? (i := 166) rfl) rfl
  · exact jm_in1 (List.mem_of_getElem? (i := 168) rfl) rfl
  · exact jm_in1 (List.mem_of_getElem? (i := 170) rfl) rfl
  · exact jm_in1 (List.mem_of_getElem? (i := 172) rfl) rfl
def RX4 : String := "GoalOrder"
def TX4 : u_T := fun k => match k with
  | 0 => ("GoalOrder", "predicates", "LGoalOrder$Predicates;", true)
  | 1 => ("GoalOrder", "tree", "LGoalOrder$Tree;", true)
  | 2 => ("GoalOrder", "trial", "LGoalOrder$Trial;", true)
  | 3 => ("GoalOrder", "row", "[I", true)
  | 4 => ("GoalOrder", "rowMany", "I", false)
  | 5 => ("GoalOrder", "givenSet", "J", false)
  | 6 => ("GoalOrder", "wantedSet", "J", false)
  | 7 => ("GoalOrder", "ordered", "Z", false)
  | _ => ("GoalOrder", "stuckAt", "I", false)
def tyX4 : Nat → FieldType := fun k => match k with
  | 0 => .object "GoalOrder$Predicates"
  | 1 => .object "GoalOrder$Tree"
  | 2 => .object "GoalOrder$Trial"
  | 3 => .array .int
  | 4 => .int
  | 5 => .long
  | 6 => .long
  | 7 => .boolean
  | _ => .int
theorem nmX4 : ∀ a, a < 9 → ∀ b, b < 9 → a ≠ b → (TX4 a).2.1 ≠ (TX4 b).2.1 := by decide +kernel
theorem tyX4_ok : ∀ k, k < 9 → parseFieldDescriptor (TX4 k).2.2.1 = some (tyX4 k) := by decide +kernel
theorem inX4 : ∀ w ∈ u_ws RX4 TX4 9, w ∈ jm_tb := by
  intro w hw
  obtain ⟨k, hk, rfl⟩ := List.mem_map.mp hw
  have hk := List.mem_range.mp hk
  rcases (show k = 0 ∨ k = 1 ∨ k = 2 ∨ k = 3 ∨ k = 4 ∨ k = 5 ∨ k = 6 ∨ k = 7 ∨ k = 8 by omega) with rfl | rfl | rfl | rfl | rfl | rfl | rfl | rfl | rfl
  · exact jm_in1 (List.mem_of_getElem? (i := 184) rfl) rfl
  · exact jm_in1 (List.mem_of_getElem? (i := 186) rfl) rfl
  · exact jm_in1 (List.mem_of_getElem? (i := 188) rfl) rfl
  · exact jm_in1 (List.mem_of_getElem? (i := 190) rfl) rfl
  · exact jm_in1 (List.mem_of_getElem? (i := 192) rfl) rfl
  · exact jm_in1 (List.mem_of_getElem? (i := 194) rfl) rfl
  · exact jm_in1 (List.mem_of_getElem? (i := 196) rfl) rfl
  · exact jm_in1 (List.mem_of_getElem? (i := 198) rfl) rfl
  · exact jm_in1 (List.mem_of_getElem? (i := 200) rfl) rfl
def RX5 : String := "GoalOrderModel"
def TX5 : u_T := fun k => match k with
  | 0 => ("GoalOrderModel", "thrown", "I", false)
  | 1 => ("GoalOrderModel", "predicates", "I", false)
  | 2 => ("GoalOrderModel", "arity", "[I", true)
  | 3 => ("GoalOrderModel", "modes", "[I", true)
  | 4 => ("GoalOrderModel", "outs", "[I", true)
  | 5 => ("GoalOrderModel", "nodes", "I", false)
  | 6 => ("GoalOrderModel", "sort", "[I", true)
  | 7 => ("GoalOrderModel", "depth", "[I", true)
  | 8 => ("GoalOrderModel", "parent", "[I", true)
  | 9 => ("GoalOrderModel", "many", "[I", true)
  | 10 => ("GoalOrderModel", "first", "[I", true)
  | 11 => ("GoalOrderModel", "last", "[I", true)
  | 12 => ("GoalOrderModel", "next", "[I", true)
  | 13 => ("GoalOrderModel", "of", "[I", true)
  | 14 => ("GoalOrderModel", "width", "[I", true)
  | 15 => ("GoalOrderModel", "variable", "[I", true)
  | 16 => ("GoalOrderModel", "row", "[I", true)
  | 17 => ("GoalOrderModel", "rowMany", "I", false)
  | 18 => ("GoalOrderModel", "givens", "J", false)
  | 19 => ("GoalOrderModel", "wanteds", "J", false)
  | 20 => ("GoalOrderModel", "within", "[I", true)
  | 21 => ("GoalOrderModel", "outers", "[J", true)
  | 22 => ("GoalOrderModel", "inner", "[J", true)
  | 23 => ("GoalOrderModel", "ahead", "[J", true)
  | 24 => ("GoalOrderModel", "behind", "[J", true)
  | 25 => ("GoalOrderModel", "can", "[Z", true)
  | 26 => ("GoalOrderModel", "done", "[Z", true)
  | 27 => ("GoalOrderModel", "rank", "[I", true)
  | 28 => ("GoalOrderModel", "way", "[I", true)
  | 29 => ("GoalOrderModel", "alike", "[I", true)
  | 30 => ("GoalOrderModel", "blame", "[I", true)
  | 31 => ("GoalOrderModel", "frame", "[I", true)
  | 32 => ("GoalOrderModel", "step", "[I", true)
  | 33 => ("GoalOrderModel", "at", "[I", true)
  | 34 => ("GoalOrderModel", "ranks", "[I", true)
  | 35 => ("GoalOrderModel", "now", "[J", true)
  | 36 => ("GoalOrderModel", "each", "[J", true)
  | 37 => ("GoalOrderModel", "some", "[J", true)
  | 38 => ("GoalOrderModel", "frames", "I", false)
  | 39 => ("GoalOrderModel", "tries", "I", false)
  | 40 => ("GoalOrderModel", "ordered", "Z", false)
  | _ => ("GoalOrderModel", "stuckAt", "I", false)
def tyX5 : Nat → FieldType := fun k => match k with
  | 0 => .int
  | 1 => .int
  | 2 => .array .int
  | 3 => .array .int
  | 4 => .array .int
  | 5 => .int
  | 6 => .array .int
  | 7 => .array .int
  | 8 => .array .int
  | 9 => .array .int
  | 10 => .array .int
  | 11 => .array .int
  | 12 => .array .int
  | 13 => .array .int
  | 14 => .array .int
  | 15 => .array .int
  | 16 => .array .int
  | 17 => .int
  | 18 => .long
  | 19 => .long
  | 20 => .array .int
  | 21 => .array .long
  | 22 => .array .long
  | 23 => .array .long
  | 24 => .array .long
  | 25 => .array .boolean
  | 26 => .array .boolean
  | 27 => .array .int
  | 28 => .array .int
  | 29 => .array .int
  | 30 => .array .int
  | 31 => .array .int
  | 32 => .array .int
  | 33 => .array .int
  | 34 => .array .int
  | 35 => .array .long
  | 36 => .array .long
  | 37 => .array .long
  | 38 => .int
  | 39 => .int
  | 40 => .boolean
  | _ => .int
theorem nmX5 : ∀ a, a < 42 → ∀ b, b < 42 → a ≠ b → (TX5 a).2.1 ≠ (TX5 b).2.1 := by decide +kernel
theorem tyX5_ok : ∀ k, k < 42 → parseFieldDescriptor (TX5 k).2.2.1 = some (tyX5 k) := by decide +kernel
theorem inX5 : ∀ w ∈ u_ws RX5 TX5 42, w ∈ jm_tb := by
  intro w hw
  obtain ⟨k, hk, rfl⟩ := List.mem_map.mp hw
  have hk := List.mem_range.mp hk
  rcases (show k = 0 ∨ k = 1 ∨ k = 2 ∨ k = 3 ∨ k = 4 ∨ k = 5 ∨ k = 6 ∨ k = 7 ∨ k = 8 ∨ k = 9 ∨ k = 10 ∨ k = 11 ∨ k = 12 ∨ k = 13 ∨ k = 14 ∨ k = 15 ∨ k = 16 ∨ k = 17 ∨ k = 18 ∨ k = 19 ∨ k = 20 ∨ k = 21 ∨ k = 22 ∨ k = 23 ∨ k = 24 ∨ k = 25 ∨ k = 26 ∨ k = 27 ∨ k = 28 ∨ k = 29 ∨ k = 30 ∨ k = 31 ∨ k = 32 ∨ k = 33 ∨ k = 34 ∨ k = 35 ∨ k = 36 ∨ k = 37 ∨ k = 38 ∨ k = 39 ∨ k = 40 ∨ k = 41 by omega) with rfl | rfl | rfl | rfl | rfl | rfl | rfl | rfl | rfl | rfl | rfl | rfl | rfl | rfl | rfl | rfl | rfl | rfl | rfl | rfl | rfl | rfl | rfl | rfl | rfl | rfl | rfl | rfl | rfl | rfl | rfl | rfl | rfl | rfl | rfl | rfl | rfl | rfl | rfl | rfl | rfl | rfl
  · exact jm_in3 (List.mem_of_getElem? (i := 26) rfl) rfl
  · exact jm_in3 (List.mem_of_getElem? (i := 28) rfl) rfl
  · exact jm_in3 (List.mem_of_getElem? (i := 30) rfl) rfl
  · exact jm_in3 (List.mem_of_getElem? (i := 32) rfl) rfl
  · exact jm_in3 (List.mem_of_getElem? (i := 34) rfl) rfl
  · exact jm_in3 (List.mem_of_getElem? (i := 36) rfl) rfl
  · exact jm_in3 (List.mem_of_getElem? (i := 38) rfl) rfl
  · exact jm_in3 (List.mem_of_getElem? (i := 40) rfl) rfl
  · exact jm_in3 (List.mem_of_getElem? (i := 42) rfl) rfl
  · exact jm_in3 (List.mem_of_getElem? (i := 44) rfl) rfl
  · exact jm_in3 (List.mem_of_getElem? (i := 46) rfl) rfl
  · exact jm_in3 (List.mem_of_getElem? (i := 48) rfl) rfl
  · exact jm_in3 (List.mem_of_getElem? (i := 50) rfl) rfl
  · exact jm_in3 (List.mem_of_getElem? (i := 52) rfl) rfl
  · exact jm_in3 (List.mem_of_getElem? (i := 54) rfl) rfl
  · exact jm_in3 (List.mem_of_getElem? (i := 56) rfl) rfl
  · exact jm_in3 (List.mem_of_getElem? (i := 58) rfl) rfl
  · exact jm_in3 (List.mem_of_getElem? (i := 60) rfl) rfl
  · exact jm_in3 (List.mem_of_getElem? (i := 62) rfl) rfl
  · exact jm_in3 (List.mem_of_getElem? (i := 64) rfl) rfl
  · exact jm_in3 (List.mem_of_getElem? (i := 66) rfl) rfl
  · exact jm_in3 (List.mem_of_getElem? (i := 68) rfl) rfl
  · exact jm_in3 (List.mem_of_getElem? (i := 70) rfl) rfl
  · exact jm_in3 (List.mem_of_getElem? (i := 72) rfl) rfl
  · exact jm_in3 (List.mem_of_getElem? (i := 74) rfl) rfl
  · exact jm_in3 (List.mem_of_getElem? (i := 76) rfl) rfl
  · exact jm_in3 (List.mem_of_getElem? (i := 78) rfl) rfl
  · exact jm_in3 (List.mem_of_getElem? (i := 80) rfl) rfl
  · exact jm_in3 (List.mem_of_getElem? (i := 82) rfl) rfl
  · exact jm_in3 (List.mem_of_getElem? (i := 84) rfl) rfl
  · exact jm_in3 (List.mem_of_getElem? (i := 86) rfl) rfl
  · exact jm_in3 (List.mem_of_getElem? (i := 88) rfl) rfl
  · exact jm_in3 (List.mem_of_getElem? (i := 90) rfl) rfl
  · exact jm_in3 (List.mem_of_getElem? (i := 92) rfl) rfl
  · exact jm_in3 (List.mem_of_getElem? (i := 94) rfl) rfl
  · exact jm_in3 (List.mem_of_getElem? (i := 96) rfl) rfl
  · exact jm_in3 (List.mem_of_getElem? (i := 98) rfl) rfl
  · exact jm_in3 (List.mem_of_getElem? (i := 100) rfl) rfl
  · exact jm_in3 (List.mem_of_getElem? (i := 102) rfl) rfl
  · exact jm_in3 (List.mem_of_getElem? (i := 104) rfl) rfl
  · exact jm_in3 (List.mem_of_getElem? (i := 106) rfl) rfl
  · exact jm_in3 (List.mem_of_getElem? (i := 108) rfl) rfl
abbrev vwCl : List vw_C := [(RX0, TX0, 20), (RX1, TX1, 4), (RX2, TX2, 3), (RX3, TX3, 4), (RX4, TX4, 9), (RX5, TX5, 42)]
/-! kinds: objects 0 GoalOrder$Node, 1 GoalOrder$Predicates, 2 GoalOrder$Tree, 3 GoalOrder$Trial, 4 GoalOrder, 5 GoalOrderModel; arrays 6 GoalOrder$Node.variables[7], 7 GoalOrder$Predicates.arguments[60], 8 GoalOrder$Predicates.modes[60], 9 GoalOrder$Predicates.outs[240], 10 GoalOrder$Tree.nodes[250], 11 GoalOrder.row[7], 12 GoalOrderModel.arity[60], 13 GoalOrderModel.modes[60], 14 GoalOrderModel.outs[240], 15 GoalOrderModel.sort[250], 16 GoalOrderModel.depth[250], 17 GoalOrderModel.parent[250], 18 GoalOrderModel.many[250], 19 GoalOrderModel.first[250], 20 GoalOrderModel.last[250], 21 GoalOrderModel.next[250], 22 GoalOrderModel.of[250], 23 GoalOrderModel.width[250], 24 GoalOrderModel.variable[1750], 25 GoalOrderModel.row[7], 26 GoalOrderModel.within[15000], 27 GoalOrderModel.outers[250], 28 GoalOrderModel.inner[250], 29 GoalOrderModel.ahead[250], 30 GoalOrderModel.behind[250], 31 GoalOrderModel.can[250], 32 GoalOrderModel.done[250], 33 GoalOrderModel.rank[250], 34 GoalOrderModel.way[250], 35 GoalOrderModel.alike[250], 36 GoalOrderModel.blame[250], 37 GoalOrderModel.frame[40], 38 GoalOrderModel.step[40], 39 GoalOrderModel.at[40], 40 GoalOrderModel.ranks[40], 41 GoalOrderModel.now[40], 42 GoalOrderModel.each[40], 43 GoalOrderModel.some[40] -/
def kTab : List (List Nat) := [[0, 9, 0, 0, 0, 0, 0, 3, 3, 3, 3, 1, 1, 1, 1, 0, 0, 2, 3, 3], [10, 11, 12, 0], [3, 13, 0], [4, 1, 0, 2], [4, 5, 6, 14, 0, 1, 1, 2, 0], [0, 0, 15, 16, 17, 0, 18, 19, 20, 21, 22, 23, 24, 25, 26, 27, 28, 0, 1, 1, 29, 30, 31, 32, 33, 34, 35, 36, 37, 38, 39, 40, 41, 42, 43, 44, 45, 46, 0, 0, 2, 0], [0], [0], [0], [0], [3], [0], [0], [0], [0], [0], [0], [0], [0], [0], [0], [0], [0], [0], [0], [0], [0], [1], [1], [1], [1], [2], [2], [0], [0], [0], [0], [0], [0], [0], [0], [1], [1], [1]]
def kLen : List Nat := [0, 0, 0, 0, 0, 0, 7, 60, 60, 240, 250, 7, 60, 60, 240, 250, 250, 250, 250, 250, 250, 250, 250, 250, 1750, 7, 15000, 250, 250, 250, 250, 250, 250, 250, 250, 250, 250, 40, 40, 40, 40, 40, 40, 40]
def kAtT : List Nat := [0, 0, 0, 0, 0, 0, 0, 0, 0, 0, 1, 0, 0, 0, 0, 0, 0, 0, 0, 0, 0, 0, 0, 0, 0, 0, 0, 2, 2, 2, 2, 3, 3, 0, 0, 0, 0, 0, 0, 0, 0, 2, 2, 2]
def kob (k : Nat) : Option Nat := if k < 6 then some k else none
def kly (k j : Nat) : Nat := if k < 6 then (kTab.getD k []).getD j 0 else (kTab.getD k []).getD 0 0
def kln (k : Nat) : Nat := kLen.getD k 0
def kat (k : Nat) : Nat := kAtT.getD k 0
def katy (t : Nat) : FieldType := match t with
  | 0 => .int
  | 1 => .object "GoalOrder$Node"
  | 2 => .long
  | _ => .boolean
abbrev katn : Nat := 4
abbrev aV : Type := Int32 ⊕ (Int64 ⊕ Option (Nat × Nat))
abbrev vI (x : Int32) : aV := .inl x
abbrev vL (x : Int64) : aV := .inr (.inl x)
abbrev vR (r : Option (Nat × Nat)) : aV := .inr (.inr r)
abbrev aS : Type := (Nat → Nat → Nat → Int32) × (Nat → Nat → Nat → Int64) × (Nat → Nat → Nat → Option Nat) × (Nat → Nat)
abbrev mD : Type := va_G × Heap × (Nat → Nat)
abbrev mM : Type := MethodName × ByteArray × Nat × Option FieldType
def u3 {α : Type} (f : Nat → Nat → Nat → α) (k i j : Nat) (v : α) : Nat → Nat → Nat → α := fun a b c => if a = k ∧ b = i ∧ c = j then v else f a b c
def z3 {α : Type} (f : Nat → Nat → Nat → α) (k i : Nat) (v : α) : Nat → Nat → Nat → α := fun a b c => if a = k ∧ b = i then v else f a b c
def sI (st : aS) (k i j : Nat) (v : Int32) : aS := (u3 st.1 k i j v, st.2)
def sL (st : aS) (k i j : Nat) (v : Int64) : aS := (st.1, u3 st.2.1 k i j v, st.2.2)
def sR (st : aS) (k i j : Nat) (v : Option Nat) : aS := (st.1, st.2.1, u3 st.2.2.1 k i j v, st.2.2.2)
def sNew (st : aS) (k : Nat) : aS := (z3 st.1 k (st.2.2.2 k) 0, z3 st.2.1 k (st.2.2.2 k) 0, z3 st.2.2.1 k (st.2.2.2 k) none, fun a => if a = k then st.2.2.2 a + 1 else st.2.2.2 a)
/-! the tables, class by class -/
theorem jm_lays : ∀ (ci : Nat) (q : vw_C), vwCl[ci]? = some q → ∀ w ∈ u_ws q.1 q.2.1 q.2.2, w ∈ jm_tb := by
  intro ci q hq
  have hl : ci < 6 := (List.getElem?_eq_some_iff.mp hq).1
  rcases (show ci = 0 ∨ ci = 1 ∨ ci = 2 ∨ ci = 3 ∨ ci = 4 ∨ ci = 5 by omega) with rfl | rfl | rfl | rfl | rfl | rfl
  · cases hq; exact inX0
  · cases hq; exact inX1
  · cases hq; exact inX2
  · cases hq; exact inX3
  · cases hq; exact inX4
  · cases hq; exact inX5
theorem jm_tys : ∀ (ci : Nat) (q : vw_C), vwCl[ci]? = some q → ∃ ty : Nat → FieldType, ∀ k, k < q.2.2 → parseFieldDescriptor (q.2.1 k).2.2.1 = some (ty k) := by
  intro ci q hq
  have hl : ci < 6 := (List.getElem?_eq_some_iff.mp hq).1
  rcases (show ci = 0 ∨ ci = 1 ∨ ci = 2 ∨ ci = 3 ∨ ci = 4 ∨ ci = 5 by omega) with rfl | rfl | rfl | rfl | rfl | rfl
  · cases hq; exact ⟨tyX0, tyX0_ok⟩
  · cases hq; exact ⟨tyX1, tyX1_ok⟩
  · cases hq; exact ⟨tyX2, tyX2_ok⟩
  · cases hq; exact ⟨tyX3, tyX3_ok⟩
  · cases hq; exact ⟨tyX4, tyX4_ok⟩
  · cases hq; exact ⟨tyX5, tyX5_ok⟩
theorem jm_nms : ∀ (ci : Nat) (q : vw_C), vwCl[ci]? = some q → ∀ a, a < q.2.2 → ∀ b, b < q.2.2 → a ≠ b → (q.2.1 a).2.1 ≠ (q.2.1 b).2.1 := by
  intro ci q hq
  have hl : ci < 6 := (List.getElem?_eq_some_iff.mp hq).1
  rcases (show ci = 0 ∨ ci = 1 ∨ ci = 2 ∨ ci = 3 ∨ ci = 4 ∨ ci = 5 by omega) with rfl | rfl | rfl | rfl | rfl | rfl
  · cases hq; exact nmX0
  · cases hq; exact nmX1
  · cases hq; exact nmX2
  · cases hq; exact nmX3
  · cases hq; exact nmX4
  · cases hq; exact nmX5
def jm_nest : List Cond := [.fieldLinkNest "GoalOrder" 97 "GoalOrder$Tree" "root" "LGoalOrder$Node;" "GoalOrder", .fieldLinkNest "GoalOrder" 105 "GoalOrder$Trial" "overrun" "Z" "GoalOrder", .methodLinkNest "GoalOrder$Trial" 164 ⟨"GoalOrder", "hasPlace", "(II)Z"⟩ "GoalOrder", .methodLinkNest "GoalOrder$Node" 64 ⟨"GoalOrder", "hasPlace", "(II)Z"⟩ "GoalOrder"]
theorem jm_nestIn : ∀ w ∈ jm_nest, w ∈ tables_1 := by
  intro w hw
  simp only [jm_nest, List.mem_cons, List.not_mem_nil, or_false] at hw
  rcases hw with rfl | rfl | rfl | rfl
  · exact jm_tb1 (List.mem_of_getElem? (i := 145) rfl)
  · exact jm_tb1 (List.mem_of_getElem? (i := 165) rfl)
  · exact jm_tb2 (List.mem_of_getElem? (i := 158) rfl)
  · exact jm_tb2 (List.mem_of_getElem? (i := 196) rfl)
def jm_over : List String := ["GoalOrder$Node"]
def jm_statics : List (String × String × Nat × List Int32) := [("GoalOrder", "FEWEST", 10, [0, 0, 0, 0, 0, 0, 2, 2, 1, 1, 1, 0, 0]), ("GoalOrder", "MOST", 11, [0, 0, 0, 0, 0, 0, 2, 2, 5, 1, 7, 6, 0])]
end
section

/-! THE MACHINE OVER AN ABSTRACT HEAP. A value is an int, a long, or a reference (kind, number); a state is (ints, longs, references, how many of a kind there are). -/
def jm_c (ad : Nat → Nat → Nat) (v : aV) : Value := match v with
  | .inl x => .int x
  | .inr (.inl y) => .long y
  | .inr (.inr r) => va_rf (r.map fun q => ad q.1 q.2)
def jm_cat (v : aV) : Nat := match v with
  | .inr (.inl _) => 2
  | _ => 1
theorem jm_cat_c (ad : Nat → Nat → Nat) (v : aV) : (jm_c ad v).category = jm_cat v := by
  rcases v with x | y | r
  · rfl
  · rfl
  · cases r <;> rfl
def jm_ok (al : Nat → Nat) (v : aV) : Prop := match v with
  | .inr (.inr (some q)) => q.2 < al q.1
  | _ => True
def jm_ext (al : Nat → Nat) (ad ad' : Nat → Nat → Nat) : Prop := ∀ k i, i < al k → ad' k i = ad k i
theorem jm_ok_mono {al al' : Nat → Nat} (h : ∀ k, al k ≤ al' k) {v : aV} (hv : jm_ok al v) : jm_ok al' v := by
  rcases v with x | y | r
  · trivial
  · trivial
  · cases r with
    | none => trivial
    | some q => exact Nat.lt_of_lt_of_le hv (h q.1)
theorem jm_c_ext {al : Nat → Nat} {ad ad' : Nat → Nat → Nat} (h : jm_ext al ad ad') {v : aV} (hv : jm_ok al v) : jm_c ad' v = jm_c ad v := by
  rcases v with x | y | r
  · rfl
  · rfl
  · cases r with
    | none => rfl
    | some q => show va_rf (some (ad' q.1 q.2)) = va_rf (some (ad q.1 q.2)); rw [h q.1 q.2 hv]
def jm_okS (al : Nat → Nat) : List aV → Prop
  | [] => True
  | v :: r => jm_ok al v ∧ jm_okS al r
theorem jm_okS_mono {al al' : Nat → Nat} (h : ∀ k, al k ≤ al' k) : ∀ {sk : List aV}, jm_okS al sk → jm_okS al' sk
  | [], _ => trivial
  | _ :: _, hv => ⟨jm_ok_mono h hv.1, jm_okS_mono h hv.2⟩
theorem jm_map_ext {al : Nat → Nat} {ad ad' : Nat → Nat → Nat} (h : jm_ext al ad ad') : ∀ {sk : List aV}, jm_okS al sk → sk.map (jm_c ad') = sk.map (jm_c ad)
  | [], _ => rfl
  | v :: r, hv => by rw [List.map_cons, List.map_cons, jm_c_ext h hv.1, jm_map_ext h hv.2]
theorem jm_okS_app {al : Nat → Nat} : ∀ {a b : List aV}, jm_okS al (a ++ b) → jm_okS al a ∧ jm_okS al b
  | [], _, h => ⟨trivial, h⟩
  | _ :: _, _, h => ⟨⟨h.1, (jm_okS_app h.2).1⟩, (jm_okS_app h.2).2⟩
theorem jm_okS_join {al : Nat → Nat} : ∀ {a b : List aV}, jm_okS al a → jm_okS al b → jm_okS al (a ++ b)
  | [], _, _, h => h
  | _ :: _, _, ha, hb => ⟨ha.1, jm_okS_join ha.2 hb⟩
theorem jm_okS_rev {al : Nat → Nat} : ∀ {a : List aV}, jm_okS al a.reverse → jm_okS al a
  | [], _ => trivial
  | v :: r, h => by
    rw [List.reverse_cons] at h
    have := jm_okS_app h
    exact ⟨this.2.1, jm_okS_rev this.1⟩
def jm_okL (al : Nat → Nat) (ls : List (Option aV)) : Prop := ∀ (i : Nat) (v : aV), ls[i]? = some (some v) → jm_ok al v
theorem jm_okL_mono {al al' : Nat → Nat} (h : ∀ k, al k ≤ al' k) {ls : List (Option aV)} (hv : jm_okL al ls) : jm_okL al' ls := fun i v e => jm_ok_mono h (hv i v e)
/-! locals -/
def jm_lo (ad : Nat → Nat → Nat) (lsA : Array Slot) (n : Nat) (ls : List (Option aV)) : Prop := lsA.size = n ∧ lv_wf lsA ∧ ∀ (i : Nat) (v : aV), ls[i]? = some (some v) → lsA[i]? = some (.val (jm_c ad v))
theorem jm_lo_ext {al : Nat → Nat} {ad ad' : Nat → Nat → Nat} (h : jm_ext al ad ad') {lsA : Array Slot} {n : Nat} {ls : List (Option aV)} (ho : jm_okL al ls) (hl : jm_lo ad lsA n ls) : jm_lo ad' lsA n ls :=
  ⟨hl.1, hl.2.1, fun i v e => by rw [jm_c_ext h (ho i v e)]; exact hl.2.2 i v e⟩
def jm_clr (x : Option aV) : Option aV := match x with
  | some (.inr (.inl _)) => none
  | y => y
def jm_put1 (ls : List (Option aV)) (i : Nat) (v : aV) : List (Option aV) := match i with
  | 0 => ls.set 0 (some v)
  | i + 1 => (ls.modify i jm_clr).set (i + 1) (some v)
def jm_put2 (ls : List (Option aV)) (i : Nat) (v : aV) : List (Option aV) := (jm_put1 ls i v).set (i + 1) none
def jm_lv (ad : Nat → Nat → Nat) (ls : List (Option aV)) : List (Nat × Value) := (List.range ls.length).filterMap fun i => match ls[i]? with
  | some (some v) => some (i, jm_c ad v)
  | _ => none
theorem jm_lv_mem {ad : Nat → Nat → Nat} {ls : List (Option aV)} {i : Nat} {v : aV} (h : ls[i]? = some (some v)) : (i, jm_c ad v) ∈ jm_lv ad ls := by
  refine List.mem_filterMap.mpr ⟨i, List.mem_range.mpr (List.getElem?_eq_some_iff.mp h).1, ?_⟩
  simp only [h]
theorem jm_lv_of {ad : Nat → Nat → Nat} {ls : List (Option aV)} {q : Nat × Value} (h : q ∈ jm_lv ad ls) : ∃ v, ls[q.1]? = some (some v) ∧ q.2 = jm_c ad v := by
  obtain ⟨i, -, hi⟩ := List.mem_filterMap.mp h
  split at hi
  · next v hv => cases hi; exact ⟨v, hv, rfl⟩
  · cases hi
theorem jm_lo.has {ad : Nat → Nat → Nat} {lsA : Array Slot} {n : Nat} {ls : List (Option aV)} (h : jm_lo ad lsA n ls) : lv_has lsA n (jm_lv ad ls) := by
  refine ⟨h.1, h.2.1, fun q hq => ?_⟩
  obtain ⟨v, h1, h2⟩ := jm_lv_of hq
  rw [h2]
  exact h.2.2 _ _ h1
theorem jm_put1_get {ls : List (Option aV)} {i j : Nat} {v w : aV} (h : (jm_put1 ls i v)[j]? = some (some w)) : (j = i ∧ w = v) ∨ (j ≠ i ∧ ls[j]? = some (some w) ∧ ¬ (j + 1 = i ∧ jm_cat w = 2)) := by
  cases i with
  | zero =>
    simp only [jm_put1, List.getElem?_set] at h
    split at h
    · next e => split at h <;> simp at h; exact Or.inl ⟨e.symm, h.symm⟩
    · next e => exact Or.inr ⟨fun q => e q.symm, h, fun q => by omega⟩
  | succ i =>
    simp only [jm_put1, List.getElem?_set] at h
    split at h
    · next e => split at h <;> simp at h; exact Or.inl ⟨e.symm, h.symm⟩
    · next e =>
      rw [List.getElem?_modify] at h
      by_cases hj : i = j
      · subst hj
        cases hx : ls[i]? with
        | none => simp [hx] at h
        | some x =>
          simp [hx] at h
          cases x with
          | none => simp [jm_clr] at h
          | some y =>
            rcases y with y | y | y
            · simp [jm_clr] at h; subst h; exact Or.inr ⟨by omega, rfl, fun q => by simp [jm_cat] at q⟩
            · simp [jm_clr] at h
            · simp [jm_clr] at h; subst h; exact Or.inr ⟨by omega, rfl, fun q => by simp [jm_cat] at q⟩
      · simp [hj] at h
        exact Or.inr ⟨fun q => e q.symm, h, fun q => by omega⟩
theorem jm_lo.st1 {ad : Nat → Nat → Nat} {lsB : Array Slot} {n i : Nat} {ls : List (Option aV)} {v : aV} (h : lv_has lsB n ((i, jm_c ad v) :: (jm_lv ad ls).filter (fun q => !(q.1 == i) && !(q.1 + 1 == i && q.2.category == 2)))) : jm_lo ad lsB n (jm_put1 ls i v) := by
  refine ⟨h.1, h.2.1, fun j w hw => ?_⟩
  rcases jm_put1_get hw with ⟨rfl, rfl⟩ | ⟨h1, h2, h3⟩
  · exact h.2.2 _ List.mem_cons_self
  · refine h.2.2 (j, jm_c ad w) (List.mem_cons_of_mem _ (List.mem_filter.mpr ⟨jm_lv_mem h2, ?_⟩))
    simp only [jm_cat_c]
    simp [h1]
    by_cases q : j + 1 = i
    · exact Or.inr (fun z => h3 ⟨q, z⟩)
    · exact Or.inl q
theorem jm_lo.st2 {ad : Nat → Nat → Nat} {lsB : Array Slot} {n i : Nat} {ls : List (Option aV)} {v : aV} (h : lv_has lsB n ((i, jm_c ad v) :: (jm_lv ad ls).filter (fun q => !(q.1 == i) && (!(q.1 == i + 1) && !(q.1 + 1 == i && q.2.category == 2))))) : jm_lo ad lsB n (jm_put2 ls i v) := by
  refine ⟨h.1, h.2.1, fun j w hw => ?_⟩
  unfold jm_put2 at hw
  rw [List.getElem?_set] at hw
  split at hw
  · split at hw <;> simp at hw
  · next e =>
    rcases jm_put1_get hw with ⟨rfl, rfl⟩ | ⟨h1, h2, h3⟩
    · exact h.2.2 _ List.mem_cons_self
    · refine h.2.2 (j, jm_c ad w) (List.mem_cons_of_mem _ (List.mem_filter.mpr ⟨jm_lv_mem h2, ?_⟩))
      simp only [jm_cat_c]
      simp [h1]
      refine ⟨fun q => e q.symm, ?_⟩
      by_cases q : j + 1 = i
      · exact Or.inr (fun z => h3 ⟨q, z⟩)
      · exact Or.inl q
theorem jm_okL.put1 {al : Nat → Nat} {ls : List (Option aV)} {i : Nat} {v : aV} (h : jm_okL al ls) (hv : jm_ok al v) : jm_okL al (jm_put1 ls i v) := by
  intro j w hw
  rcases jm_put1_get hw with ⟨rfl, rfl⟩ | ⟨h1, h2, h3⟩
  · exact hv
  · exact h j w h2
theorem jm_okL.put2 {al : Nat → Nat} {ls : List (Option aV)} {i : Nat} {v : aV} (h : jm_okL al ls) (hv : jm_ok al v) : jm_okL al (jm_put2 ls i v) := by
  intro j w hw
  unfold jm_put2 at hw
  rw [List.getElem?_set] at hw
  split at hw
  · split at hw <;> simp at hw
  · rcases jm_put1_get hw with ⟨rfl, rfl⟩ | ⟨h1, h2, h3⟩
    · exact hv
    · exact h j w h2
/-! the heap -/
def jm_val (ad : Nat → Nat → Nat) (st : aS) (k i j : Nat) : Value := match kly k j with
  | 0 => .int (st.1 k i j)
  | 1 => .long (st.2.1 k i j)
  | 2 => .int (st.1 k i j)
  | c + 3 => va_rf ((st.2.2.1 k i j).map (ad c))
def jm_cell (D : mD) (ad : Nat → Nat → Nat) (st : aS) (k i : Nat) (H : Heap) : Prop := match kob k with
  | some ci => ∃ q : vw_C, vwCl[ci]? = some q ∧ t_OB (ad k i) (D.1.1 ci) q.2.2 (D.1.2 ci) H (jm_val ad st k i)
  | none => H[ad k i]? = some (arrV (D.2.2 (kat k)) (kln k) (jm_val ad st k i))
def jm_R (D : mD) (ad : Nat → Nat → Nat) (st : aS) (H : Heap) : Prop := (∀ k i, i < st.2.2.2 k → jm_cell D ad st k i H) ∧ (∀ k i k' i', i < st.2.2.2 k → i' < st.2.2.2 k' → ad k i = ad k' i' → k = k' ∧ i = i') ∧ (∀ k i, i < st.2.2.2 k → D.2.1.size ≤ ad k i) ∧ (∀ k i j c, i < st.2.2.2 k → kly k j = c + 3 → ∀ t, st.2.2.1 k i j = some t → t < st.2.2.2 c) ∧ (∀ q, q < D.2.1.size → H[q]? = D.2.1[q]?) ∧ D.2.1.size ≤ H.size
theorem jm_cell.kept {D : mD} {ad : Nat → Nat → Nat} {st : aS} {k i : Nat} {H H1 : Heap} (h : jm_cell D ad st k i H) (hq : H1[ad k i]? = H[ad k i]?) : jm_cell D ad st k i H1 := by
  unfold jm_cell at h ⊢
  cases hk : kob k with
  | none => rw [hk] at h; exact hq.trans h
  | some ci =>
    rw [hk] at h
    obtain ⟨q, h1, h2⟩ := h
    exact ⟨q, h1, h2.kept hq⟩
theorem jm_cell.lt {D : mD} {ad : Nat → Nat → Nat} {st : aS} {k i : Nat} {H : Heap} (h : jm_cell D ad st k i H) : ad k i < H.size := by
  unfold jm_cell at h
  cases hk : kob k with
  | none => rw [hk] at h; exact (Array.getElem?_eq_some_iff.mp h).1
  | some ci =>
    rw [hk] at h
    obtain ⟨q, h1, cell, h2, -⟩ := h
    exact (Array.getElem?_eq_some_iff.mp h2).1
theorem jm_cell.to {D : mD} {ad ad' : Nat → Nat → Nat} {st st' : aS} {k i : Nat} {H : Heap} (h : jm_cell D ad st k i H) (ha : ad' k i = ad k i) (hv : ∀ j, jm_val ad' st' k i j = jm_val ad st k i j) : jm_cell D ad' st' k i H := by
  have e : jm_val ad' st' k i = jm_val ad st k i := funext hv
  unfold jm_cell at h ⊢
  rw [ha, e]
  exact h
theorem jm_R.set {D : mD} {ad : Nat → Nat → Nat} {st st' : aS} {H H1 : Heap} {k i : Nat} (h : jm_R D ad st H) (hi : i < st.2.2.2 k) (hal : st'.2.2.2 = st.2.2.2) (hs : ∀ a b, ¬ (a = k ∧ b = i) → ∀ j, st'.1 a b j = st.1 a b j ∧ st'.2.1 a b j = st.2.1 a b j ∧ st'.2.2.1 a b j = st.2.2.1 a b j)
    (hc : ∀ j c, kly k j = c + 3 → ∀ t, st'.2.2.1 k i j = some t → t < st.2.2.2 c) (hz : H1.size = H.size) (oq : ∀ q, q ≠ ad k i → H1[q]? = H[q]?) (hn : jm_cell D ad st' k i H1) : jm_R D ad st' H1 := by
  obtain ⟨h1, h2, h3, h4, h5, h6⟩ := h
  refine ⟨fun a b hb => ?_, ?_, ?_, fun a b j c hb hj t ht => ?_, fun q hq => ?_, by rw [hz]; exact h6⟩
  · rw [hal] at hb
    by_cases e : a = k ∧ b = i
    · obtain ⟨rfl, rfl⟩ := e; exact hn
    · refine ((h1 a b hb).to rfl (fun j => ?_)).kept (oq _ fun z => e (h2 _ _ _ _ hb hi z))
      obtain ⟨e1, e2, e3⟩ := hs a b e j
      simp only [jm_val, e1, e2, e3]
  · rw [hal]; exact h2
  · rw [hal]; exact h3
  · rw [hal] at hb ⊢
    by_cases e : a = k ∧ b = i
    · obtain ⟨rfl, rfl⟩ := e; exact hc j c hj t ht
    · rw [(hs a b e j).2.2] at ht; exact h4 a b j c hb hj t ht
  · rw [oq q (fun z => by have := h3 k i hi; omega)]; exact h5 q hq
def jm_up2 (ad : Nat → Nat → Nat) (k i a : Nat) : Nat → Nat → Nat := fun x y => if x = k ∧ y = i then a else ad x y
theorem jm_R.new {D : mD} {ad : Nat → Nat → Nat} {st : aS} {H H1 : Heap} {k : Nat} (h : jm_R D ad st H) (hz : H1.size = H.size + 1) (oq : ∀ q, q < H.size → H1[q]? = H[q]?)
    (hn : jm_cell D (jm_up2 ad k (st.2.2.2 k) H.size) (sNew st k) k (st.2.2.2 k) H1) : jm_R D (jm_up2 ad k (st.2.2.2 k) H.size) (sNew st k) H1 ∧ jm_ext st.2.2.2 ad (jm_up2 ad k (st.2.2.2 k) H.size) := by
  obtain ⟨h1, h2, h3, h4, h5, h6⟩ := h
  have hx : jm_ext st.2.2.2 ad (jm_up2 ad k (st.2.2.2 k) H.size) := by
    intro a b hb
    unfold jm_up2
    rw [if_neg (fun q => by obtain ⟨rfl, rfl⟩ := q; omega)]
  have hal : ∀ a b, b < (sNew st k).2.2.2 a → (a = k ∧ b = st.2.2.2 k) ∨ (¬ (a = k ∧ b = st.2.2.2 k) ∧ b < st.2.2.2 a) := by
    intro a b hb
    simp only [sNew] at hb
    by_cases e : a = k
    · subst e; simp at hb; by_cases e2 : b = st.2.2.2 a
      · exact Or.inl ⟨rfl, e2⟩
      · exact Or.inr ⟨fun q => e2 q.2, by omega⟩
    · simp [e] at hb; exact Or.inr ⟨fun q => e q.1, hb⟩
  have hm : ∀ a, st.2.2.2 a ≤ (sNew st k).2.2.2 a := by
    intro a
    simp only [sNew]
    split <;> omega
  have old : ∀ a b, b < st.2.2.2 a → ∀ j, jm_val (jm_up2 ad k (st.2.2.2 k) H.size) (sNew st k) a b j = jm_val ad st a b j := by
    intro a b hb j
    have e : ¬ (a = k ∧ b = st.2.2.2 k) := fun q => by obtain ⟨rfl, rfl⟩ := q; omega
    simp only [jm_val, sNew, z3, if_neg e]
    split <;> try rfl
    next c hc =>
      cases ht : st.2.2.1 a b j with
      | none => rfl
      | some t => simp only [Option.map_some]; rw [hx c t (h4 a b j c hb hc t ht)]
  refine ⟨⟨fun a b hb => ?_, fun a b a' b' hb hb' e => ?_, fun a b hb => ?_, fun a b j c hb hj t ht => ?_, fun q hq => ?_, by omega⟩, hx⟩
  · rcases hal a b hb with ⟨rfl, rfl⟩ | ⟨_, hb1⟩
    · exact hn
    · refine ((h1 a b hb1).to (hx a b hb1) (old a b hb1)).kept ?_
      rw [hx a b hb1]
      exact oq _ (h1 a b hb1).lt
  · rcases hal a b hb with ⟨rfl, rfl⟩ | ⟨_, hb1⟩ <;> rcases hal a' b' hb' with ⟨rfl, rfl⟩ | ⟨_, hb2⟩
    · exact ⟨rfl, rfl⟩
    · rw [hx a' b' hb2] at e
      have := (h1 a' b' hb2).lt
      simp [jm_up2] at e
      omega
    · rw [hx a b hb1] at e
      have := (h1 a b hb1).lt
      simp [jm_up2] at e
      omega
    · rw [hx a b hb1, hx a' b' hb2] at e
      exact h2 _ _ _ _ hb1 hb2 e
  · rcases hal a b hb with ⟨rfl, rfl⟩ | ⟨_, hb1⟩
    · simp only [jm_up2, and_self, if_true]; exact h6
    · rw [hx a b hb1]; exact h3 a b hb1
  · rcases hal a b hb with ⟨rfl, rfl⟩ | ⟨e, hb1⟩
    · simp [sNew, z3] at ht
    · simp only [sNew, z3, if_neg e] at ht
      exact Nat.lt_of_lt_of_le (h4 a b j c hb1 hj t ht) (hm c)
  · rw [oq q (by omega)]; exact h5 q hq
/-! what is the same at every moment: the tables -/
def jm_isN (w : Cond) : Bool := match w with
  | .fieldLinkNest .. => true
  | .methodLinkNest .. => true
  | _ => false
theorem jm_nestOk : ∀ w ∈ jm_nest, jm_isN w = true := by
  intro w hw
  simp only [jm_nest, List.mem_cons, List.not_mem_nil, or_false] at hw
  rcases hw with rfl | rfl | rfl | rfl <;> rfl
def jm_K (D : mD) (s : State) : Prop := va_K D.1 vwCl [] s ∧ (∀ t, t < katn → ArrOfT s (D.2.2 t) (katy t) ∧ va_RA s (D.2.2 t) (katy t)) ∧ (∀ w ∈ jm_nest, va_Nw w s) ∧ (∀ C ∈ jm_over, va_AO C s) ∧ (∀ z ∈ jm_statics, va_Z z.1 z.2.1 "[I" (.ref (D.2.2 z.2.2.1)) (fun q => D.2.1.size ≤ q) s D.2.1 ∧ va_T .int (D.2.2 z.2.2.1) z.2.2.2.length (fun j => .int (z.2.2.2.getD j 0)) (fun q => D.2.1.size ≤ q) s D.2.1)
theorem jm_K.moved {D : mD} {s U : State} (hW : s.WarmedH U.vm) (h : jm_K D s) : jm_K D U := by
  obtain ⟨h1, h2, h3, h4, h5⟩ := h
  refine ⟨h1.moved hW.alike, fun t ht => ⟨arrOfT_moved hW.alike (h2 t ht).1, (h2 t ht).2.moved hW.alike⟩, fun w hw => ?_, fun C hC => (h4 C hC).moved hW.alike, fun z hz => ⟨(h5 z hz).1.moved hW.alike, (h5 z hz).2.moved hW.alike⟩⟩
  have hn := jm_nestOk w hw
  have hw3 := h3 w hw
  cases w <;> first | (simp [jm_isN] at hn; done) | exact va_Nw.warmF hW hw3 | exact va_Nw.warmM hW hw3
theorem jm_K.same {D : mD} {s U : State} (hv : s.vm = U.vm) (h : jm_K D s) : jm_K D U := by
  obtain ⟨h1, h2, h3, h4, h5⟩ := h
  have hA : s.vm.Alike U.vm := by rw [← hv]; exact Vm.Alike.refl _
  refine ⟨h1.moved hA, fun t ht => ⟨arrOfT_moved hA (h2 t ht).1, (h2 t ht).2.moved hA⟩, fun w hw => ?_, fun C hC => (h4 C hC).moved hA, fun z hz => ⟨(h5 z hz).1.moved hA, (h5 z hz).2.moved hA⟩⟩
  have hn := jm_nestOk w hw
  have hw3 := h3 w hw
  cases w <;> first | (simp [jm_isN] at hn; done) | exact va_Nw.same rfl hv hw3
def jm_X (M : mM) (D : mD) (p : Program) (s : State) (m : MethodId) (args : Array Value) (meth : Method) (c : Code) : Prop := p.tables.exec = Jvm.exec ∧ c.code = M.2.1 ∧ meth.sig.returnType = M.2.2.2 ∧ meth.locks = false ∧ c.maxLocals = M.2.2.1 ∧ s.vm.findClass M.1.cls = some m.cls ∧ meth.name = M.1.name ∧ (∀ w ∈ jm_tb, w.before args s = true) ∧ jm_K D s
def jm_rm (d mc ms : Nat) : Room := { frames := d, cells := mc, slots := ms, locals := 40 * d }
def jm_Q (D : mD) (ad0 : Nat → Nat → Nat) (al0 : Nat → Nat) (Q : Option aV → aS → Prop) : Array Value → State → Outcome → State → Prop := fun _ _ o t => ∃ (v : Option aV) (st' : aS) (ad' : Nat → Nat → Nat), o = .returned (v.map (jm_c ad')) ∧ Q v st' ∧ jm_ext al0 ad0 ad' ∧ (∀ k, al0 k ≤ st'.2.2.2 k) ∧ (∀ x, v = some x → jm_ok st'.2.2.2 x) ∧ jm_R D ad' st' t.heap
def MS (l : Launch) (D : mD) (M : mM) (d mc ms : Nat) (Q : Option aV → aS → Prop) (uc us pc : Nat) (ls : List (Option aV)) (sk : List aV) (st : aS) : Prop :=
  ∀ (p : Program) (e : Env) (s : State) (m : MethodId) (args : Array Value) (below : List Frame) (meth : Method) (c : Code), jm_X M D p s m args meth c → ∀ (ad0 : Nat → Nat → Nat) (al0 : Nat → Nat) (ad : Nat → Nat → Nat) (H : Heap) (locs : List Loc) (lsA : Array Slot), jm_ext al0 ad0 ad → (∀ k, al0 k ≤ st.2.2.2 k) → jm_R D ad st H → jm_okL st.2.2.2 ls → jm_okS st.2.2.2 sk → jm_lo ad lsA M.2.2.1 ls → (∀ q ∈ locs, D.2.1.size ≤ q.base) →
    W p l e (jm_rm d mc ms) s m args below meth c H locs uc us (MQ below (jm_Q D ad0 al0 Q) args s mc ms (fun q => D.2.1.size ≤ q)) (F0 m pc lsA (sk.map (jm_c ad)))
def jm_ws (M : mM) : List Cond := .code M.1 M.2.1 M.2.2.1 M.2.2.2 :: jm_tb
def MC (l : Launch) (D : mD) (M : mM) (d mc ms : Nat) (av : List aV) (st : aS) (Q : Option aV → aS → Prop) : Prop :=
  ∀ ad : Nat → Nat → Nat, jm_okS st.2.2.2 av → Met l M.1 (jm_ws M) (jm_rm d mc ms) (va_Pc (av.map (jm_c ad)) (fun U => jm_R D ad st U.heap ∧ jm_K D U)) (jm_Q D ad st.2.2.2 Q) mc ms (fun q => D.2.1.size ≤ q)

section JMR
variable {l : Launch} {D : mD} {M : mM} {d mc ms : Nat} {Q : Option aV → aS → Prop} {uc us pc : Nat} {ls : List (Option aV)} {sk : List aV} {st : aS}
theorem jm_iconst {n : Int} {v : Int32} (hd : decode M.2.1 pc = .ok (.iconst n, 1)) (hv : Int32.ofInt n = v) (kk : MS l D M d mc ms Q uc us (pc + 1) ls (vI v :: sk) st) : MS l D M d mc ms Q uc us pc ls (sk) st := by
  intro p e s m args below meth c X ad0 al0 ad H locs lsA he ha hR hoL hoS hlo hlc
  exact lv_iconst X.1 X.2.1 hd hv (kk p e s m args below meth c X ad0 al0 ad H locs lsA he ha hR hoL ⟨trivial, hoS⟩ hlo hlc)
theorem jm_bipush {n : Int} {v : Int32} (hd : decode M.2.1 pc = .ok (.bipush n, 2)) (hv : (Int8.ofInt n).toInt32 = v) (kk : MS l D M d mc ms Q uc us (pc + 2) ls (vI v :: sk) st) : MS l D M d mc ms Q uc us pc ls (sk) st := by
  intro p e s m args below meth c X ad0 al0 ad H locs lsA he ha hR hoL hoS hlo hlc
  exact lv_bipush X.1 X.2.1 hd hv (kk p e s m args below meth c X ad0 al0 ad H locs lsA he ha hR hoL ⟨trivial, hoS⟩ hlo hlc)
theorem jm_sipush {n : Int} {v : Int32} (hd : decode M.2.1 pc = .ok (.sipush n, 3)) (hv : (Int16.ofInt n).toInt32 = v) (kk : MS l D M d mc ms Q uc us (pc + 3) ls (vI v :: sk) st) : MS l D M d mc ms Q uc us pc ls (sk) st := by
  intro p e s m args below meth c X ad0 al0 ad H locs lsA he ha hR hoL hoS hlo hlc
  exact lv_sipush X.1 X.2.1 hd hv (kk p e s m args below meth c X ad0 al0 ad H locs lsA he ha hR hoL ⟨trivial, hoS⟩ hlo hlc)
theorem jm_lconst {n : Fin 2} {v : Int64} (hd : decode M.2.1 pc = .ok (.lconst n, 1)) (hv : Int64.ofNat (n : Nat) = v) (kk : MS l D M d mc ms Q uc us (pc + 1) ls (vL v :: sk) st) : MS l D M d mc ms Q uc us pc ls (sk) st := by
  intro p e s m args below meth c X ad0 al0 ad H locs lsA he ha hR hoL hoS hlo hlc
  exact lv_lconst X.1 X.2.1 hd hv (kk p e s m args below meth c X ad0 al0 ad H locs lsA he ha hR hoL ⟨trivial, hoS⟩ hlo hlc)
theorem jm_ldc {index : Nat} {v : Int32} (hd : decode M.2.1 pc = .ok (.ldc index, 2)) (hw : Cond.constant M.1.cls index v ∈ jm_tb) (kk : MS l D M d mc ms Q uc us (pc + 2) ls (vI v :: sk) st) : MS l D M d mc ms Q uc us pc ls (sk) st := by
  intro p e s m args below meth c X ad0 al0 ad H locs lsA he ha hR hoL hoS hlo hlc
  exact lv_ldc X.1 X.2.1 X.2.2.2.2.2.1 (X.2.2.2.2.2.2.2.1 _ hw) hd (kk p e s m args below meth c X ad0 al0 ad H locs lsA he ha hR hoL ⟨trivial, hoS⟩ hlo hlc)
theorem jm_ldc2 {index : Nat} {v : Int64} (hd : decode M.2.1 pc = .ok (.ldc2_w index, 3)) (hw : Cond.constantLong M.1.cls index v ∈ jm_tb) (kk : MS l D M d mc ms Q uc us (pc + 3) ls (vL v :: sk) st) : MS l D M d mc ms Q uc us pc ls (sk) st := by
  intro p e s m args below meth c X ad0 al0 ad H locs lsA he ha hR hoL hoS hlo hlc
  exact lv_ldc2 X.1 X.2.1 X.2.2.2.2.2.1 (X.2.2.2.2.2.2.2.1 _ hw) hd (kk p e s m args below meth c X ad0 al0 ad H locs lsA he ha hR hoL ⟨trivial, hoS⟩ hlo hlc)
theorem jm_null (hd : decode M.2.1 pc = .ok (.aconst_null, 1)) (kk : MS l D M d mc ms Q uc us (pc + 1) ls (vR none :: sk) st) : MS l D M d mc ms Q uc us pc ls (sk) st := by
  intro p e s m args below meth c X ad0 al0 ad H locs lsA he ha hR hoL hoS hlo hlc
  exact lv_null X.1 X.2.1 hd (kk p e s m args below meth c X ad0 al0 ad H locs lsA he ha hR hoL ⟨trivial, hoS⟩ hlo hlc)
theorem jm_iload_n {k : Fin 4} {x : Int32} (hd : decode M.2.1 pc = .ok (.iload_n k, 1)) (hl : ls[(k : Nat)]? = some (some (vI x))) (kk : MS l D M d mc ms Q uc us (pc + 1) ls (vI x :: sk) st) : MS l D M d mc ms Q uc us pc ls (sk) st := by
  intro p e s m args below meth c X ad0 al0 ad H locs lsA he ha hR hoL hoS hlo hlc
  exact lv_iload_n X.1 X.2.1 hd rfl (hlo.2.2 _ _ hl) (kk p e s m args below meth c X ad0 al0 ad H locs lsA he ha hR hoL ⟨trivial, hoS⟩ hlo hlc)
theorem jm_iload {i : Nat} {x : Int32} (hd : decode M.2.1 pc = .ok (.iload i, 2)) (hl : ls[i]? = some (some (vI x))) (kk : MS l D M d mc ms Q uc us (pc + 2) ls (vI x :: sk) st) : MS l D M d mc ms Q uc us pc ls (sk) st := by
  intro p e s m args below meth c X ad0 al0 ad H locs lsA he ha hR hoL hoS hlo hlc
  exact lv_iload X.1 X.2.1 hd (hlo.2.2 _ _ hl) (kk p e s m args below meth c X ad0 al0 ad H locs lsA he ha hR hoL ⟨trivial, hoS⟩ hlo hlc)
theorem jm_lload_n {k : Fin 4} {x : Int64} (hd : decode M.2.1 pc = .ok (.lload_n k, 1)) (hl : ls[(k : Nat)]? = some (some (vL x))) (kk : MS l D M d mc ms Q uc us (pc + 1) ls (vL x :: sk) st) : MS l D M d mc ms Q uc us pc ls (sk) st := by
  intro p e s m args below meth c X ad0 al0 ad H locs lsA he ha hR hoL hoS hlo hlc
  exact lv_lload_n X.1 X.2.1 hd rfl (hlo.2.2 _ _ hl) (kk p e s m args below meth c X ad0 al0 ad H locs lsA he ha hR hoL ⟨trivial, hoS⟩ hlo hlc)
theorem jm_lload {i : Nat} {x : Int64} (hd : decode M.2.1 pc = .ok (.lload i, 2)) (hl : ls[i]? = some (some (vL x))) (kk : MS l D M d mc ms Q uc us (pc + 2) ls (vL x :: sk) st) : MS l D M d mc ms Q uc us pc ls (sk) st := by
  intro p e s m args below meth c X ad0 al0 ad H locs lsA he ha hR hoL hoS hlo hlc
  exact lv_lload X.1 X.2.1 hd (hlo.2.2 _ _ hl) (kk p e s m args below meth c X ad0 al0 ad H locs lsA he ha hR hoL ⟨trivial, hoS⟩ hlo hlc)
theorem jm_aload_n {k : Fin 4} {x : Option (Nat × Nat)} (hd : decode M.2.1 pc = .ok (.aload_n k, 1)) (hl : ls[(k : Nat)]? = some (some (vR x))) (kk : MS l D M d mc ms Q uc us (pc + 1) ls (vR x :: sk) st) : MS l D M d mc ms Q uc us pc ls (sk) st := by
  intro p e s m args below meth c X ad0 al0 ad H locs lsA he ha hR hoL hoS hlo hlc
  have hw := hlo.2.2 _ _ hl
  have ho := hoL _ _ hl
  cases x with
  | none => exact lv_aload_nN X.1 X.2.1 hd rfl hw (kk p e s m args below meth c X ad0 al0 ad H locs lsA he ha hR hoL ⟨ho, hoS⟩ hlo hlc)
  | some q => exact lv_aload_n X.1 X.2.1 hd rfl hw (kk p e s m args below meth c X ad0 al0 ad H locs lsA he ha hR hoL ⟨ho, hoS⟩ hlo hlc)
theorem jm_aload {i : Nat} {x : Option (Nat × Nat)} (hd : decode M.2.1 pc = .ok (.aload i, 2)) (hl : ls[i]? = some (some (vR x))) (kk : MS l D M d mc ms Q uc us (pc + 2) ls (vR x :: sk) st) : MS l D M d mc ms Q uc us pc ls (sk) st := by
  intro p e s m args below meth c X ad0 al0 ad H locs lsA he ha hR hoL hoS hlo hlc
  have hw := hlo.2.2 _ _ hl
  have ho := hoL _ _ hl
  cases x with
  | none => exact lv_aloadN X.1 X.2.1 hd hw (kk p e s m args below meth c X ad0 al0 ad H locs lsA he ha hR hoL ⟨ho, hoS⟩ hlo hlc)
  | some q => exact lv_aload X.1 X.2.1 hd hw (kk p e s m args below meth c X ad0 al0 ad H locs lsA he ha hR hoL ⟨ho, hoS⟩ hlo hlc)
theorem jm_istore_n {k : Fin 4} {x : Int32} (hd : decode M.2.1 pc = .ok (.istore_n k, 1)) (hn : (k : Nat) < M.2.2.1) (kk : MS l D M d mc ms Q uc us (pc + 1) (jm_put1 ls k (vI x)) sk st) : MS l D M d mc ms Q uc us pc ls (vI x :: sk) st := by
  intro p e s m args below meth c X ad0 al0 ad H locs lsA he ha hR hoL hoS hlo hlc
  exact lv_istore_n X.1 X.2.1 hd rfl hlo.has hn rfl (fun lsB hl => kk p e s m args below meth c X ad0 al0 ad H locs lsB he ha hR (hoL.put1 trivial) hoS.2 (jm_lo.st1 (v := vI x) hl) hlc)
theorem jm_istore {i : Nat} {x : Int32} (hd : decode M.2.1 pc = .ok (.istore i, 2)) (hn : i < M.2.2.1) (kk : MS l D M d mc ms Q uc us (pc + 2) (jm_put1 ls i (vI x)) sk st) : MS l D M d mc ms Q uc us pc ls (vI x :: sk) st := by
  intro p e s m args below meth c X ad0 al0 ad H locs lsA he ha hR hoL hoS hlo hlc
  exact lv_istore X.1 X.2.1 hd hlo.has hn rfl (fun lsB hl => kk p e s m args below meth c X ad0 al0 ad H locs lsB he ha hR (hoL.put1 trivial) hoS.2 (jm_lo.st1 (v := vI x) hl) hlc)
theorem jm_lstore_n {k : Fin 4} {x : Int64} (hd : decode M.2.1 pc = .ok (.lstore_n k, 1)) (hn : (k : Nat) + 1 < M.2.2.1) (kk : MS l D M d mc ms Q uc us (pc + 1) (jm_put2 ls k (vL x)) sk st) : MS l D M d mc ms Q uc us pc ls (vL x :: sk) st := by
  intro p e s m args below meth c X ad0 al0 ad H locs lsA he ha hR hoL hoS hlo hlc
  exact lv_lstore_n X.1 X.2.1 hd rfl hlo.has hn rfl (fun lsB hl => kk p e s m args below meth c X ad0 al0 ad H locs lsB he ha hR (hoL.put2 trivial) hoS.2 (jm_lo.st2 (v := vL x) hl) hlc)
theorem jm_lstore {i : Nat} {x : Int64} (hd : decode M.2.1 pc = .ok (.lstore i, 2)) (hn : i + 1 < M.2.2.1) (kk : MS l D M d mc ms Q uc us (pc + 2) (jm_put2 ls i (vL x)) sk st) : MS l D M d mc ms Q uc us pc ls (vL x :: sk) st := by
  intro p e s m args below meth c X ad0 al0 ad H locs lsA he ha hR hoL hoS hlo hlc
  exact lv_lstore X.1 X.2.1 hd hlo.has hn rfl (fun lsB hl => kk p e s m args below meth c X ad0 al0 ad H locs lsB he ha hR (hoL.put2 trivial) hoS.2 (jm_lo.st2 (v := vL x) hl) hlc)
theorem jm_astore_n {k : Fin 4} {x : Option (Nat × Nat)} (hd : decode M.2.1 pc = .ok (.astore_n k, 1)) (hn : (k : Nat) < M.2.2.1) (kk : MS l D M d mc ms Q uc us (pc + 1) (jm_put1 ls k (vR x)) sk st) : MS l D M d mc ms Q uc us pc ls (vR x :: sk) st := by
  intro p e s m args below meth c X ad0 al0 ad H locs lsA he ha hR hoL hoS hlo hlc
  cases x with
  | none => exact lv_astore_nN X.1 X.2.1 hd rfl hlo.has hn rfl (fun lsB hl => kk p e s m args below meth c X ad0 al0 ad H locs lsB he ha hR (hoL.put1 trivial) hoS.2 (jm_lo.st1 (v := vR none) hl) hlc)
  | some q => exact lv_astore_n X.1 X.2.1 hd rfl hlo.has hn rfl (fun lsB hl => kk p e s m args below meth c X ad0 al0 ad H locs lsB he ha hR (hoL.put1 hoS.1) hoS.2 (jm_lo.st1 (v := vR (some q)) hl) hlc)
theorem jm_astore {i : Nat} {x : Option (Nat × Nat)} (hd : decode M.2.1 pc = .ok (.astore i, 2)) (hn : i < M.2.2.1) (kk : MS l D M d mc ms Q uc us (pc + 2) (jm_put1 ls i (vR x)) sk st) : MS l D M d mc ms Q uc us pc ls (vR x :: sk) st := by
  intro p e s m args below meth c X ad0 al0 ad H locs lsA he ha hR hoL hoS hlo hlc
  cases x with
  | none => exact lv_astoreN X.1 X.2.1 hd hlo.has hn rfl (fun lsB hl => kk p e s m args below meth c X ad0 al0 ad H locs lsB he ha hR (hoL.put1 trivial) hoS.2 (jm_lo.st1 (v := vR none) hl) hlc)
  | some q => exact lv_astore X.1 X.2.1 hd hlo.has hn rfl (fun lsB hl => kk p e s m args below meth c X ad0 al0 ad H locs lsB he ha hR (hoL.put1 hoS.1) hoS.2 (jm_lo.st1 (v := vR (some q)) hl) hlc)
theorem jm_iinc {i : Nat} {n : Int} {x : Int32} (hd : decode M.2.1 pc = .ok (.iinc i n, 3)) (hl : ls[i]? = some (some (vI x))) (hn : i < M.2.2.1) (kk : MS l D M d mc ms Q uc us (pc + 3) (jm_put1 ls i (vI (x + Int32.ofInt n))) sk st) : MS l D M d mc ms Q uc us pc ls (sk) st := by
  intro p e s m args below meth c X ad0 al0 ad H locs lsA he ha hR hoL hoS hlo hlc
  obtain ⟨k0, hk0⟩ := List.getElem?_of_mem (jm_lv_mem (ad := ad) hl)
  exact lv_iinc X.1 X.2.1 hd hlo.has hk0 rfl hn rfl (fun lsB hl => kk p e s m args below meth c X ad0 al0 ad H locs lsB he ha hR (hoL.put1 trivial) hoS (jm_lo.st1 (v := vI (x + Int32.ofInt n)) hl) hlc)
theorem jm_iadd {x y : Int32} (hd : decode M.2.1 pc = .ok (.iadd, 1)) (kk : MS l D M d mc ms Q uc us (pc + 1) ls (vI (x + y) :: sk) st) : MS l D M d mc ms Q uc us pc ls (vI y :: vI x :: sk) st := by
  intro p e s m args below meth c X ad0 al0 ad H locs lsA he ha hR hoL hoS hlo hlc
  exact lv_iadd X.1 X.2.1 hd (kk p e s m args below meth c X ad0 al0 ad H locs lsA he ha hR hoL ⟨trivial, hoS.2.2⟩ hlo hlc)
theorem jm_isub {x y : Int32} (hd : decode M.2.1 pc = .ok (.isub, 1)) (kk : MS l D M d mc ms Q uc us (pc + 1) ls (vI (x - y) :: sk) st) : MS l D M d mc ms Q uc us pc ls (vI y :: vI x :: sk) st := by
  intro p e s m args below meth c X ad0 al0 ad H locs lsA he ha hR hoL hoS hlo hlc
  exact lv_isub X.1 X.2.1 hd (kk p e s m args below meth c X ad0 al0 ad H locs lsA he ha hR hoL ⟨trivial, hoS.2.2⟩ hlo hlc)
theorem jm_imul {x y : Int32} (hd : decode M.2.1 pc = .ok (.imul, 1)) (kk : MS l D M d mc ms Q uc us (pc + 1) ls (vI (x * y) :: sk) st) : MS l D M d mc ms Q uc us pc ls (vI y :: vI x :: sk) st := by
  intro p e s m args below meth c X ad0 al0 ad H locs lsA he ha hR hoL hoS hlo hlc
  exact lv_imul X.1 X.2.1 hd (kk p e s m args below meth c X ad0 al0 ad H locs lsA he ha hR hoL ⟨trivial, hoS.2.2⟩ hlo hlc)
theorem jm_iand {x y : Int32} (hd : decode M.2.1 pc = .ok (.iand, 1)) (kk : MS l D M d mc ms Q uc us (pc + 1) ls (vI (x &&& y) :: sk) st) : MS l D M d mc ms Q uc us pc ls (vI y :: vI x :: sk) st := by
  intro p e s m args below meth c X ad0 al0 ad H locs lsA he ha hR hoL hoS hlo hlc
  exact lv_iand X.1 X.2.1 hd (kk p e s m args below meth c X ad0 al0 ad H locs lsA he ha hR hoL ⟨trivial, hoS.2.2⟩ hlo hlc)
theorem jm_ior {x y : Int32} (hd : decode M.2.1 pc = .ok (.ior, 1)) (kk : MS l D M d mc ms Q uc us (pc + 1) ls (vI (x ||| y) :: sk) st) : MS l D M d mc ms Q uc us pc ls (vI y :: vI x :: sk) st := by
  intro p e s m args below meth c X ad0 al0 ad H locs lsA he ha hR hoL hoS hlo hlc
  exact lv_ior X.1 X.2.1 hd (kk p e s m args below meth c X ad0 al0 ad H locs lsA he ha hR hoL ⟨trivial, hoS.2.2⟩ hlo hlc)
theorem jm_ixor {x y : Int32} (hd : decode M.2.1 pc = .ok (.ixor, 1)) (kk : MS l D M d mc ms Q uc us (pc + 1) ls (vI (x ^^^ y) :: sk) st) : MS l D M d mc ms Q uc us pc ls (vI y :: vI x :: sk) st := by
  intro p e s m args below meth c X ad0 al0 ad H locs lsA he ha hR hoL hoS hlo hlc
  exact lv_ixor X.1 X.2.1 hd (kk p e s m args below meth c X ad0 al0 ad H locs lsA he ha hR hoL ⟨trivial, hoS.2.2⟩ hlo hlc)
theorem jm_ishl {x y : Int32} (hd : decode M.2.1 pc = .ok (.ishl, 1)) (kk : MS l D M d mc ms Q uc us (pc + 1) ls (vI (x <<< (y &&& 31)) :: sk) st) : MS l D M d mc ms Q uc us pc ls (vI y :: vI x :: sk) st := by
  intro p e s m args below meth c X ad0 al0 ad H locs lsA he ha hR hoL hoS hlo hlc
  exact lv_ishl X.1 X.2.1 hd (kk p e s m args below meth c X ad0 al0 ad H locs lsA he ha hR hoL ⟨trivial, hoS.2.2⟩ hlo hlc)
theorem jm_ishr {x y : Int32} (hd : decode M.2.1 pc = .ok (.ishr, 1)) (kk : MS l D M d mc ms Q uc us (pc + 1) ls (vI (x >>> (y &&& 31)) :: sk) st) : MS l D M d mc ms Q uc us pc ls (vI y :: vI x :: sk) st := by
  intro p e s m args below meth c X ad0 al0 ad H locs lsA he ha hR hoL hoS hlo hlc
  exact lv_ishr X.1 X.2.1 hd (kk p e s m args below meth c X ad0 al0 ad H locs lsA he ha hR hoL ⟨trivial, hoS.2.2⟩ hlo hlc)
theorem jm_ladd {x y : Int64} (hd : decode M.2.1 pc = .ok (.ladd, 1)) (kk : MS l D M d mc ms Q uc us (pc + 1) ls (vL (x + y) :: sk) st) : MS l D M d mc ms Q uc us pc ls (vL y :: vL x :: sk) st := by
  intro p e s m args below meth c X ad0 al0 ad H locs lsA he ha hR hoL hoS hlo hlc
  exact lv_ladd X.1 X.2.1 hd (kk p e s m args below meth c X ad0 al0 ad H locs lsA he ha hR hoL ⟨trivial, hoS.2.2⟩ hlo hlc)
theorem jm_lsub {x y : Int64} (hd : decode M.2.1 pc = .ok (.lsub, 1)) (kk : MS l D M d mc ms Q uc us (pc + 1) ls (vL (x - y) :: sk) st) : MS l D M d mc ms Q uc us pc ls (vL y :: vL x :: sk) st := by
  intro p e s m args below meth c X ad0 al0 ad H locs lsA he ha hR hoL hoS hlo hlc
  exact lv_lsub X.1 X.2.1 hd (kk p e s m args below meth c X ad0 al0 ad H locs lsA he ha hR hoL ⟨trivial, hoS.2.2⟩ hlo hlc)
theorem jm_lmul {x y : Int64} (hd : decode M.2.1 pc = .ok (.lmul, 1)) (kk : MS l D M d mc ms Q uc us (pc + 1) ls (vL (x * y) :: sk) st) : MS l D M d mc ms Q uc us pc ls (vL y :: vL x :: sk) st := by
  intro p e s m args below meth c X ad0 al0 ad H locs lsA he ha hR hoL hoS hlo hlc
  exact lv_lmul X.1 X.2.1 hd (kk p e s m args below meth c X ad0 al0 ad H locs lsA he ha hR hoL ⟨trivial, hoS.2.2⟩ hlo hlc)
theorem jm_land {x y : Int64} (hd : decode M.2.1 pc = .ok (.land, 1)) (kk : MS l D M d mc ms Q uc us (pc + 1) ls (vL (x &&& y) :: sk) st) : MS l D M d mc ms Q uc us pc ls (vL y :: vL x :: sk) st := by
  intro p e s m args below meth c X ad0 al0 ad H locs lsA he ha hR hoL hoS hlo hlc
  exact lv_land X.1 X.2.1 hd (kk p e s m args below meth c X ad0 al0 ad H locs lsA he ha hR hoL ⟨trivial, hoS.2.2⟩ hlo hlc)
theorem jm_lor {x y : Int64} (hd : decode M.2.1 pc = .ok (.lor, 1)) (kk : MS l D M d mc ms Q uc us (pc + 1) ls (vL (x ||| y) :: sk) st) : MS l D M d mc ms Q uc us pc ls (vL y :: vL x :: sk) st := by
  intro p e s m args below meth c X ad0 al0 ad H locs lsA he ha hR hoL hoS hlo hlc
  exact lv_lor X.1 X.2.1 hd (kk p e s m args below meth c X ad0 al0 ad H locs lsA he ha hR hoL ⟨trivial, hoS.2.2⟩ hlo hlc)
theorem jm_lxor {x y : Int64} (hd : decode M.2.1 pc = .ok (.lxor, 1)) (kk : MS l D M d mc ms Q uc us (pc + 1) ls (vL (x ^^^ y) :: sk) st) : MS l D M d mc ms Q uc us pc ls (vL y :: vL x :: sk) st := by
  intro p e s m args below meth c X ad0 al0 ad H locs lsA he ha hR hoL hoS hlo hlc
  exact lv_lxor X.1 X.2.1 hd (kk p e s m args below meth c X ad0 al0 ad H locs lsA he ha hR hoL ⟨trivial, hoS.2.2⟩ hlo hlc)
theorem jm_iushr {x y : Int32} (hd : decode M.2.1 pc = .ok (.iushr, 1)) (kk : MS l D M d mc ms Q uc us (pc + 1) ls (vI (x.toUInt32 >>> (y.toUInt32 &&& Int32.toUInt32 31)).toInt32 :: sk) st) : MS l D M d mc ms Q uc us pc ls (vI y :: vI x :: sk) st := by
  intro p e s m args below meth c X ad0 al0 ad H locs lsA he ha hR hoL hoS hlo hlc
  exact lv_iushr X.1 X.2.1 hd rfl (kk p e s m args below meth c X ad0 al0 ad H locs lsA he ha hR hoL ⟨trivial, hoS.2.2⟩ hlo hlc)
theorem jm_lushr {x : Int64} {y : Int32} (hd : decode M.2.1 pc = .ok (.lushr, 1)) (kk : MS l D M d mc ms Q uc us (pc + 1) ls (vL (x.toUInt64 >>> (y.toInt64.toUInt64 &&& Int64.toUInt64 63)).toInt64 :: sk) st) : MS l D M d mc ms Q uc us pc ls (vI y :: vL x :: sk) st := by
  intro p e s m args below meth c X ad0 al0 ad H locs lsA he ha hR hoL hoS hlo hlc
  exact lv_lushr X.1 X.2.1 hd rfl (kk p e s m args below meth c X ad0 al0 ad H locs lsA he ha hR hoL ⟨trivial, hoS.2.2⟩ hlo hlc)
theorem jm_lshl {x : Int64} {y : Int32} (hd : decode M.2.1 pc = .ok (.lshl, 1)) (kk : MS l D M d mc ms Q uc us (pc + 1) ls (vL (x <<< (y.toInt64 &&& 63)) :: sk) st) : MS l D M d mc ms Q uc us pc ls (vI y :: vL x :: sk) st := by
  intro p e s m args below meth c X ad0 al0 ad H locs lsA he ha hR hoL hoS hlo hlc
  exact lv_lshl X.1 X.2.1 hd rfl (kk p e s m args below meth c X ad0 al0 ad H locs lsA he ha hR hoL ⟨trivial, hoS.2.2⟩ hlo hlc)
theorem jm_lshr {x : Int64} {y : Int32} (hd : decode M.2.1 pc = .ok (.lshr, 1)) (kk : MS l D M d mc ms Q uc us (pc + 1) ls (vL (x >>> (y.toInt64 &&& 63)) :: sk) st) : MS l D M d mc ms Q uc us pc ls (vI y :: vL x :: sk) st := by
  intro p e s m args below meth c X ad0 al0 ad H locs lsA he ha hR hoL hoS hlo hlc
  exact lv_lshr X.1 X.2.1 hd rfl (kk p e s m args below meth c X ad0 al0 ad H locs lsA he ha hR hoL ⟨trivial, hoS.2.2⟩ hlo hlc)
theorem jm_ineg {x : Int32} (hd : decode M.2.1 pc = .ok (.ineg, 1)) (kk : MS l D M d mc ms Q uc us (pc + 1) ls (vI (-x) :: sk) st) : MS l D M d mc ms Q uc us pc ls (vI x :: sk) st := by
  intro p e s m args below meth c X ad0 al0 ad H locs lsA he ha hR hoL hoS hlo hlc
  exact lv_ineg X.1 X.2.1 hd (kk p e s m args below meth c X ad0 al0 ad H locs lsA he ha hR hoL ⟨trivial, hoS.2⟩ hlo hlc)
theorem jm_i2l {x : Int32} (hd : decode M.2.1 pc = .ok (.i2l, 1)) (kk : MS l D M d mc ms Q uc us (pc + 1) ls (vL x.toInt64 :: sk) st) : MS l D M d mc ms Q uc us pc ls (vI x :: sk) st := by
  intro p e s m args below meth c X ad0 al0 ad H locs lsA he ha hR hoL hoS hlo hlc
  exact lv_i2l X.1 X.2.1 hd rfl (kk p e s m args below meth c X ad0 al0 ad H locs lsA he ha hR hoL ⟨trivial, hoS.2⟩ hlo hlc)
theorem jm_l2i {x : Int64} (hd : decode M.2.1 pc = .ok (.l2i, 1)) (kk : MS l D M d mc ms Q uc us (pc + 1) ls (vI x.toInt32 :: sk) st) : MS l D M d mc ms Q uc us pc ls (vL x :: sk) st := by
  intro p e s m args below meth c X ad0 al0 ad H locs lsA he ha hR hoL hoS hlo hlc
  exact lv_l2i X.1 X.2.1 hd rfl (kk p e s m args below meth c X ad0 al0 ad H locs lsA he ha hR hoL ⟨trivial, hoS.2⟩ hlo hlc)
theorem jm_lcmp {x y : Int64} (hd : decode M.2.1 pc = .ok (.lcmp, 1)) (kk : MS l D M d mc ms Q uc us (pc + 1) ls (vI (lg_cmp x y) :: sk) st) : MS l D M d mc ms Q uc us pc ls (vL y :: vL x :: sk) st := by
  intro p e s m args below meth c X ad0 al0 ad H locs lsA he ha hR hoL hoS hlo hlc
  exact W.lcmp X.1 X.2.1 hd (kk p e s m args below meth c X ad0 al0 ad H locs lsA he ha hR hoL ⟨trivial, hoS.2.2⟩ hlo hlc)
theorem jm_dup {v : aV} (hd : decode M.2.1 pc = .ok (.dup, 1)) (hv : jm_cat v = 1) (kk : MS l D M d mc ms Q uc us (pc + 1) ls (v :: v :: sk) st) : MS l D M d mc ms Q uc us pc ls (v :: sk) st := by
  intro p e s m args below meth c X ad0 al0 ad H locs lsA he ha hR hoL hoS hlo hlc
  exact lv_dup X.1 X.2.1 hd (by rw [jm_cat_c]; exact hv) (kk p e s m args below meth c X ad0 al0 ad H locs lsA he ha hR hoL ⟨hoS.1, hoS⟩ hlo hlc)
theorem jm_pop {v : aV} (hd : decode M.2.1 pc = .ok (.pop, 1)) (hv : jm_cat v = 1) (kk : MS l D M d mc ms Q uc us (pc + 1) ls (sk) st) : MS l D M d mc ms Q uc us pc ls (v :: sk) st := by
  intro p e s m args below meth c X ad0 al0 ad H locs lsA he ha hR hoL hoS hlo hlc
  exact lv_pop X.1 X.2.1 hd (by rw [jm_cat_c]; exact hv) (kk p e s m args below meth c X ad0 al0 ad H locs lsA he ha hR hoL hoS.2 hlo hlc)
theorem jm_dup_x1 {v w : aV} (hd : decode M.2.1 pc = .ok (.dup_x1, 1)) (hv : jm_cat v = 1) (hw : jm_cat w = 1) (kk : MS l D M d mc ms Q uc us (pc + 1) ls (v :: w :: v :: sk) st) : MS l D M d mc ms Q uc us pc ls (v :: w :: sk) st := by
  intro p e s m args below meth c X ad0 al0 ad H locs lsA he ha hR hoL hoS hlo hlc
  exact lv_dup_x1 X.1 X.2.1 hd (by rw [jm_cat_c]; exact hv) (by rw [jm_cat_c]; exact hw) (kk p e s m args below meth c X ad0 al0 ad H locs lsA he ha hR hoL ⟨hoS.1, hoS.2.1, hoS.1, hoS.2.2⟩ hlo hlc)
theorem jm_dup_x2 {v w z : aV} (hd : decode M.2.1 pc = .ok (.dup_x2, 1)) (hv : jm_cat v = 1) (hw : jm_cat w = 1) (hz : jm_cat z = 1) (kk : MS l D M d mc ms Q uc us (pc + 1) ls (v :: w :: z :: v :: sk) st) : MS l D M d mc ms Q uc us pc ls (v :: w :: z :: sk) st := by
  intro p e s m args below meth c X ad0 al0 ad H locs lsA he ha hR hoL hoS hlo hlc
  exact lv_dup_x2 X.1 X.2.1 hd (by rw [jm_cat_c]; exact hv) (by rw [jm_cat_c]; exact hw) (by rw [jm_cat_c]; exact hz) (kk p e s m args below meth c X ad0 al0 ad H locs lsA he ha hR hoL ⟨hoS.1, hoS.2.1, hoS.2.2.1, hoS.1, hoS.2.2.2⟩ hlo hlc)
theorem jm_dup2_11 {v w : aV} (hd : decode M.2.1 pc = .ok (.dup2, 1)) (hv : jm_cat v = 1) (hw : jm_cat w = 1) (kk : MS l D M d mc ms Q uc us (pc + 1) ls (v :: w :: v :: w :: sk) st) : MS l D M d mc ms Q uc us pc ls (v :: w :: sk) st := by
  intro p e s m args below meth c X ad0 al0 ad H locs lsA he ha hR hoL hoS hlo hlc
  exact lv_dup2_11 X.1 X.2.1 hd (by rw [jm_cat_c]; exact hv) (by rw [jm_cat_c]; exact hw) (kk p e s m args below meth c X ad0 al0 ad H locs lsA he ha hR hoL ⟨hoS.1, hoS.2.1, hoS⟩ hlo hlc)
theorem jm_dup2_2 {v : aV} (hd : decode M.2.1 pc = .ok (.dup2, 1)) (hv : jm_cat v = 2) (kk : MS l D M d mc ms Q uc us (pc + 1) ls (v :: v :: sk) st) : MS l D M d mc ms Q uc us pc ls (v :: sk) st := by
  intro p e s m args below meth c X ad0 al0 ad H locs lsA he ha hR hoL hoS hlo hlc
  exact lv_dup2_2 X.1 X.2.1 hd (by rw [jm_cat_c]; exact hv) (kk p e s m args below meth c X ad0 al0 ad H locs lsA he ha hR hoL ⟨hoS.1, hoS⟩ hlo hlc)
theorem jm_dup2_x1_2 {v w : aV} (hd : decode M.2.1 pc = .ok (.dup2_x1, 1)) (hv : jm_cat v = 2) (hw : jm_cat w = 1) (kk : MS l D M d mc ms Q uc us (pc + 1) ls (v :: w :: v :: sk) st) : MS l D M d mc ms Q uc us pc ls (v :: w :: sk) st := by
  intro p e s m args below meth c X ad0 al0 ad H locs lsA he ha hR hoL hoS hlo hlc
  exact lv_dup2_x1_2 X.1 X.2.1 hd (by rw [jm_cat_c]; exact hv) (by rw [jm_cat_c]; exact hw) (kk p e s m args below meth c X ad0 al0 ad H locs lsA he ha hR hoL ⟨hoS.1, hoS.2.1, hoS.1, hoS.2.2⟩ hlo hlc)
theorem jm_if_eq {x : Int32} {off : Int} {tgt : Nat} (hd : decode M.2.1 pc = .ok (.ifCond .eq off, 3)) (ht : (pc : Int) + off = (tgt : Int)) (kt : x = 0 → MS l D M d mc ms Q uc us tgt ls sk st) (kf : ¬ x = 0 → MS l D M d mc ms Q uc us (pc + 3) ls sk st) : MS l D M d mc ms Q uc us pc ls (vI x :: sk) st := by
  intro p e s m args below meth c X ad0 al0 ad H locs lsA he ha hR hoL hoS hlo hlc
  exact lv_if_eq X.1 X.2.1 hd ht (fun hh => (kt hh p e s m args below meth c X ad0 al0 ad H locs lsA he ha hR hoL hoS.2 hlo hlc)) (fun hh => (kf hh p e s m args below meth c X ad0 al0 ad H locs lsA he ha hR hoL hoS.2 hlo hlc))
theorem jm_icmp_eq {x y : Int32} {off : Int} {tgt : Nat} (hd : decode M.2.1 pc = .ok (.if_icmp .eq off, 3)) (ht : (pc : Int) + off = (tgt : Int)) (kt : x = y → MS l D M d mc ms Q uc us tgt ls sk st) (kf : ¬ x = y → MS l D M d mc ms Q uc us (pc + 3) ls sk st) : MS l D M d mc ms Q uc us pc ls (vI y :: vI x :: sk) st := by
  intro p e s m args below meth c X ad0 al0 ad H locs lsA he ha hR hoL hoS hlo hlc
  exact lv_icmp_eq X.1 X.2.1 hd ht (fun hh => (kt hh p e s m args below meth c X ad0 al0 ad H locs lsA he ha hR hoL hoS.2.2 hlo hlc)) (fun hh => (kf hh p e s m args below meth c X ad0 al0 ad H locs lsA he ha hR hoL hoS.2.2 hlo hlc))
theorem jm_if_ne {x : Int32} {off : Int} {tgt : Nat} (hd : decode M.2.1 pc = .ok (.ifCond .ne off, 3)) (ht : (pc : Int) + off = (tgt : Int)) (kt : ¬ x = 0 → MS l D M d mc ms Q uc us tgt ls sk st) (kf : x = 0 → MS l D M d mc ms Q uc us (pc + 3) ls sk st) : MS l D M d mc ms Q uc us pc ls (vI x :: sk) st := by
  intro p e s m args below meth c X ad0 al0 ad H locs lsA he ha hR hoL hoS hlo hlc
  exact lv_if_ne X.1 X.2.1 hd ht (fun hh => (kt hh p e s m args below meth c X ad0 al0 ad H locs lsA he ha hR hoL hoS.2 hlo hlc)) (fun hh => (kf hh p e s m args below meth c X ad0 al0 ad H locs lsA he ha hR hoL hoS.2 hlo hlc))
theorem jm_icmp_ne {x y : Int32} {off : Int} {tgt : Nat} (hd : decode M.2.1 pc = .ok (.if_icmp .ne off, 3)) (ht : (pc : Int) + off = (tgt : Int)) (kt : ¬ x = y → MS l D M d mc ms Q uc us tgt ls sk st) (kf : x = y → MS l D M d mc ms Q uc us (pc + 3) ls sk st) : MS l D M d mc ms Q uc us pc ls (vI y :: vI x :: sk) st := by
  intro p e s m args below meth c X ad0 al0 ad H locs lsA he ha hR hoL hoS hlo hlc
  exact lv_icmp_ne X.1 X.2.1 hd ht (fun hh => (kt hh p e s m args below meth c X ad0 al0 ad H locs lsA he ha hR hoL hoS.2.2 hlo hlc)) (fun hh => (kf hh p e s m args below meth c X ad0 al0 ad H locs lsA he ha hR hoL hoS.2.2 hlo hlc))
theorem jm_if_lt {x : Int32} {off : Int} {tgt : Nat} (hd : decode M.2.1 pc = .ok (.ifCond .lt off, 3)) (ht : (pc : Int) + off = (tgt : Int)) (kt : x < 0 → MS l D M d mc ms Q uc us tgt ls sk st) (kf : ¬ x < 0 → MS l D M d mc ms Q uc us (pc + 3) ls sk st) : MS l D M d mc ms Q uc us pc ls (vI x :: sk) st := by
  intro p e s m args below meth c X ad0 al0 ad H locs lsA he ha hR hoL hoS hlo hlc
  exact lv_if_lt X.1 X.2.1 hd ht (fun hh => (kt hh p e s m args below meth c X ad0 al0 ad H locs lsA he ha hR hoL hoS.2 hlo hlc)) (fun hh => (kf hh p e s m args below meth c X ad0 al0 ad H locs lsA he ha hR hoL hoS.2 hlo hlc))
theorem jm_icmp_lt {x y : Int32} {off : Int} {tgt : Nat} (hd : decode M.2.1 pc = .ok (.if_icmp .lt off, 3)) (ht : (pc : Int) + off = (tgt : Int)) (kt : x < y → MS l D M d mc ms Q uc us tgt ls sk st) (kf : ¬ x < y → MS l D M d mc ms Q uc us (pc + 3) ls sk st) : MS l D M d mc ms Q uc us pc ls (vI y :: vI x :: sk) st := by
  intro p e s m args below meth c X ad0 al0 ad H locs lsA he ha hR hoL hoS hlo hlc
  exact lv_icmp_lt X.1 X.2.1 hd ht (fun hh => (kt hh p e s m args below meth c X ad0 al0 ad H locs lsA he ha hR hoL hoS.2.2 hlo hlc)) (fun hh => (kf hh p e s m args below meth c X ad0 al0 ad H locs lsA he ha hR hoL hoS.2.2 hlo hlc))
theorem jm_if_ge {x : Int32} {off : Int} {tgt : Nat} (hd : decode M.2.1 pc = .ok (.ifCond .ge off, 3)) (ht : (pc : Int) + off = (tgt : Int)) (kt : 0 ≤ x → MS l D M d mc ms Q uc us tgt ls sk st) (kf : ¬ 0 ≤ x → MS l D M d mc ms Q uc us (pc + 3) ls sk st) : MS l D M d mc ms Q uc us pc ls (vI x :: sk) st := by
  intro p e s m args below meth c X ad0 al0 ad H locs lsA he ha hR hoL hoS hlo hlc
  exact lv_if_ge X.1 X.2.1 hd ht (fun hh => (kt hh p e s m args below meth c X ad0 al0 ad H locs lsA he ha hR hoL hoS.2 hlo hlc)) (fun hh => (kf hh p e s m args below meth c X ad0 al0 ad H locs lsA he ha hR hoL hoS.2 hlo hlc))
theorem jm_icmp_ge {x y : Int32} {off : Int} {tgt : Nat} (hd : decode M.2.1 pc = .ok (.if_icmp .ge off, 3)) (ht : (pc : Int) + off = (tgt : Int)) (kt : y ≤ x → MS l D M d mc ms Q uc us tgt ls sk st) (kf : ¬ y ≤ x → MS l D M d mc ms Q uc us (pc + 3) ls sk st) : MS l D M d mc ms Q uc us pc ls (vI y :: vI x :: sk) st := by
  intro p e s m args below meth c X ad0 al0 ad H locs lsA he ha hR hoL hoS hlo hlc
  exact lv_icmp_ge X.1 X.2.1 hd ht (fun hh => (kt hh p e s m args below meth c X ad0 al0 ad H locs lsA he ha hR hoL hoS.2.2 hlo hlc)) (fun hh => (kf hh p e s m args below meth c X ad0 al0 ad H locs lsA he ha hR hoL hoS.2.2 hlo hlc))
theorem jm_if_gt {x : Int32} {off : Int} {tgt : Nat} (hd : decode M.2.1 pc = .ok (.ifCond .gt off, 3)) (ht : (pc : Int) + off = (tgt : Int)) (kt : 0 < x → MS l D M d mc ms Q uc us tgt ls sk st) (kf : ¬ 0 < x → MS l D M d mc ms Q uc us (pc + 3) ls sk st) : MS l D M d mc ms Q uc us pc ls (vI x :: sk) st := by
  intro p e s m args below meth c X ad0 al0 ad H locs lsA he ha hR hoL hoS hlo hlc
  exact lv_if_gt X.1 X.2.1 hd ht (fun hh => (kt hh p e s m args below meth c X ad0 al0 ad H locs lsA he ha hR hoL hoS.2 hlo hlc)) (fun hh => (kf hh p e s m args below meth c X ad0 al0 ad H locs lsA he ha hR hoL hoS.2 hlo hlc))
theorem jm_icmp_gt {x y : Int32} {off : Int} {tgt : Nat} (hd : decode M.2.1 pc = .ok (.if_icmp .gt off, 3)) (ht : (pc : Int) + off = (tgt : Int)) (kt : y < x → MS l D M d mc ms Q uc us tgt ls sk st) (kf : ¬ y < x → MS l D M d mc ms Q uc us (pc + 3) ls sk st) : MS l D M d mc ms Q uc us pc ls (vI y :: vI x :: sk) st := by
  intro p e s m args below meth c X ad0 al0 ad H locs lsA he ha hR hoL hoS hlo hlc
  exact lv_icmp_gt X.1 X.2.1 hd ht (fun hh => (kt hh p e s m args below meth c X ad0 al0 ad H locs lsA he ha hR hoL hoS.2.2 hlo hlc)) (fun hh => (kf hh p e s m args below meth c X ad0 al0 ad H locs lsA he ha hR hoL hoS.2.2 hlo hlc))
theorem jm_if_le {x : Int32} {off : Int} {tgt : Nat} (hd : decode M.2.1 pc = .ok (.ifCond .le off, 3)) (ht : (pc : Int) + off = (tgt : Int)) (kt : x ≤ 0 → MS l D M d mc ms Q uc us tgt ls sk st) (kf : ¬ x ≤ 0 → MS l D M d mc ms Q uc us (pc + 3) ls sk st) : MS l D M d mc ms Q uc us pc ls (vI x :: sk) st := by
  intro p e s m args below meth c X ad0 al0 ad H locs lsA he ha hR hoL hoS hlo hlc
  exact lv_if_le X.1 X.2.1 hd ht (fun hh => (kt hh p e s m args below meth c X ad0 al0 ad H locs lsA he ha hR hoL hoS.2 hlo hlc)) (fun hh => (kf hh p e s m args below meth c X ad0 al0 ad H locs lsA he ha hR hoL hoS.2 hlo hlc))
theorem jm_icmp_le {x y : Int32} {off : Int} {tgt : Nat} (hd : decode M.2.1 pc = .ok (.if_icmp .le off, 3)) (ht : (pc : Int) + off = (tgt : Int)) (kt : x ≤ y → MS l D M d mc ms Q uc us tgt ls sk st) (kf : ¬ x ≤ y → MS l D M d mc ms Q uc us (pc + 3) ls sk st) : MS l D M d mc ms Q uc us pc ls (vI y :: vI x :: sk) st := by
  intro p e s m args below meth c X ad0 al0 ad H locs lsA he ha hR hoL hoS hlo hlc
  exact lv_icmp_le X.1 X.2.1 hd ht (fun hh => (kt hh p e s m args below meth c X ad0 al0 ad H locs lsA he ha hR hoL hoS.2.2 hlo hlc)) (fun hh => (kf hh p e s m args below meth c X ad0 al0 ad H locs lsA he ha hR hoL hoS.2.2 hlo hlc))
theorem jm_goto {off : Int} {tgt : Nat} (hd : decode M.2.1 pc = .ok (.goto off, 3)) (ht : (pc : Int) + off = (tgt : Int)) (kk : MS l D M d mc ms Q uc us tgt ls sk st) : MS l D M d mc ms Q uc us pc ls sk st := by
  intro p e s m args below meth c X ad0 al0 ad H locs lsA he ha hR hoL hoS hlo hlc
  exact lv_goto X.1 X.2.1 hd ht (kk p e s m args below meth c X ad0 al0 ad H locs lsA he ha hR hoL hoS hlo hlc)
theorem jm_ifnull {r : Option (Nat × Nat)} {off : Int} {tgt : Nat} (hd : decode M.2.1 pc = .ok (.ifnull off, 3)) (ht : (pc : Int) + off = (tgt : Int)) (kt : r = none → MS l D M d mc ms Q uc us tgt ls sk st) (kf : ∀ q, r = some q → MS l D M d mc ms Q uc us (pc + 3) ls sk st) : MS l D M d mc ms Q uc us pc ls (vR r :: sk) st := by
  intro p e s m args below meth c X ad0 al0 ad H locs lsA he ha hR hoL hoS hlo hlc
  cases r with
  | none => exact lv_ifnullN X.1 X.2.1 hd ht (kt rfl p e s m args below meth c X ad0 al0 ad H locs lsA he ha hR hoL hoS.2 hlo hlc)
  | some q => exact lv_ifnull X.1 X.2.1 hd (kf q rfl p e s m args below meth c X ad0 al0 ad H locs lsA he ha hR hoL hoS.2 hlo hlc)
theorem jm_ifnonnull {r : Option (Nat × Nat)} {off : Int} {tgt : Nat} (hd : decode M.2.1 pc = .ok (.ifnonnull off, 3)) (ht : (pc : Int) + off = (tgt : Int)) (kt : ∀ q, r = some q → MS l D M d mc ms Q uc us tgt ls sk st) (kf : r = none → MS l D M d mc ms Q uc us (pc + 3) ls sk st) : MS l D M d mc ms Q uc us pc ls (vR r :: sk) st := by
  intro p e s m args below meth c X ad0 al0 ad H locs lsA he ha hR hoL hoS hlo hlc
  cases r with
  | none => exact lv_ifnonnullN X.1 X.2.1 hd (kf rfl p e s m args below meth c X ad0 al0 ad H locs lsA he ha hR hoL hoS.2 hlo hlc)
  | some q => exact lv_ifnonnull X.1 X.2.1 hd ht (kt q rfl p e s m args below meth c X ad0 al0 ad H locs lsA he ha hR hoL hoS.2 hlo hlc)
theorem jm_inj {ad : Nat → Nat → Nat} {H : Heap} (hR : jm_R D ad st H) {r t : Option (Nat × Nat)} (hr : jm_ok st.2.2.2 (vR r)) (ht : jm_ok st.2.2.2 (vR t)) (h : (r.map fun q => ad q.1 q.2) = t.map fun q => ad q.1 q.2) : r = t := by
  cases r with
  | none => cases t with
    | none => rfl
    | some q => cases h
  | some q => cases t with
    | none => cases h
    | some q' =>
      have h1 := hR.2.1 q.1 q.2 q'.1 q'.2 hr ht (Option.some.inj h)
      rw [show q = q' from Prod.ext h1.1 h1.2]
theorem jm_acmp_eq {r t : Option (Nat × Nat)} {off : Int} {tgt : Nat} (hd : decode M.2.1 pc = .ok (.if_acmp .eq off, 3)) (ht : (pc : Int) + off = (tgt : Int)) (kt : r = t → MS l D M d mc ms Q uc us tgt ls sk st) (kf : ¬ r = t → MS l D M d mc ms Q uc us (pc + 3) ls sk st) : MS l D M d mc ms Q uc us pc ls (vR t :: vR r :: sk) st := by
  intro p e s m args below meth c X ad0 al0 ad H locs lsA he ha hR hoL hoS hlo hlc
  exact lv_acmp_eq (rx := r.map fun q => ad q.1 q.2) (ry := t.map fun q => ad q.1 q.2) X.1 X.2.1 hd ht (fun hh => kt (jm_inj hR hoS.2.1 hoS.1 hh) p e s m args below meth c X ad0 al0 ad H locs lsA he ha hR hoL hoS.2.2 hlo hlc) (fun hh => kf (fun z => hh (by rw [z])) p e s m args below meth c X ad0 al0 ad H locs lsA he ha hR hoL hoS.2.2 hlo hlc)
theorem jm_acmp_ne {r t : Option (Nat × Nat)} {off : Int} {tgt : Nat} (hd : decode M.2.1 pc = .ok (.if_acmp .ne off, 3)) (ht : (pc : Int) + off = (tgt : Int)) (kt : ¬ r = t → MS l D M d mc ms Q uc us tgt ls sk st) (kf : r = t → MS l D M d mc ms Q uc us (pc + 3) ls sk st) : MS l D M d mc ms Q uc us pc ls (vR t :: vR r :: sk) st := by
  intro p e s m args below meth c X ad0 al0 ad H locs lsA he ha hR hoL hoS hlo hlc
  exact lv_acmp_ne (rx := r.map fun q => ad q.1 q.2) (ry := t.map fun q => ad q.1 q.2) X.1 X.2.1 hd ht (fun hh => kt (fun z => hh (by rw [z])) p e s m args below meth c X ad0 al0 ad H locs lsA he ha hR hoL hoS.2.2 hlo hlc) (fun hh => kf (jm_inj hR hoS.2.1 hoS.1 hh) p e s m args below meth c X ad0 al0 ad H locs lsA he ha hR hoL hoS.2.2 hlo hlc)
theorem jm_lookup {dflt : Int} {ps : Array (Int × Int)} {len : Nat} {x : Int32} {off : Int} {tgt : Nat} (hd : decode M.2.1 pc = .ok (.lookupswitch dflt ps, len)) (hp : (ps.toList.zip (ps.toList.drop 1)).all (fun (a, next) => a.1 < next.1) = true) (ho : Op.lookupswitch.offset ps.toList dflt x.toInt = off) (ht : (pc : Int) + off = (tgt : Int)) (kk : MS l D M d mc ms Q uc us tgt ls sk st) : MS l D M d mc ms Q uc us pc ls (vI x :: sk) st := by
  intro p e s m args below meth c X ad0 al0 ad H locs lsA he ha hR hoL hoS hlo hlc
  exact lv_lookup X.1 X.2.1 hd hp ho ht (kk p e s m args below meth c X ad0 al0 ad H locs lsA he ha hR hoL hoS.2 hlo hlc)
theorem jm_tableOut {dflt lo hi : Int} {offs : Array Int} {len : Nat} {x : Int32} {tgt : Nat} (hd : decode M.2.1 pc = .ok (.tableswitch dflt lo hi offs, len)) (h : x.toInt < lo ∨ hi < x.toInt) (ht : (pc : Int) + dflt = (tgt : Int)) (kk : MS l D M d mc ms Q uc us tgt ls sk st) : MS l D M d mc ms Q uc us pc ls (vI x :: sk) st := by
  intro p e s m args below meth c X ad0 al0 ad H locs lsA he ha hR hoL hoS hlo hlc
  exact lv_tableOut X.1 X.2.1 hd h ht (kk p e s m args below meth c X ad0 al0 ad H locs lsA he ha hR hoL hoS.2 hlo hlc)
theorem jm_tableIn {dflt lo hi : Int} {offs : Array Int} {len : Nat} {x : Int32} {off : Int} {tgt : Nat} (hd : decode M.2.1 pc = .ok (.tableswitch dflt lo hi offs, len)) (h1 : ¬ x.toInt < lo) (h2 : ¬ hi < x.toInt) (ho : offs[(x.toInt - lo).toNat]? = some off) (ht : (pc : Int) + off = (tgt : Int)) (kk : MS l D M d mc ms Q uc us tgt ls sk st) : MS l D M d mc ms Q uc us pc ls (vI x :: sk) st := by
  intro p e s m args below meth c X ad0 al0 ad H locs lsA he ha hR hoL hoS hlo hlc
  exact lv_tableIn X.1 X.2.1 hd h1 h2 ho ht (kk p e s m args below meth c X ad0 al0 ad H locs lsA he ha hR hoL hoS.2 hlo hlc)
def jm_FL (own : String) (idx ci j : Nat) : Prop := ∃ q : vw_C, vwCl[ci]? = some q ∧ j < q.2.2 ∧ (Cond.fieldLink own idx (q.2.1 j).1 (q.2.1 j).2.1 (q.2.1 j).2.2.1 ∈ jm_tb ∨ ∃ host, Cond.fieldLinkNest own idx (q.2.1 j).1 (q.2.1 j).2.1 (q.2.1 j).2.2.1 host ∈ jm_nest)
theorem jm_Wget {p : Program} {e : Env} {R : Room} {s : State} {m : MethodId} {args : Array Value} {below : List Frame} {meth : Method} {c : Code} {H : Heap} {locs : List Loc} {cells slots : Nat} {Qw : State → Prop} {ad : Nat → Nat → Nat} {lsA : Array Slot} {rest : List Value} {k i j ci idx : Nat} (X : jm_X M D p s m args meth c) (hR : jm_R D ad st H) (hi : i < st.2.2.2 k) (hk : kob k = some ci) (hl : jm_FL M.1.cls idx ci j) (hd : decode M.2.1 pc = .ok (.getfield idx, 3))
    (kk : W p l e R s m args below meth c H locs cells slots Qw (F0 m (pc + 3) lsA (jm_val ad st k i j :: rest))) : W p l e R s m args below meth c H locs cells slots Qw (F0 m pc lsA (.ref (ad k i) :: rest)) := by
  obtain ⟨q, hq, hj, hlink⟩ := hl
  have hc := hR.1 k i hi
  unfold jm_cell at hc
  rw [hk] at hc
  obtain ⟨q', hq', cell, g1, g2, g3, g4⟩ := hc
  cases hq.symm.trans hq'
  obtain ⟨hx, hb, -, -, -, hown, -, hts, hK⟩ := X
  obtain ⟨hS, hfc, kC, hkC, hkind⟩ := hK.1.1 ci q hq
  obtain ⟨cf, kf, fi, f, hf, hsl⟩ := hS j hj
  have hst := (u_facts hfc hkC (u_lays hts (jm_lays ci q hq) hj) hf).1
  rcases hlink with hw | ⟨host, hw⟩
  · exact W.getf hx hb hown (hts _ hw) hf hst g1 (by rw [g3]; exact fun h => by cases h) (v := jm_val ad st k i j) (by rw [hsl]; exact g4 j hj) rfl rfl hd kk
  · exact va_Wgetf hx hb hown (va_Nw.use rfl (hK.2.2.1 _ hw)) hf hst g1 (by rw [g3]; exact fun h => by cases h) (v := jm_val ad st k i j) (by rw [hsl]; exact g4 j hj) rfl rfl hd kk
theorem jm_geti {k i j ci idx : Nat} (hl : jm_FL M.1.cls idx ci j) (hd : decode M.2.1 pc = .ok (.getfield idx, 3)) (hk : kob k = some ci) (hv : ∀ ad, jm_val ad st k i j = .int (st.1 k i j)) (kk : MS l D M d mc ms Q uc us (pc + 3) ls (vI (st.1 k i j) :: sk) st) : MS l D M d mc ms Q uc us pc ls (vR (some (k, i)) :: sk) st := by
  intro p e s m args below meth c X ad0 al0 ad H locs lsA he ha hR hoL hoS hlo hlc
  refine jm_Wget X hR hoS.1 hk hl hd ?_
  rw [hv]
  exact (kk p e s m args below meth c X ad0 al0 ad H locs lsA he ha hR hoL ⟨trivial, hoS.2⟩ hlo hlc)
theorem jm_getl {k i j ci idx : Nat} (hl : jm_FL M.1.cls idx ci j) (hd : decode M.2.1 pc = .ok (.getfield idx, 3)) (hk : kob k = some ci) (hv : ∀ ad, jm_val ad st k i j = .long (st.2.1 k i j)) (kk : MS l D M d mc ms Q uc us (pc + 3) ls (vL (st.2.1 k i j) :: sk) st) : MS l D M d mc ms Q uc us pc ls (vR (some (k, i)) :: sk) st := by
  intro p e s m args below meth c X ad0 al0 ad H locs lsA he ha hR hoL hoS hlo hlc
  refine jm_Wget X hR hoS.1 hk hl hd ?_
  rw [hv]
  exact (kk p e s m args below meth c X ad0 al0 ad H locs lsA he ha hR hoL ⟨trivial, hoS.2⟩ hlo hlc)
theorem jm_okR {ad : Nat → Nat → Nat} {H : Heap} (hR : jm_R D ad st H) {k i j c : Nat} (hi : i < st.2.2.2 k) (hc : kly k j = c + 3) : jm_ok st.2.2.2 (vR ((st.2.2.1 k i j).map (Prod.mk c))) := by
  cases ht : st.2.2.1 k i j with
  | none => trivial
  | some t => exact hR.2.2.2.1 k i j c hi hc t ht
theorem jm_valR {ad : Nat → Nat → Nat} {k i j c : Nat} (hc : kly k j = c + 3) : jm_val ad st k i j = jm_c ad (vR ((st.2.2.1 k i j).map (Prod.mk c))) := by
  unfold jm_val
  rw [hc]
  show va_rf _ = va_rf _
  rw [Option.map_map]
  rfl
theorem jm_getr {k i j ci idx c0 : Nat} (hl : jm_FL M.1.cls idx ci j) (hd : decode M.2.1 pc = .ok (.getfield idx, 3)) (hk : kob k = some ci) (hc : kly k j = c0 + 3) (kk : MS l D M d mc ms Q uc us (pc + 3) ls (vR ((st.2.2.1 k i j).map (Prod.mk c0)) :: sk) st) : MS l D M d mc ms Q uc us pc ls (vR (some (k, i)) :: sk) st := by
  intro p e s m args below meth c X ad0 al0 ad H locs lsA he ha hR hoL hoS hlo hlc
  refine jm_Wget X hR hoS.1 hk hl hd ?_
  rw [jm_valR hc]
  exact (kk p e s m args below meth c X ad0 al0 ad H locs lsA he ha hR hoL ⟨jm_okR hR hoS.1 hc, hoS.2⟩ hlo hlc)
def jm_FP (M : mM) (idx ci j : Nat) (ty : FieldType) : Prop := ∃ q : vw_C, vwCl[ci]? = some q ∧ j < q.2.2 ∧ parseFieldDescriptor (q.2.1 j).2.2.1 = some ty ∧ (((q.2.1 j).2.2.2 = false ∧ (Cond.fieldLink M.1.cls idx (q.2.1 j).1 (q.2.1 j).2.1 (q.2.1 j).2.2.1 ∈ jm_tb ∨ ∃ host, Cond.fieldLinkNest M.1.cls idx (q.2.1 j).1 (q.2.1 j).2.1 (q.2.1 j).2.2.1 host ∈ jm_nest)) ∨ ((q.2.1 j).2.2.2 = true ∧ M.1.name = "<init>" ∧ (q.2.1 j).1 = M.1.cls ∧ Cond.fieldLink M.1.cls idx (q.2.1 j).1 (q.2.1 j).2.1 (q.2.1 j).2.2.1 ∈ jm_tb))
theorem jm_Wput {p : Program} {e : Env} {R : Room} {s : State} {m : MethodId} {args : Array Value} {below : List Frame} {meth : Method} {c : Code} {H : Heap} {locs : List Loc} {cells slots : Nat} {Qw : State → Prop} {ad : Nat → Nat → Nat} {lsA : Array Slot} {rest : List Value} {k i j ci idx : Nat} {ty : FieldType} {v : Value} {st' : aS} (X : jm_X M D p s m args meth c) (hR : jm_R D ad st H) (hi : i < st.2.2.2 k) (hk : kob k = some ci) (hl : jm_FP M idx ci j ty) (hn : narrow ty v = v) (hfit : fits ty v = true) (hlc : ∀ q ∈ locs, D.2.1.size ≤ q.base) (hd : decode M.2.1 pc = .ok (.putfield idx, 3))
    (hal : st'.2.2.2 = st.2.2.2) (hs : ∀ a b, ¬ (a = k ∧ b = i) → ∀ j, st'.1 a b j = st.1 a b j ∧ st'.2.1 a b j = st.2.1 a b j ∧ st'.2.2.1 a b j = st.2.2.1 a b j) (hcl : ∀ j c, kly k j = c + 3 → ∀ t, st'.2.2.1 k i j = some t → t < st.2.2.2 c) (hv : ∀ j', jm_val ad st' k i j' = if j' = j then v else jm_val ad st k i j')
    (kk : ∀ (H1 : Heap) (locs1 : List Loc), jm_R D ad st' H1 → (∀ q ∈ locs1, D.2.1.size ≤ q.base) → W p l e R s m args below meth c H1 locs1 cells slots Qw (F0 m (pc + 3) lsA rest)) : W p l e R s m args below meth c H locs cells slots Qw (F0 m pc lsA (v :: .ref (ad k i) :: rest)) := by
  obtain ⟨q, hq, hj, hty, hcase⟩ := hl
  have hc := hR.1 k i hi
  unfold jm_cell at hc
  rw [hk] at hc
  obtain ⟨q', hq', cell, g1, g2, g3, g4⟩ := hc
  cases hq.symm.trans hq'
  obtain ⟨hx, hb, -, -, -, hown, hnm, hts, hK⟩ := X
  obtain ⟨ty0, hty0⟩ := jm_tys ci q hq
  have hap := va_apart (own := M.1.cls) hts (jm_lays ci q hq) ty0 hty0 (jm_nms ci q hq) hK.1 hq
  obtain ⟨hS, hfc, kC, hkC, hkind⟩ := hK.1.1 ci q hq
  obtain ⟨cf, kf, fi, f, hf, hsl⟩ := hS j hj
  have hlays := u_lays hts (jm_lays ci q hq) hj
  have hst := (u_facts hfc hkC hlays hf).1
  have fin : ∀ H1 : Heap, H1[ad k i]? = some (cell.setSlot f.slot v) → H1.size = H.size → (∀ z, z ≠ ad k i → H1[z]? = H[z]?) → W p l e R s m args below meth c H1 (locs ++ [⟨ad k i, f.slot⟩]) cells slots Qw (F0 m (pc + 3) lsA rest) := by
    intro H1 e1 e2 e3
    refine kk H1 _ (hR.set hi hal hs hcl e2 e3 ?_) ?_
    · unfold jm_cell
      rw [hk]
      refine ⟨q, hq, t_OB.to (V := updV (jm_val ad st k i) j v) ⟨_, e1, g2, g3, ?_⟩ (fun j' _ => ?_)⟩
      · rw [hsl]; exact t_set g4 hap hj v
      · rw [hv]; rfl
    · intro z hz
      rcases List.mem_append.mp hz with h | h
      · exact hlc z h
      · rw [List.mem_singleton.mp h]; exact hR.2.2.1 k i hi
  rcases hcase with ⟨hfin, hw⟩ | ⟨hfin, hini, hdecl, hw⟩
  · have hlay := hts _ (jm_lays ci q hq _ (u_in_lay hj))
    unfold u_lay at hlay
    rw [if_neg (by rw [hfin]; decide)] at hlay
    have h6 := u_store hfc hkC hkind hlay hf hty hn hfit
    rcases hw with hw | ⟨host, hw⟩
    · exact W.putK hx hb (f := f) ⟨hown, hts _ hw, ⟨_, _, _, hf⟩, hst⟩ (by rw [g2]; exact h6) g1 g3 (by rw [hsl]; exact k2_hasslot (g4 j hj)) rfl rfl hd fin
    · exact va_WputK hx hb (f := f) hown (va_Nw.use rfl (hK.2.2.1 _ hw)) hf hst (by rw [g2]; exact h6) g1 g3 (by rw [hsl]; exact k2_hasslot (g4 j hj)) rfl rfl hd fin
  · have hlay := hts _ (jm_lays ci q hq _ (u_in_lay hj))
    unfold u_lay at hlay
    rw [if_pos hfin] at hlay
    have hcf : m.cls = cf := by
      obtain ⟨_, _, c', _, _, _, -, -, hf', -, -, -, hown2, -⟩ := Cond.laysFinal_spec hlay
      have e1 : c' = cf := by have := hf.symm.trans hf'; simp at this; exact this.1.symm
      rw [hdecl] at hown2
      rw [← e1]; exact Option.some.inj (hown.symm.trans hown2)
    have h6 := u_fits hfc hkC hkind (Or.inr hlay) hf hty hn hfit
    exact W.putFinK hx hb hown (hts _ hw) hf hst hcf (by rw [hnm]; exact hini) (by rw [g2]; exact h6) g1 g3 (by rw [hsl]; exact k2_hasslot (g4 j hj)) rfl rfl hd fin
theorem u3_ne {α : Type} {f : Nat → Nat → Nat → α} {k i j a b c : Nat} {v : α} (h : ¬ (a = k ∧ b = i)) : u3 f k i j v a b c = f a b c := by
  unfold u3
  rw [if_neg (fun q => h ⟨q.1, q.2.1⟩)]
theorem u3_at {α : Type} {f : Nat → Nat → Nat → α} {k i j c : Nat} {v : α} : u3 f k i j v k i c = if c = j then v else f k i c := by
  unfold u3
  by_cases h : c = j
  · rw [if_pos ⟨rfl, rfl, h⟩, if_pos h]
  · rw [if_neg (fun q => h q.2.2), if_neg h]
theorem jm_vI {ad : Nat → Nat → Nat} {k i j : Nat} {x : Int32} (hc : kly k j = 0 ∨ kly k j = 2) (j' : Nat) : jm_val ad (sI st k i j x) k i j' = if j' = j then .int x else jm_val ad st k i j' := by
  unfold jm_val sI
  simp only [u3_at]
  by_cases h : j' = j
  · subst h
    rcases hc with hc | hc <;> simp [hc]
  · simp [h]
theorem jm_vL {ad : Nat → Nat → Nat} {k i j : Nat} {x : Int64} (hc : kly k j = 1) (j' : Nat) : jm_val ad (sL st k i j x) k i j' = if j' = j then .long x else jm_val ad st k i j' := by
  unfold jm_val sL
  simp only [u3_at]
  by_cases h : j' = j
  · subst h
    simp [hc]
  · simp [h]
theorem jm_vR {ad : Nat → Nat → Nat} {k i j c : Nat} {t : Option Nat} (hc : kly k j = c + 3) (j' : Nat) : jm_val ad (sR st k i j t) k i j' = if j' = j then va_rf (t.map (ad c)) else jm_val ad st k i j' := by
  unfold jm_val sR
  simp only [u3_at]
  by_cases h : j' = j
  · subst h
    simp [hc]
  · simp [h]
theorem jm_puti {k i j ci idx : Nat} {x : Int32} (hl : jm_FP M idx ci j .int) (hd : decode M.2.1 pc = .ok (.putfield idx, 3)) (hk : kob k = some ci) (hc : kly k j = 0) (kk : MS l D M d mc ms Q uc us (pc + 3) ls sk (sI st k i j x)) : MS l D M d mc ms Q uc us pc ls (vI x :: vR (some (k, i)) :: sk) st := by
  intro p e s m args below meth c X ad0 al0 ad H locs lsA he ha hR hoL hoS hlo hlc
  exact jm_Wput (st' := sI st k i j x) X hR hoS.2.1 hk hl rfl rfl hlc hd rfl (fun a b h j' => ⟨u3_ne h, rfl, rfl⟩) (fun j' c0 h t => hR.2.2.2.1 k i j' c0 hoS.2.1 h t) (jm_vI (Or.inl hc)) (fun H1 locs1 hR1 hl1 => kk p e s m args below meth c X ad0 al0 ad H1 locs1 lsA he ha hR1 hoL hoS.2.2 hlo hl1)
theorem jm_putz {k i j ci idx : Nat} {x : Int32} (hl : jm_FP M idx ci j .boolean) (hd : decode M.2.1 pc = .ok (.putfield idx, 3)) (hk : kob k = some ci) (hc : kly k j = 2) (hx : x = 0 ∨ x = 1) (kk : MS l D M d mc ms Q uc us (pc + 3) ls sk (sI st k i j x)) : MS l D M d mc ms Q uc us pc ls (vI x :: vR (some (k, i)) :: sk) st := by
  intro p e s m args below meth c X ad0 al0 ad H locs lsA he ha hR hoL hoS hlo hlc
  exact jm_Wput (st' := sI st k i j x) X hR hoS.2.1 hk hl (by rcases hx with rfl | rfl <;> rfl) (by rcases hx with rfl | rfl <;> rfl) hlc hd rfl (fun a b h j' => ⟨u3_ne h, rfl, rfl⟩) (fun j' c0 h t => hR.2.2.2.1 k i j' c0 hoS.2.1 h t) (jm_vI (Or.inr hc)) (fun H1 locs1 hR1 hl1 => kk p e s m args below meth c X ad0 al0 ad H1 locs1 lsA he ha hR1 hoL hoS.2.2 hlo hl1)
theorem jm_putl {k i j ci idx : Nat} {x : Int64} (hl : jm_FP M idx ci j .long) (hd : decode M.2.1 pc = .ok (.putfield idx, 3)) (hk : kob k = some ci) (hc : kly k j = 1) (kk : MS l D M d mc ms Q uc us (pc + 3) ls sk (sL st k i j x)) : MS l D M d mc ms Q uc us pc ls (vL x :: vR (some (k, i)) :: sk) st := by
  intro p e s m args below meth c X ad0 al0 ad H locs lsA he ha hR hoL hoS hlo hlc
  exact jm_Wput (st' := sL st k i j x) X hR hoS.2.1 hk hl rfl rfl hlc hd rfl (fun a b h j' => ⟨rfl, u3_ne h, rfl⟩) (fun j' c0 h t => hR.2.2.2.1 k i j' c0 hoS.2.1 h t) (jm_vL hc) (fun H1 locs1 hR1 hl1 => kk p e s m args below meth c X ad0 al0 ad H1 locs1 lsA he ha hR1 hoL hoS.2.2 hlo hl1)
theorem jm_putr {k i j ci idx c0 : Nat} {ty : FieldType} {r : Option (Nat × Nat)} (t : Option Nat) (hr : r = t.map (Prod.mk c0)) (hl : jm_FP M idx ci j ty) (hd : decode M.2.1 pc = .ok (.putfield idx, 3)) (hk : kob k = some ci) (hc : kly k j = c0 + 3) (hn : ∀ w : Option Nat, narrow ty (va_rf w) = va_rf w ∧ fits ty (va_rf w) = true) (kk : MS l D M d mc ms Q uc us (pc + 3) ls sk (sR st k i j t)) : MS l D M d mc ms Q uc us pc ls (vR r :: vR (some (k, i)) :: sk) st := by
  intro p e s m args below meth c X ad0 al0 ad H locs lsA he ha hR hoL hoS hlo hlc
  subst hr
  have ev : jm_c ad (vR (t.map (Prod.mk c0))) = va_rf (t.map (ad c0)) := by
    show va_rf _ = va_rf _
    rw [Option.map_map]
    rfl
  show W _ _ _ _ _ _ _ _ _ _ _ _ _ _ _ (F0 m pc lsA (jm_c ad (vR (t.map (Prod.mk c0))) :: _))
  rw [ev]
  refine jm_Wput (st' := sR st k i j t) X hR hoS.2.1 hk hl (hn _).1 (hn _).2 hlc hd rfl (fun a b h j' => ⟨rfl, rfl, u3_ne h⟩) (fun j' c1 h t' ht => ?_) (jm_vR hc) (fun H1 locs1 hR1 hl1 => kk p e s m args below meth c X ad0 al0 ad H1 locs1 lsA he ha hR1 hoL hoS.2.2 hlo hl1)
  simp only [sR, u3_at] at ht
  by_cases hj : j' = j
  · subst hj
    rw [if_pos rfl] at ht
    have hc1 : c1 = c0 := Nat.add_right_cancel (h.symm.trans hc)
    subst hc1
    have h0 := hoS.1
    rw [ht] at h0
    exact h0
  · rw [if_neg hj] at ht
    exact hR.2.2.2.1 k i j' c1 hoS.2.1 h t' ht
theorem jm_arr {p : Program} {s : State} {m : MethodId} {args : Array Value} {meth : Method} {c : Code} {H : Heap} {ad : Nat → Nat → Nat} {k i : Nat} (hR : jm_R D ad st H) (hi : i < st.2.2.2 k) (hk : kob k = none) : H[ad k i]? = some (arrV (D.2.2 (kat k)) (kln k) (jm_val ad st k i)) := by
  have h := hR.1 k i hi
  unfold jm_cell at h
  rw [hk] at h
  exact h
theorem jm_iald {k i : Nat} {x : Int32} (hd : decode M.2.1 pc = .ok (.iaload, 1)) (hk : kob k = none) (hn : kat k < katn) (ht : katy (kat k) = .int) (hc : ∀ j, kly k j = 0) (hin : vp_in x (kln k)) (kk : MS l D M d mc ms Q uc us (pc + 1) ls (vI (st.1 k i x.toNatClampNeg) :: sk) st) : MS l D M d mc ms Q uc us pc ls (vI x :: vR (some (k, i)) :: sk) st := by
  intro p e s m args below meth c X ad0 al0 ad H locs lsA he ha hR hoL hoS hlo hlc
  have hK := X.2.2.2.2.2.2.2.2
  have hlt : x.toNatClampNeg < kln k := Nat.not_le.mp fun q => hin (Or.inr q)
  have ev : jm_val ad st k i x.toNatClampNeg = jm_c ad (vI (st.1 k i x.toNatClampNeg)) := by
    unfold jm_val
    rw [hc]
    rfl
  exact W.iald (v := jm_c ad (vI (st.1 k i x.toNatClampNeg))) X.1 X.2.1 (jm_arr (p := p) (s := s) (m := m) (args := args) (meth := meth) (c := c) hR hoS.2.1 hk) (by have h := (hK.2.1 _ hn).1 (kln k) (jm_val ad st k i); rw [ht] at h; exact h) (fun q => by cases q) (by rw [arrV_size]; exact hin) (by rw [arrV_read _ _ hlt, ev]) rfl rfl hd (kk p e s m args below meth c X ad0 al0 ad H locs lsA he ha hR hoL ⟨trivial, hoS.2.2⟩ hlo hlc)
theorem jm_zald {k i : Nat} {x : Int32} (hd : decode M.2.1 pc = .ok (.baload, 1)) (hk : kob k = none) (hn : kat k < katn) (ht : katy (kat k) = .boolean) (hc : ∀ j, kly k j = 2) (hin : vp_in x (kln k)) (kk : MS l D M d mc ms Q uc us (pc + 1) ls (vI (st.1 k i x.toNatClampNeg) :: sk) st) : MS l D M d mc ms Q uc us pc ls (vI x :: vR (some (k, i)) :: sk) st := by
  intro p e s m args below meth c X ad0 al0 ad H locs lsA he ha hR hoL hoS hlo hlc
  have hK := X.2.2.2.2.2.2.2.2
  have hlt : x.toNatClampNeg < kln k := Nat.not_le.mp fun q => hin (Or.inr q)
  have ev : jm_val ad st k i x.toNatClampNeg = jm_c ad (vI (st.1 k i x.toNatClampNeg)) := by
    unfold jm_val
    rw [hc]
    rfl
  exact W.zald (v := jm_c ad (vI (st.1 k i x.toNatClampNeg))) X.1 X.2.1 (jm_arr (p := p) (s := s) (m := m) (args := args) (meth := meth) (c := c) hR hoS.2.1 hk) (by have h := (hK.2.1 _ hn).1 (kln k) (jm_val ad st k i); rw [ht] at h; exact h) (fun q => by cases q) (by rw [arrV_size]; exact hin) (by rw [arrV_read _ _ hlt, ev]) rfl rfl hd (kk p e s m args below meth c X ad0 al0 ad H locs lsA he ha hR hoL ⟨trivial, hoS.2.2⟩ hlo hlc)
theorem jm_lald {k i : Nat} {x : Int32} (hd : decode M.2.1 pc = .ok (.laload, 1)) (hk : kob k = none) (hn : kat k < katn) (ht : katy (kat k) = .long) (hc : ∀ j, kly k j = 1) (hin : vp_in x (kln k)) (kk : MS l D M d mc ms Q uc us (pc + 1) ls (vL (st.2.1 k i x.toNatClampNeg) :: sk) st) : MS l D M d mc ms Q uc us pc ls (vI x :: vR (some (k, i)) :: sk) st := by
  intro p e s m args below meth c X ad0 al0 ad H locs lsA he ha hR hoL hoS hlo hlc
  have hK := X.2.2.2.2.2.2.2.2
  have hlt : x.toNatClampNeg < kln k := Nat.not_le.mp fun q => hin (Or.inr q)
  have ev : jm_val ad st k i x.toNatClampNeg = jm_c ad (vL (st.2.1 k i x.toNatClampNeg)) := by
    unfold jm_val
    rw [hc]
    rfl
  exact W.lald (v := jm_c ad (vL (st.2.1 k i x.toNatClampNeg))) X.1 X.2.1 (jm_arr (p := p) (s := s) (m := m) (args := args) (meth := meth) (c := c) hR hoS.2.1 hk) (by have h := (hK.2.1 _ hn).1 (kln k) (jm_val ad st k i); rw [ht] at h; exact h) (fun q => by cases q) (by rw [arrV_size]; exact hin) (by rw [arrV_read _ _ hlt, ev]) rfl rfl hd (kk p e s m args below meth c X ad0 al0 ad H locs lsA he ha hR hoL ⟨trivial, hoS.2.2⟩ hlo hlc)
theorem jm_aald {k i c0 : Nat} {x : Int32} (hd : decode M.2.1 pc = .ok (.aaload, 1)) (hk : kob k = none) (hn : kat k < katn) (ht : (katy (kat k)).isReference = true) (hc : ∀ j, kly k j = c0 + 3) (hin : vp_in x (kln k)) (kk : MS l D M d mc ms Q uc us (pc + 1) ls (vR ((st.2.2.1 k i x.toNatClampNeg).map (Prod.mk c0)) :: sk) st) : MS l D M d mc ms Q uc us pc ls (vI x :: vR (some (k, i)) :: sk) st := by
  intro p e s m args below meth c X ad0 al0 ad H locs lsA he ha hR hoL hoS hlo hlc
  have hK := X.2.2.2.2.2.2.2.2
  have hlt : x.toNatClampNeg < kln k := Nat.not_le.mp fun q => hin (Or.inr q)
  exact W.aald (v := jm_c ad (vR ((st.2.2.1 k i x.toNatClampNeg).map (Prod.mk c0)))) X.1 X.2.1 (jm_arr (p := p) (s := s) (m := m) (args := args) (meth := meth) (c := c) hR hoS.2.1 hk) ((hK.2.1 _ hn).1 (kln k) (jm_val ad st k i)) ht (fun q => by cases q) (by rw [arrV_size]; exact hin) (by rw [arrV_read _ _ hlt, jm_valR (hc _)]) rfl rfl hd (kk p e s m args below meth c X ad0 al0 ad H locs lsA he ha hR hoL ⟨jm_okR hR hoS.2.1 (hc _), hoS.2.2⟩ hlo hlc)
theorem jm_alen {k i : Nat} (hd : decode M.2.1 pc = .ok (.arraylength, 1)) (hk : kob k = none) (hn : kat k < katn) (kk : MS l D M d mc ms Q uc us (pc + 1) ls (vI (nI (kln k)) :: sk) st) : MS l D M d mc ms Q uc us pc ls (vR (some (k, i)) :: sk) st := by
  intro p e s m args below meth c X ad0 al0 ad H locs lsA he ha hR hoL hoS hlo hlc
  have hK := X.2.2.2.2.2.2.2.2
  exact W.alen (n := nI (kln k)) X.1 X.2.1 (jm_arr (p := p) (s := s) (m := m) (args := args) (meth := meth) (c := c) hR hoS.1 hk) ((hK.2.1 _ hn).1 (kln k) (jm_val ad st k i)) (by rw [arrV_size]; rfl) rfl rfl hd (kk p e s m args below meth c X ad0 al0 ad H locs lsA he ha hR hoL ⟨trivial, hoS.2⟩ hlo hlc)
theorem jm_locs {ad : Nat → Nat → Nat} {H : Heap} {k i j : Nat} (hR : jm_R D ad st H) (hi : i < st.2.2.2 k) {locs : List Loc} (hlc : ∀ q ∈ locs, D.2.1.size ≤ q.base) : ∀ q ∈ locs ++ [⟨ad k i, j⟩], D.2.1.size ≤ q.base := by
  intro z hz
  rcases List.mem_append.mp hz with h | h
  · exact hlc z h
  · rw [List.mem_singleton.mp h]; exact hR.2.2.1 k i hi
theorem jm_stored {ad : Nat → Nat → Nat} {H1 : Heap} {k i j : Nat} {st' : aS} {v : Value} (hk : kob k = none) (hv : ∀ j', jm_val ad st' k i j' = if j' = j then v else jm_val ad st k i j') (e : H1[ad k i]? = some ((arrV (D.2.2 (kat k)) (kln k) (jm_val ad st k i)).setSlot j v)) : jm_cell D ad st' k i H1 := by
  unfold jm_cell
  rw [hk]
  show H1[ad k i]? = _
  rw [e, arrV_store]
  congr 2
  funext q
  rw [hv]
  rfl
theorem jm_iast {k i : Nat} {x : Int32} {y : Int32} (hd : decode M.2.1 pc = .ok (.iastore, 1)) (hk : kob k = none) (hn : kat k < katn) (ht : katy (kat k) = .int) (hc : ∀ j, kly k j = 0) (hin : vp_in x (kln k)) (kk : MS l D M d mc ms Q uc us (pc + 1) ls sk (sI st k i x.toNatClampNeg y)) : MS l D M d mc ms Q uc us pc ls (vI y :: vI x :: vR (some (k, i)) :: sk) st := by
  intro p e s m args below meth c X ad0 al0 ad H locs lsA he ha hR hoL hoS hlo hlc
  have hK := X.2.2.2.2.2.2.2.2
  have hi := hoS.2.2.1
  refine W.iast X.1 X.2.1 (jm_arr (p := p) (s := s) (m := m) (args := args) (meth := meth) (c := c) hR hi hk) (by have h := (hK.2.1 _ hn).1 (kln k) (jm_val ad st k i); rw [ht] at h; exact h) (fun q => by cases q) (by rw [arrV_size]; exact hin) rfl rfl hd fun H1 e1 z oq => ?_
  exact kk p e s m args below meth c X ad0 al0 ad H1 _ lsA he ha (hR.set (st' := sI st k i x.toNatClampNeg y) hi rfl (fun a b h j' => ⟨u3_ne h, rfl, rfl⟩) (fun j' c0 h t => hR.2.2.2.1 k i j' c0 hi h t) z oq (jm_stored hk (jm_vI (Or.inl (hc _))) e1)) hoL hoS.2.2.2 hlo (jm_locs hR hi hlc)
theorem jm_last {k i : Nat} {x : Int32} {y : Int64} (hd : decode M.2.1 pc = .ok (.lastore, 1)) (hk : kob k = none) (hn : kat k < katn) (ht : katy (kat k) = .long) (hc : ∀ j, kly k j = 1) (hin : vp_in x (kln k)) (kk : MS l D M d mc ms Q uc us (pc + 1) ls sk (sL st k i x.toNatClampNeg y)) : MS l D M d mc ms Q uc us pc ls (vL y :: vI x :: vR (some (k, i)) :: sk) st := by
  intro p e s m args below meth c X ad0 al0 ad H locs lsA he ha hR hoL hoS hlo hlc
  have hK := X.2.2.2.2.2.2.2.2
  have hi := hoS.2.2.1
  refine W.last X.1 X.2.1 (jm_arr (p := p) (s := s) (m := m) (args := args) (meth := meth) (c := c) hR hi hk) (by have h := (hK.2.1 _ hn).1 (kln k) (jm_val ad st k i); rw [ht] at h; exact h) (fun q => by cases q) (by rw [arrV_size]; exact hin) rfl rfl hd fun H1 e1 z oq => ?_
  exact kk p e s m args below meth c X ad0 al0 ad H1 _ lsA he ha (hR.set (st' := sL st k i x.toNatClampNeg y) hi rfl (fun a b h j' => ⟨rfl, u3_ne h, rfl⟩) (fun j' c0 h t => hR.2.2.2.1 k i j' c0 hi h t) z oq (jm_stored hk (jm_vL (hc _)) e1)) hoL hoS.2.2.2 hlo (jm_locs hR hi hlc)
theorem jm_zast {k i : Nat} {x : Int32} {y : Int32} (hd : decode M.2.1 pc = .ok (.bastore, 1)) (hk : kob k = none) (hn : kat k < katn) (ht : katy (kat k) = .boolean) (hc : ∀ j, kly k j = 2) (hin : vp_in x (kln k)) (hy : y = 0 ∨ y = 1) (kk : MS l D M d mc ms Q uc us (pc + 1) ls sk (sI st k i x.toNatClampNeg y)) : MS l D M d mc ms Q uc us pc ls (vI y :: vI x :: vR (some (k, i)) :: sk) st := by
  intro p e s m args below meth c X ad0 al0 ad H locs lsA he ha hR hoL hoS hlo hlc
  have hK := X.2.2.2.2.2.2.2.2
  have hi := hoS.2.2.1
  refine W.zast X.1 X.2.1 (jm_arr (p := p) (s := s) (m := m) (args := args) (meth := meth) (c := c) hR hi hk) (by have h := (hK.2.1 _ hn).1 (kln k) (jm_val ad st k i); rw [ht] at h; exact h) (fun q => by cases q) (by rw [arrV_size]; exact hin) rfl rfl hd fun H1 e1 z oq => ?_
  refine kk p e s m args below meth c X ad0 al0 ad H1 _ lsA he ha (hR.set (st' := sI st k i x.toNatClampNeg y) hi rfl (fun a b h j' => ⟨u3_ne h, rfl, rfl⟩) (fun j' c0 h t => hR.2.2.2.1 k i j' c0 hi h t) z oq (jm_stored hk (jm_vI (Or.inr (hc _))) ?_)) hoL hoS.2.2.2 hlo (jm_locs hR hi hlc)
  rw [e1]
  rcases hy with rfl | rfl <;> rfl
theorem jm_aast {k i t c0 ci : Nat} {q : vw_C} {x : Int32} (hd : decode M.2.1 pc = .ok (.aastore, 1)) (hk : kob k = none) (hn : kat k < katn) (ht : katy (kat k) = .object q.1) (hc : ∀ j, kly k j = c0 + 3) (hco : kob c0 = some ci) (hq : vwCl[ci]? = some q) (hin : vp_in x (kln k)) (kk : MS l D M d mc ms Q uc us (pc + 1) ls sk (sR st k i x.toNatClampNeg (some t))) : MS l D M d mc ms Q uc us pc ls (vR (some (c0, t)) :: vI x :: vR (some (k, i)) :: sk) st := by
  intro p e s m args below meth c X ad0 al0 ad H locs lsA he ha hR hoL hoS hlo hlc
  have hK := X.2.2.2.2.2.2.2.2
  have hi := hoS.2.2.1
  have hlt : x.toNatClampNeg < kln k := Nat.not_le.mp fun q => hin (Or.inr q)
  have h0 : ¬ x < 0 := fun q => hin (Or.inl q)
  have hv := hR.1 c0 t hoS.1
  unfold jm_cell at hv
  rw [hco] at hv
  obtain ⟨q', hq', cellV, g1, g2, g3, -⟩ := hv
  have hcls := (hK.1.1 ci q hq).2
  have hra := (hK.2.1 _ hn).2
  rw [ht] at hra
  obtain ⟨kA, comp, k1, k2, k3, -⟩ := hra
  have hcomp : comp = D.1.1 ci := Option.some.inj (k3.symm.trans hcls.1)
  subst hcomp
  obtain ⟨kC, hkC, hkk⟩ := id hcls.2
  refine W.aast X.1 X.2.1 (jm_arr (p := p) (s := s) (m := m) (args := args) (meth := meth) (c := c) hR hi hk) (fun q h => by cases h) (fun h => by cases h) k1 k2 rfl hkC ⟨h0, by rw [arrV_size]; exact hlt⟩ g1 (fun q h => by rw [g3] at h; cases h) (by rw [g2]; exact hkC) (by rw [g2]; exact va_assign hcls) rfl rfl hd fun H1 e1 z oq => ?_
  refine kk p e s m args below meth c X ad0 al0 ad H1 _ lsA he ha (hR.set (st' := sR st k i x.toNatClampNeg (some t)) hi rfl (fun a b h j' => ⟨rfl, rfl, u3_ne h⟩) (fun j' c1 h t' ht' => ?_) z oq (jm_stored hk (jm_vR (hc _)) e1)) hoL hoS.2.2.2 hlo (jm_locs hR hi hlc)
  simp only [sR, u3_at] at ht'
  by_cases hj : j' = x.toNatClampNeg
  · rw [if_pos hj] at ht'
    have hc1 : c1 = c0 := Nat.add_right_cancel (h.symm.trans (hc j'))
    subst hc1
    cases ht'
    exact hoS.1
  · rw [if_neg hj] at ht'
    exact hR.2.2.2.1 k i j' c1 hi h t' ht'
end JMR


theorem jm_catsum {ad : Nat → Nat → Nat} : ∀ {sk : List aV}, ((sk.map (jm_c ad)).map fun v => v.category).sum = (sk.map jm_cat).sum
  | [] => rfl
  | v :: r => by
    rw [List.map_cons, List.map_cons, List.map_cons, List.sum_cons, List.sum_cons, jm_cat_c, jm_catsum]
theorem jm_MetMono {l : Launch} {y : MethodName} {ws : List Cond} {rm : Room} {Pc : Array Value → State → Prop} {Qc Qc' : Array Value → State → Outcome → State → Prop} {mc ms : Nat} {free : Addr → Prop} (h : Met l y ws rm Pc Qc mc ms free) (hq : ∀ a s o t, Qc a s o t → Qc' a s o t) : Met l y ws rm Pc Qc' mc ms free := by
  intro p e ha hc hk s m args below hf h1 h2 h3
  obtain ⟨k, o, g1, g2, g3, g4, g5⟩ := h p e ha hc hk s m args below hf h1 h2 h3
  exact ⟨k, o, g1, g2, g3, hq _ _ _ _ g4, g5⟩

section JMC
variable {l : Launch} {D : mD} {M : mM} {d mc ms : Nat} {Q : Option aV → aS → Prop} {uc us pc : Nat} {ls : List (Option aV)} {sk : List aV} {st : aS}
/-! making -/
def jm_dv (c : Nat) : Value := match c with
  | 0 => .int 0
  | 1 => .long 0
  | 2 => .int 0
  | _ + 3 => .null
theorem jm_val_new {ad : Nat → Nat → Nat} {k j : Nat} : jm_val ad (sNew st k) k (st.2.2.2 k) j = jm_dv (kly k j) := by
  unfold jm_val jm_dv sNew
  simp only [z3, and_self, if_true]
  split <;> first | rfl | simp_all
def jm_dflB : Bool := (List.range 6).all fun ci => match vwCl[ci]? with
  | some q => (List.range q.2.2).all fun j => match parseFieldDescriptor (q.2.1 j).2.2.1 with
    | some ty => decide (defaultValue ty = jm_dv (kly ci j))
    | none => false
  | none => true
theorem jm_dflB_ok : jm_dflB = true := by decide +kernel
theorem jm_dfl (k ci : Nat) (q : vw_C) (hk : kob k = some ci) (hq : vwCl[ci]? = some q) (j : Nat) (hj : j < q.2.2) (ty : FieldType) (hty : parseFieldDescriptor (q.2.1 j).2.2.1 = some ty) : defaultValue ty = jm_dv (kly k j) := by
  have hkc : k = ci := by
    unfold kob at hk
    split at hk
    · exact Option.some.inj hk
    · cases hk
  subst hkc
  have hl : k < 6 := (List.getElem?_eq_some_iff.mp hq).1
  have h1 := List.all_eq_true.mp jm_dflB_ok k (List.mem_range.mpr hl)
  rw [hq] at h1
  have h2 := List.all_eq_true.mp h1 j (List.mem_range.mpr hj)
  simp only [hty, decide_eq_true_eq] at h2
  exact h2
theorem jm_up2_at {ad : Nat → Nat → Nat} {k i a : Nat} : jm_up2 ad k i a k i = a := by
  unfold jm_up2
  exact if_pos ⟨rfl, rfl⟩
theorem jm_new_ok {k : Nat} : (st.2.2.2 k) < (sNew st k).2.2.2 k := by
  show st.2.2.2 k < if k = k then st.2.2.2 k + 1 else st.2.2.2 k
  rw [if_pos rfl]
  exact Nat.lt_succ_self _
theorem jm_new_le (k : Nat) : ∀ a, st.2.2.2 a ≤ (sNew st k).2.2.2 a := by
  intro a
  show st.2.2.2 a ≤ if a = k then st.2.2.2 a + 1 else st.2.2.2 a
  split <;> omega
theorem jm_ext_trans {al0 al1 : Nat → Nat} {a0 a1 a2 : Nat → Nat → Nat} (h : jm_ext al0 a0 a1) (hl : ∀ k, al0 k ≤ al1 k) (h' : jm_ext al1 a1 a2) : jm_ext al0 a0 a2 := fun k i hi => (h' k i (Nat.lt_of_lt_of_le hi (hl k))).trans (h k i hi)
theorem jm_made {p : Program} {e : Env} {s : State} {m : MethodId} {args : Array Value} {below : List Frame} {meth : Method} {c : Code} {ad0 ad : Nat → Nat → Nat} {al0 : Nat → Nat} {H H1 : Heap} {locs : List Loc} {lsA : Array Slot} {k : Nat} {sk0 : List Value} (X : jm_X M D p s m args meth c) (he : jm_ext al0 ad0 ad) (ha : ∀ k, al0 k ≤ st.2.2.2 k) (hR : jm_R D ad st H) (hoL : jm_okL st.2.2.2 ls) (hoS : jm_okS st.2.2.2 sk) (hlo : jm_lo ad lsA M.2.2.1 ls) (hlc : ∀ q ∈ locs, D.2.1.size ≤ q.base) (hz : H1.size = H.size + 1) (oq : ∀ q, q < H.size → H1[q]? = H[q]?)
    (hn : jm_cell D (jm_up2 ad k (st.2.2.2 k) H.size) (sNew st k) k (st.2.2.2 k) H1) (hs : sk0 = sk.map (jm_c ad)) {uc' us' pc' : Nat} (kk : MS l D M d mc ms Q uc' us' pc' ls (vR (some (k, st.2.2.2 k)) :: sk) (sNew st k)) : W p l e (jm_rm d mc ms) s m args below meth c H1 locs uc' us' (MQ below (jm_Q D ad0 al0 Q) args s mc ms (fun q => D.2.1.size ≤ q)) (F0 m pc' lsA (.ref H.size :: sk0)) := by
  obtain ⟨hR1, hx⟩ := hR.new hz oq hn
  have h := kk p e s m args below meth c X ad0 al0 _ H1 locs lsA (jm_ext_trans he ha hx) (fun a => Nat.le_trans (ha a) (jm_new_le k a)) hR1 (jm_okL_mono (jm_new_le k) hoL) ⟨jm_new_ok, jm_okS_mono (jm_new_le k) hoS⟩ (jm_lo_ext hx hoL hlo) hlc
  rw [List.map_cons, jm_map_ext hx hoS, ← hs] at h
  have e2 : jm_c (jm_up2 ad k (st.2.2.2 k) H.size) (vR (some (k, st.2.2.2 k))) = .ref H.size := by
    show va_rf (some (jm_up2 ad k (st.2.2.2 k) H.size k (st.2.2.2 k))) = _
    rw [jm_up2_at]
    rfl
  rw [e2] at h
  exact h
theorem jm_new {k ci idx : Nat} {q : vw_C} (hd : decode M.2.1 pc = .ok (.new idx, 3)) (hk : kob k = some ci) (hq : vwCl[ci]? = some q) (hw : Cond.classLink M.1.cls idx q.1 ∈ jm_tb) (hi : Cond.instantiable q.1 q.2.2 ∈ jm_tb) (hini : Cond.initialized q.1 ∈ jm_tb) (hu : uc + 1 ≤ mc ∧ us + q.2.2 ≤ ms) (kk : MS l D M d mc ms Q (uc + 1) (us + q.2.2) (pc + 3) ls (vR (some (k, st.2.2.2 k)) :: sk) (sNew st k)) : MS l D M d mc ms Q uc us pc ls sk st := by
  intro p e s m args below meth c X ad0 al0 ad H locs lsA he ha hR hoL hoS hlo hlc
  obtain ⟨hx, hb, -, -, -, hown, -, hts, hK⟩ := id X
  have hKn := hK.1.1 ci q hq
  refine W.newcK hx hb hown (hts _ hw) (hts _ hi) (hts _ hini) rfl hd hu.1 hu.2 hKn.2.1 rfl fun H1 kC hkC e1 z1 o1 => ?_
  refine jm_made X he ha hR hoL hoS hlo hlc z1 o1 ?_ rfl kk
  obtain ⟨ty0, hty0⟩ := jm_tys ci q hq
  unfold jm_cell
  rw [hk, jm_up2_at]
  exact ⟨q, hq, (u_born ty0 hts (jm_lays ci q hq) hKn hkC e1 hty0).to (fun j hj => by rw [jm_val_new]; exact jm_dfl k ci q hk hq j hj _ (hty0 j hj))⟩
theorem jm_newa {k : Nat} {atype : ArrayType} {n : Int32} (hd : decode M.2.1 pc = .ok (.newarray atype, 2)) (hk : kob k = none) (hkt : kat k < katn) (ht : katy (kat k) = newarray.typeOf atype) (hw : Cond.arrayClass (newarray.typeOf atype) ∈ jm_tb) (hn : ¬ n < 0) (hN : n.toNatClampNeg = kln k) (hby : kln k * componentBytes (newarray.typeOf atype) ≤ 536870912) (hdv : ∀ j, defaultValue (newarray.typeOf atype) = jm_dv (kly k j)) (hu : uc + 1 ≤ mc ∧ us + kln k ≤ ms) (kk : MS l D M d mc ms Q (uc + 1) (us + kln k) (pc + 2) ls (vR (some (k, st.2.2.2 k)) :: sk) (sNew st k)) : MS l D M d mc ms Q uc us pc ls (vI n :: sk) st := by
  intro p e s m args below meth c X ad0 al0 ad H locs lsA he ha hR hoL hoS hlo hlc
  obtain ⟨hx, hb, -, -, -, hown, -, hts, hK⟩ := id X
  refine va_newaK hx hb (hts _ hw) rfl hd rfl hn hN hby hu.1 hu.2 rfl fun H1 cA e1 z1 o1 hAr hNm => ?_
  refine jm_made X he ha hR hoL hoS.2 hlo hlc z1 o1 ?_ rfl kk
  have hra := (hK.2.1 _ hkt).2
  rw [ht] at hra
  have hcA : D.2.2 (kat k) = cA := by
    have h9 : s.vm.findClass ("[" ++ (newarray.typeOf atype).toString) = some (D.2.2 (kat k)) := by cases atype <;> exact hra
    exact Option.some.inj (h9.symm.trans hNm)
  unfold jm_cell
  rw [hk, jm_up2_at]
  show H1[H.size]? = _
  rw [e1, hcA]
  congr 2
  funext j
  rw [jm_val_new]
  exact hdv j
theorem jm_anew {k idx : Nat} {C : String} {n : Int32} (hd : decode M.2.1 pc = .ok (.anewarray idx, 3)) (hk : kob k = none) (hkt : kat k < katn) (ht : katy (kat k) = .object C) (hC : C ∈ jm_over) (hw : Cond.classLink M.1.cls idx C ∈ jm_tb) (hn : ¬ n < 0) (hN : n.toNatClampNeg = kln k) (hby : kln k * 4 ≤ 536870912) (hdv : ∀ j, Value.null = jm_dv (kly k j)) (hu : uc + 1 ≤ mc ∧ us + kln k ≤ ms) (kk : MS l D M d mc ms Q (uc + 1) (us + kln k) (pc + 3) ls (vR (some (k, st.2.2.2 k)) :: sk) (sNew st k)) : MS l D M d mc ms Q uc us pc ls (vI n :: sk) st := by
  intro p e s m args below meth c X ad0 al0 ad H locs lsA he ha hR hoL hoS hlo hlc
  obtain ⟨hx, hb, -, -, -, hown, -, hts, hK⟩ := id X
  refine W.anew hx hb hown (hts _ hw) (va_AO.use (hK.2.2.2.1 C hC)) rfl hd rfl hn (by rw [hN]; exact hby) hu.1 (by rw [hN]; exact hu.2) fun cA kA comp f1 f2 f3 f4 => ?_
  rw [hN]
  refine jm_made X he ha hR hoL hoS.2 hlo hlc (by rw [Array.size_push]) (fun q hq => by rw [Array.getElem?_push, if_neg (Nat.ne_of_lt hq)]) ?_ rfl kk
  have hra := (hK.2.1 _ hkt).2
  rw [ht] at hra
  obtain ⟨kA', comp', g1, g2, g3, g4⟩ := hra
  have hcA : D.2.2 (kat k) = cA := Option.some.inj (g4.symm.trans f1)
  unfold jm_cell
  rw [hk, jm_up2_at]
  show _ = _
  rw [Array.getElem?_push_size, arrV_new, hcA]
  congr 2
  funext j
  rw [jm_val_new]
  exact hdv j
theorem jm_objInit {idx : Nat} {r : Nat × Nat} (hd : decode M.2.1 pc = .ok (.invokespecial idx, 3)) (h1 : Cond.methodLink M.1.cls idx Lib.objectInit ∈ jm_tb) (h2 : Cond.instanceMethod Lib.objectInit ∈ jm_tb) (h3 : Cond.code Lib.objectInit ⟨#[0xb1]⟩ 1 none ∈ jm_tb) (hdd : 1 ≤ d) (hcat : (sk.map jm_cat).sum ≤ 8) (kk : MS l D M d mc ms Q uc us (pc + 3) ls sk st) : MS l D M d mc ms Q uc us pc ls (vR (some r) :: sk) st := by
  intro p e s m args below meth c X ad0 al0 ad H locs lsA he ha hR hoL hoS hlo hlc
  obtain ⟨hx, hb, -, -, hml, hown, -, hts, hK⟩ := id X
  refine W.objInit hx hb hown (hts _ h1) (hts _ h2) (hts _ h3) rfl (hlo.1.trans hml.symm) rfl hd hdd ?_ (kk p e s m args below meth c X ad0 al0 ad H locs lsA he ha hR hoL hoS.2 hlo hlc)
  have h9 := lv_room (m := m) (pc := pc) (ls := lsA) (rest := (vR (some r) :: sk).map (jm_c ad)) (st := sk.map (jm_c ad)) (by rw [jm_catsum]; exact hcat)
  have h8 : (jm_rm d mc ms).locals = 40 * d := rfl
  rw [h8]
  have h7 : 2 * (F0 m pc lsA ((vR (some r) :: sk).map (jm_c ad))).monitorRoom + ((sk.map (jm_c ad)).map fun v => v.category).sum ≤ 8 := h9
  omega
/-! a static array that nobody writes: getstatic, iload, iaload -/
theorem jm_stat {idx num : Nat} {C nm : String} {xs : List Int32} {k : Fin 4} {x : Int32} (hd1 : decode M.2.1 pc = .ok (.getstatic idx, 3)) (hd2 : decode M.2.1 (pc + 3) = .ok (.iload_n k, 1)) (hd3 : decode M.2.1 (pc + 4) = .ok (.iaload, 1)) (hz : (C, nm, num, xs) ∈ jm_statics) (hw : Cond.fieldLink M.1.cls idx C nm "[I" ∈ jm_tb) (hl : ls[(k : Nat)]? = some (some (vI x))) (hin : vp_in x xs.length) (kk : MS l D M d mc ms Q uc us (pc + 5) ls (vI (xs.getD x.toNatClampNeg 0) :: sk) st) : MS l D M d mc ms Q uc us pc ls sk st := by
  intro p e s m args below meth c X ad0 al0 ad H locs lsA he ha hR hoL hoS hlo hlc
  obtain ⟨hx, hb, -, -, hml, hown, -, hts, hK⟩ := id X
  obtain ⟨hZ, hT⟩ := hK.2.2.2.2 _ hz
  have old : ∀ a cell, D.2.1[a]? = some cell → H[a]? = some cell := fun a cell h => by rw [hR.2.2.2.2.1 a (Array.getElem?_eq_some_iff.mp h).1]; exact h
  obtain ⟨cf, kf, fi, f, a, cell, h1, h2, h3, h4, h5, h6, h7, h8⟩ := hZ
  refine W.gets hx hb hown (hts _ hw) h1 h2 h3 h4 (old _ _ h5) (fun e => by rw [e] at h6; cases h6) h7 rfl hd1 ?_
  refine lv_iload_n hx hb hd2 rfl (hlo.2.2 _ _ hl) ?_
  obtain ⟨cell', g1, g2, g3, g4, g5, g6, g7⟩ := hT
  have hlt : x.toNatClampNeg < xs.length := Nat.not_le.mp fun q => hin (Or.inr q)
  refine W.iald (v := .int (xs.getD x.toNatClampNeg 0)) hx hb (old _ _ g1) g2 g3 (fun q => ?_) (g6 _ hlt) rfl rfl hd3 (kk p e s m args below meth c X ad0 al0 ad H locs lsA he ha hR hoL ⟨trivial, hoS⟩ hlo hlc)
  rcases q with q | q
  · exact hin (Or.inl q)
  · have g4' : xs.length ≤ cell'.slots.size := g4
    omega
/-! calls -/
def jm_MF (M' : mM) (n : Nat) : Prop := Cond.code M'.1 M'.2.1 M'.2.2.1 M'.2.2.2 ∈ jm_tb ∧ Cond.initialized M'.1.cls ∈ jm_tb ∧ (M'.1.cls ≠ "java/lang/invoke/MethodHandle" ∧ M'.1.cls ≠ "java/lang/invoke/VarHandle" ∧ (parseMethodDescriptor M'.1.desc).map (fun d => d.parameters.length) = some n) ∧ M'.2.2.1 ≤ 21
def jm_ML (own : String) (idx : Nat) (M' : mM) : Prop := Cond.methodLink own idx M'.1 ∈ jm_tb ∨ ∃ host, Cond.methodLinkNest own idx M'.1 host ∈ jm_nest
def jm_MV (M' : mM) : Prop := Cond.instanceMethod M'.1 ∈ jm_tb ∧ Cond.selects M'.1.cls M'.1 M'.1 ∈ jm_tb
theorem jm_after {p : Program} {e : Env} {s : State} {m : MethodId} {args : Array Value} {below : List Frame} {meth : Method} {c : Code} {ad0 ad : Nat → Nat → Nat} {al0 : Nat → Nat} {H : Heap} {locs : List Loc} {lsA : Array Slot} {mc' ms' : Nat} {sk0 : List Value} {a : Array Value} {Q' : Option aV → aS → Prop} (X : jm_X M D p s m args meth c) (he : jm_ext al0 ad0 ad) (ha : ∀ k, al0 k ≤ st.2.2.2 k) (hoL : jm_okL st.2.2.2 ls) (hoS : jm_okS st.2.2.2 sk) (hlo : jm_lo ad lsA M.2.2.1 ls) (hlc : ∀ q ∈ locs, D.2.1.size ≤ q.base)
    (hr : va_Run p l e (jm_rm d mc ms) s m args below meth c H locs uc us mc' ms' (F0 m pc lsA sk0) (sk.map (jm_c ad)) (jm_Q D ad st.2.2.2 Q' a) (fun q => D.2.1.size ≤ q)) (kk : ∀ v st', Q' v st' → MS l D M d mc ms Q (uc + mc') (us + ms') (pc + 3) ls (v.toList ++ sk) st') : W p l e (jm_rm d mc ms) s m args below meth c H locs uc us (MQ below (jm_Q D ad0 al0 Q) args s mc ms (fun q => D.2.1.size ≤ q)) (F0 m pc lsA sk0) := by
  intro T hT Xs
  obtain ⟨v, st₀, t, T', L, h0, X', hL, e1, e2, ⟨v', st', ad', ev, hQ, hx, hal, hvok, hR'⟩, hst⟩ := hr T hT Xs
  have ev' : v = v'.map (jm_c ad') := Outcome.returned.inj ev
  subst ev'
  have hok : jm_okS st'.2.2.2 (v'.toList ++ sk) := by
    cases v' with
    | none => exact jm_okS_mono hal hoS
    | some w => exact ⟨hvok w rfl, jm_okS_mono hal hoS⟩
  obtain ⟨t2, a1, b1⟩ := kk v' st' hQ p e s m args below meth c X ad0 al0 ad' T'.heap (locs ++ L) lsA (jm_ext_trans he ha hx) (fun k => Nat.le_trans (ha k) (hal k)) (by rw [e1]; exact hR') (jm_okL_mono hal hoL) hok (jm_lo_ext hx hoL hlo) (fun q hq => by
    rcases List.mem_append.mp hq with h | h
    · exact hlc q h
    · exact hL q h) T' rfl X'
  refine ⟨t2, hst t2 ?_, b1⟩
  have es : (v'.toList ++ sk).map (jm_c ad') = (v'.map (jm_c ad')).toList ++ sk.map (jm_c ad) := by
    rw [List.map_append, jm_map_ext hx hoS]
    cases v' <;> rfl
  rw [es] at a1
  exact a1
theorem jm_hws {M' : mM} {n : Nat} {s : State} {args : Array Value} (hF : jm_MF M' n) (hts : ∀ w ∈ jm_tb, w.before args s = true) : ∀ w ∈ jm_ws M', ∀ (a' : Array Value) (U : State), s.WarmedH U.vm → w.before a' U = true := by
  intro w hw a' U hW
  have hw' : w ∈ jm_tb := by
    rcases List.mem_cons.mp hw with rfl | h
    · exact hF.1
    · exact h
  exact word_at hW (good_of_word (jm_good w hw')) (hts w hw')
theorem jm_par {M' : mM} {n : Nat} (hF : jm_MF M' n) : ∀ sig, parseMethodDescriptor M'.1.desc = some sig → n = sig.parameters.length := by
  intro sig h
  have h2 := hF.2.2.1.2.2
  rw [h] at h2
  exact (Option.some.inj h2).symm
theorem jm_room {M' : mM} {n d' mc' ms' : Nat} (hF : jm_MF M' n) (hdd : d' + 1 ≤ d) : 8 + (M'.2.2.1 + 11) + (jm_rm d' mc' ms').locals ≤ (jm_rm d mc ms).locals := by
  have h := hF.2.2.2
  show 8 + (M'.2.2.1 + 11) + 40 * d' ≤ 40 * d
  omega
theorem jm_pc {s : State} {ad : Nat → Nat → Nat} {av : List aV} : FrameBlind (va_Pc (av.map (jm_c ad)) (fun U => jm_R D ad st U.heap ∧ jm_K D U)) := fun a U g mk q => ⟨q.1, q.2.1, jm_K.same (s := U) (U := U.calling g mk a) rfl q.2.2⟩
theorem jm_callV {M' : mM} {d' mc' ms' n k i ci idx : Nat} {q : vw_C} {av sk0 : List aV} {Q' : Option aV → aS → Prop} (hM : MC l D M' d' mc' ms' (vR (some (k, i)) :: av) st Q') (hF : jm_MF M' n) (hV : jm_MV M') (hL : jm_ML M.1.cls idx M') (hd : decode M.2.1 pc = .ok (.invokevirtual idx, 3)) (hk : kob k = some ci) (hq : vwCl[ci]? = some q) (hC : q.1 = M'.1.cls) (hn : av.length = n) (hdd : d' + 1 ≤ d) (hu : uc + mc' ≤ mc ∧ us + ms' ≤ ms) (hs : sk0 = av.reverse ++ vR (some (k, i)) :: sk) (hcat : (sk.map jm_cat).sum ≤ 8) (kk : ∀ v st', Q' v st' → MS l D M d mc ms Q (uc + mc') (us + ms') (pc + 3) ls (v.toList ++ sk) st') : MS l D M d mc ms Q uc us pc ls sk0 st := by
  intro p e s m args below meth c X ad0 al0 ad H locs lsA he ha hR hoL hoS hlo hlc
  subst hs
  obtain ⟨hx, hb, -, -, hml, hown, -, hts, hK⟩ := id X
  have ho := jm_okS_app hoS
  have hoa : jm_okS st.2.2.2 (vR (some (k, i)) :: av) := ⟨ho.2.1, jm_okS_rev ho.1⟩
  have hM1 := hM ad hoa
  have hcell := hR.1 k i ho.2.1
  unfold jm_cell at hcell
  rw [hk] at hcell
  obtain ⟨q', hq', cellB, g1, g2, g3, -⟩ := hcell
  have hrecv : ∃ cellB : Cell, H[ad k i]? = some cellB ∧ cellB.vm.isStatics = false ∧ s.vm.findClass M'.1.cls = some cellB.cls := ⟨cellB, g1, by rw [g3]; rfl, by rw [g2, ← hC]; exact (hK.1.1 ci q hq).2.1⟩
  have hp : PreV s H M'.1.cls (ad k i) (va_Pc ((vR (some (k, i)) :: av).map (jm_c ad)) (fun U => jm_R D ad st U.heap ∧ jm_K D U)) (av.map (jm_c ad)) := ⟨jm_pc (s := s), hrecv, fun U hU hW => ⟨rfl, by rw [hU]; exact hR, hK.moved hW⟩⟩
  have hstk : (F0 m pc lsA ((av.reverse ++ vR (some (k, i)) :: sk).map (jm_c ad))).stack = (av.map (jm_c ad)).reverse ++ .ref (ad k i) :: sk.map (jm_c ad) := by
    show (av.reverse ++ vR (some (k, i)) :: sk).map (jm_c ad) = _
    rw [List.map_append, List.map_cons, List.map_reverse]
    rfl
  have hroom := lv_room (m := m) (pc := pc) (ls := lsA) (rest := (av.reverse ++ vR (some (k, i)) :: sk).map (jm_c ad)) (st := sk.map (jm_c ad)) (by rw [jm_catsum]; exact hcat)
  rcases hL with hw | ⟨host, hw⟩
  · exact jm_after X he ha hoL ho.2.2 hlo hlc (va_runV (Ts := jm_tb) ⟨hx, hb, hml, hown, hts⟩ hM1 ⟨⟨rfl, rfl, hdd, jm_room (mc := mc) (ms := ms) hF hdd, jm_hws hF hts, List.mem_cons_self, hts _ hF.1, hts _ hF.2.1, ⟨hF.2.2.1.1, hF.2.2.1.2.1⟩, jm_par hF, hts _ hw⟩, hts _ hV.1, hts _ hV.2⟩ hp rfl ((List.length_map _).trans hn) hlo.1 hstk hroom hd hu) kk
  · exact jm_after X he ha hoL ho.2.2 hlo hlc (va_runVN (Ts := jm_tb) ⟨hx, hb, hml, hown, hts⟩ hM1 ⟨⟨⟨rfl, rfl, hdd, jm_room (mc := mc) (ms := ms) hF hdd, jm_hws hF hts, List.mem_cons_self⟩, hts _ hF.1, hts _ hF.2.1, ⟨hF.2.2.1.1, hF.2.2.1.2.1⟩, jm_par hF, va_Nw.use rfl (hK.2.2.1 _ hw)⟩, hts _ hV.1, hts _ hV.2⟩ hp rfl ((List.length_map _).trans hn) hlo.1 hstk hroom hd hu) kk
theorem jm_callS {M' : mM} {d' mc' ms' n idx : Nat} {av sk0 : List aV} {Q' : Option aV → aS → Prop} (hM : MC l D M' d' mc' ms' av st Q') (hF : jm_MF M' n) (hV : Cond.static M'.1 ∈ jm_tb) (hL : jm_ML M.1.cls idx M') (hd : decode M.2.1 pc = .ok (.invokestatic idx, 3)) (hn : av.length = n) (hdd : d' + 1 ≤ d) (hu : uc + mc' ≤ mc ∧ us + ms' ≤ ms) (hs : sk0 = av.reverse ++ sk) (hcat : (sk.map jm_cat).sum ≤ 8) (kk : ∀ v st', Q' v st' → MS l D M d mc ms Q (uc + mc') (us + ms') (pc + 3) ls (v.toList ++ sk) st') : MS l D M d mc ms Q uc us pc ls sk0 st := by
  intro p e s m args below meth c X ad0 al0 ad H locs lsA he ha hR hoL hoS hlo hlc
  subst hs
  obtain ⟨hx, hb, -, -, hml, hown, -, hts, hK⟩ := id X
  have ho := jm_okS_app hoS
  have hM1 := hM ad (jm_okS_rev ho.1)
  have hp : PreS s H (va_Pc (av.map (jm_c ad)) (fun U => jm_R D ad st U.heap ∧ jm_K D U)) (av.map (jm_c ad)) := ⟨jm_pc (s := s), fun U hU hW => ⟨rfl, by rw [hU]; exact hR, hK.moved hW⟩⟩
  have hstk : (F0 m pc lsA ((av.reverse ++ sk).map (jm_c ad))).stack = (av.map (jm_c ad)).reverse ++ sk.map (jm_c ad) := by
    show (av.reverse ++ sk).map (jm_c ad) = _
    rw [List.map_append, List.map_reverse]
  have hroom := lv_room (m := m) (pc := pc) (ls := lsA) (rest := (av.reverse ++ sk).map (jm_c ad)) (st := sk.map (jm_c ad)) (by rw [jm_catsum]; exact hcat)
  rcases hL with hw | ⟨host, hw⟩
  · exact jm_after X he ha hoL ho.2 hlo hlc (va_runS (Ts := jm_tb) ⟨hx, hb, hml, hown, hts⟩ hM1 ⟨⟨rfl, rfl, hdd, jm_room (mc := mc) (ms := ms) hF hdd, jm_hws hF hts, List.mem_cons_self, hts _ hF.1, hts _ hF.2.1, ⟨hF.2.2.1.1, hF.2.2.1.2.1⟩, jm_par hF, hts _ hw⟩, hts _ hV⟩ hp rfl ((List.length_map _).trans hn) hlo.1 hstk hroom hd hu) kk
  · exact jm_after X he ha hoL ho.2 hlo hlc (va_runSN (Ts := jm_tb) ⟨hx, hb, hml, hown, hts⟩ hM1 ⟨⟨⟨rfl, rfl, hdd, jm_room (mc := mc) (ms := ms) hF hdd, jm_hws hF hts, List.mem_cons_self⟩, hts _ hF.1, hts _ hF.2.1, ⟨hF.2.2.1.1, hF.2.2.1.2.1⟩, jm_par hF, va_Nw.use rfl (hK.2.2.1 _ hw)⟩, hts _ hV, trivial⟩ hp rfl ((List.length_map _).trans hn) hlo.1 hstk hroom hd hu) kk
theorem jm_callI {y : MethodName} {bytes : ByteArray} {maxL d' mc' ms' n k i idx : Nat} {av sk0 : List aV} {Q' : Option aV → aS → Prop} (hM : MC l D (y, bytes, maxL, none) d' mc' ms' (vR (some (k, i)) :: av) st Q') (hF : jm_MF (y, bytes, maxL, none) n) (hN : y.name = "<init>") (hV : Cond.instanceMethod y ∈ jm_tb) (hL : jm_ML M.1.cls idx (y, bytes, maxL, none)) (hd : decode M.2.1 pc = .ok (.invokespecial idx, 3)) (hn : av.length = n) (hdd : d' + 1 ≤ d) (hu : uc + mc' ≤ mc ∧ us + ms' ≤ ms) (hs : sk0 = av.reverse ++ vR (some (k, i)) :: sk) (hcat : (sk.map jm_cat).sum ≤ 8) (kk : ∀ v st', Q' v st' → MS l D M d mc ms Q (uc + mc') (us + ms') (pc + 3) ls (v.toList ++ sk) st') : MS l D M d mc ms Q uc us pc ls sk0 st := by
  intro p e s m args below meth c X ad0 al0 ad H locs lsA he ha hR hoL hoS hlo hlc
  subst hs
  obtain ⟨hx, hb, -, -, hml, hown, -, hts, hK⟩ := id X
  have ho := jm_okS_app hoS
  have hoa : jm_okS st.2.2.2 (vR (some (k, i)) :: av) := ⟨ho.2.1, jm_okS_rev ho.1⟩
  have hM1 := hM ad hoa
  have hp : PreS s H (va_Pc ((vR (some (k, i)) :: av).map (jm_c ad)) (fun U => jm_R D ad st U.heap ∧ jm_K D U)) (.ref (ad k i) :: av.map (jm_c ad)) := ⟨jm_pc (s := s), fun U hU hW => ⟨rfl, by rw [hU]; exact hR, hK.moved hW⟩⟩
  have hstk : (F0 m pc lsA ((av.reverse ++ vR (some (k, i)) :: sk).map (jm_c ad))).stack = (av.map (jm_c ad)).reverse ++ .ref (ad k i) :: sk.map (jm_c ad) := by
    show (av.reverse ++ vR (some (k, i)) :: sk).map (jm_c ad) = _
    rw [List.map_append, List.map_cons, List.map_reverse]
    rfl
  have hroom := lv_room (m := m) (pc := pc) (ls := lsA) (rest := (av.reverse ++ vR (some (k, i)) :: sk).map (jm_c ad)) (st := sk.map (jm_c ad)) (by rw [jm_catsum]; exact hcat)
  rcases hL with hw | ⟨host, hw⟩
  · exact jm_after X he ha hoL ho.2.2 hlo hlc (va_runI (Ts := jm_tb) ⟨hx, hb, hml, hown, hts⟩ hM1 ⟨⟨rfl, rfl, hdd, jm_room (mc := mc) (ms := ms) hF hdd, jm_hws hF hts, List.mem_cons_self, hts _ hF.1, hts _ hF.2.1, ⟨hF.2.2.1.1, hF.2.2.1.2.1⟩, jm_par hF, hts _ hw⟩, hN, hts _ hV⟩ hp rfl ((List.length_map _).trans hn) hlo.1 hstk hroom hd hu) kk
  · exact jm_after X he ha hoL ho.2.2 hlo hlc (va_runIN (Ts := jm_tb) ⟨hx, hb, hml, hown, hts⟩ hM1 ⟨⟨⟨rfl, rfl, hdd, jm_room (mc := mc) (ms := ms) hF hdd, jm_hws hF hts, List.mem_cons_self⟩, hts _ hF.1, hts _ hF.2.1, ⟨hF.2.2.1.1, hF.2.2.1.2.1⟩, jm_par hF, va_Nw.use rfl (hK.2.2.1 _ hw)⟩, hN, hts _ hV⟩ hp rfl ((List.length_map _).trans hn) hlo.1 hstk hroom hd hu) kk
/-! ends -/
theorem jm_iret {x : Int32} (hd : decode M.2.1 pc = .ok (.ireturn, 1)) (hr : M.2.2.2 = some .int) (hu : uc ≤ mc ∧ us ≤ ms) (hQ : Q (some (vI x)) st) : MS l D M d mc ms Q uc us pc ls [vI x] st := by
  intro p e s m args below meth c X ad0 al0 ad H locs lsA he ha hR hoL hoS hlo hlc
  refine W.widen (k := mc) (n := ms) hu.1 hu.2 ?_
  exact W.iret X.1 X.2.1 (X.2.2.1.trans hr) (fun t ht hW => ⟨some (vI x), st, ad, rfl, hQ, he, ha, fun y hy => by cases hy; trivial, by rw [ht]; exact hR⟩) hlc hd X.2.2.2.1
theorem jm_zret {x : Int32} (hd : decode M.2.1 pc = .ok (.ireturn, 1)) (hr : M.2.2.2 = some .boolean) (hx : x = 0 ∨ x = 1) (hu : uc ≤ mc ∧ us ≤ ms) (hQ : Q (some (vI x)) st) : MS l D M d mc ms Q uc us pc ls [vI x] st := by
  intro p e s m args below meth c X ad0 al0 ad H locs lsA he ha hR hoL hoS hlo hlc
  refine W.widen (k := mc) (n := ms) hu.1 hu.2 ?_
  exact W.zret (ty := .boolean) X.1 X.2.1 (X.2.2.1.trans hr) (by rcases hx with rfl | rfl <;> rfl) (fun t ht hW => ⟨some (vI x), st, ad, rfl, hQ, he, ha, fun y hy => by cases hy; trivial, by rw [ht]; exact hR⟩) hlc hd X.2.2.2.1
theorem jm_lret {x : Int64} (hd : decode M.2.1 pc = .ok (.lreturn, 1)) (hr : M.2.2.2 = some .long) (hu : uc ≤ mc ∧ us ≤ ms) (hQ : Q (some (vL x)) st) : MS l D M d mc ms Q uc us pc ls [vL x] st := by
  intro p e s m args below meth c X ad0 al0 ad H locs lsA he ha hR hoL hoS hlo hlc
  refine W.widen (k := mc) (n := ms) hu.1 hu.2 ?_
  exact W.lret X.1 X.2.1 (X.2.2.1.trans hr) (fun t ht hW => ⟨some (vL x), st, ad, rfl, hQ, he, ha, fun y hy => by cases hy; trivial, by rw [ht]; exact hR⟩) hlc hd X.2.2.2.1
theorem jm_vret (hd : decode M.2.1 pc = .ok (.return_, 1)) (hr : M.2.2.2 = none) (hu : uc ≤ mc ∧ us ≤ ms) (hQ : Q none st) : MS l D M d mc ms Q uc us pc ls [] st := by
  intro p e s m args below meth c X ad0 al0 ad H locs lsA he ha hR hoL hoS hlo hlc
  refine W.widen (k := mc) (n := ms) hu.1 hu.2 ?_
  exact W.vret X.1 X.2.1 (X.2.2.1.trans hr) (fun t ht hW => ⟨none, st, ad, rfl, hQ, he, ha, fun y hy => (by cases hy), by rw [ht]; exact hR⟩) hlc hd X.2.2.2.1
theorem jm_aret {r : Option (Nat × Nat)} {n : String} (hd : decode M.2.1 pc = .ok (.areturn, 1)) (hr : M.2.2.2 = some (.object n)) (hu : uc ≤ mc ∧ us ≤ ms) (hQ : Q (some (vR r)) st) : MS l D M d mc ms Q uc us pc ls [vR r] st := by
  intro p e s m args below meth c X ad0 al0 ad H locs lsA he ha hR hoL hoS hlo hlc
  refine W.widen (k := mc) (n := ms) hu.1 hu.2 ?_
  exact W.aret (v := jm_c ad (vR r)) X.1 X.2.1 (X.2.2.1.trans hr) (Or.inl ⟨n, rfl⟩) (va_rf_or _) (fun t ht hW => ⟨some (vR r), st, ad, rfl, hQ, he, ha, fun y hy => by cases hy; exact hoS.1, by rw [ht]; exact hR⟩) hlc hd X.2.2.2.1
/-! a method's start -/
def jm_ent : List aV → List (Option aV)
  | [] => []
  | .inr (.inl y) :: vs => some (vL y) :: none :: jm_ent vs
  | v :: vs => some v :: jm_ent vs
theorem jm_ent_len (ad : Nat → Nat → Nat) : ∀ av : List aV, (lg_sl (av.map (jm_c ad))).length = (jm_ent av).length
  | [] => rfl
  | .inl x :: vs => by
    have h := jm_ent_len ad vs
    unfold lg_sl at h ⊢
    rw [List.map_cons, List.flatMap_cons, List.length_append, h]
    show 1 + _ = _ + 1
    omega
  | .inr (.inl y) :: vs => by
    have h := jm_ent_len ad vs
    unfold lg_sl at h ⊢
    rw [List.map_cons, List.flatMap_cons, List.length_append, h]
    show 2 + _ = _ + 1 + 1
    omega
  | .inr (.inr none) :: vs => by
    have h := jm_ent_len ad vs
    unfold lg_sl at h ⊢
    rw [List.map_cons, List.flatMap_cons, List.length_append, h]
    show 1 + _ = _ + 1
    omega
  | .inr (.inr (some q)) :: vs => by
    have h := jm_ent_len ad vs
    unfold lg_sl at h ⊢
    rw [List.map_cons, List.flatMap_cons, List.length_append, h]
    show 1 + _ = _ + 1
    omega
theorem jm_ent_mem (ad : Nat → Nat → Nat) : ∀ (av : List aV) (o i : Nat) (v : aV), (jm_ent av)[i]? = some (some v) → (o + i, jm_c ad v) ∈ lv_args o (av.map (jm_c ad)) ∧ v ∈ av
  | [], o, i, v, h => by simp [jm_ent] at h
  | .inl x :: vs, o, 0, v, h => by
    simp [jm_ent] at h
    subst h
    exact ⟨by simp [lv_args], List.mem_cons_self⟩
  | .inl x :: vs, o, i + 1, v, h => by
    simp [jm_ent] at h
    obtain ⟨h1, h2⟩ := jm_ent_mem ad vs (o + 1) i v h
    refine ⟨?_, List.mem_cons_of_mem _ h2⟩
    rw [show o + (i + 1) = o + 1 + i by omega]
    exact List.mem_cons_of_mem _ h1
  | .inr (.inl y) :: vs, o, 0, v, h => by
    simp [jm_ent] at h
    subst h
    exact ⟨by simp [lv_args], List.mem_cons_self⟩
  | .inr (.inl y) :: vs, o, 1, v, h => by simp [jm_ent] at h
  | .inr (.inl y) :: vs, o, i + 2, v, h => by
    simp [jm_ent] at h
    obtain ⟨h1, h2⟩ := jm_ent_mem ad vs (o + 2) i v h
    refine ⟨?_, List.mem_cons_of_mem _ h2⟩
    rw [show o + (i + 2) = o + 2 + i by omega]
    exact List.mem_cons_of_mem _ h1
  | .inr (.inr none) :: vs, o, 0, v, h => by
    simp [jm_ent] at h
    subst h
    exact ⟨by simp [lv_args], List.mem_cons_self⟩
  | .inr (.inr none) :: vs, o, i + 1, v, h => by
    simp [jm_ent] at h
    obtain ⟨h1, h2⟩ := jm_ent_mem ad vs (o + 1) i v h
    refine ⟨?_, List.mem_cons_of_mem _ h2⟩
    rw [show o + (i + 1) = o + 1 + i by omega]
    exact List.mem_cons_of_mem _ h1
  | .inr (.inr (some q)) :: vs, o, 0, v, h => by
    simp [jm_ent] at h
    subst h
    exact ⟨by simp [lv_args], List.mem_cons_self⟩
  | .inr (.inr (some q)) :: vs, o, i + 1, v, h => by
    simp [jm_ent] at h
    obtain ⟨h1, h2⟩ := jm_ent_mem ad vs (o + 1) i v h
    refine ⟨?_, List.mem_cons_of_mem _ h2⟩
    rw [show o + (i + 1) = o + 1 + i by omega]
    exact List.mem_cons_of_mem _ h1
theorem jm_okS_mem {al : Nat → Nat} : ∀ {av : List aV} {v : aV}, jm_okS al av → v ∈ av → jm_ok al v
  | [], _, _, h => by cases h
  | _ :: _, _, ho, h => by
    rcases List.mem_cons.mp h with rfl | h
    · exact ho.1
    · exact jm_okS_mem ho.2 h
theorem jm_start {av : List aV} {ls0 : List (Option aV)} (hy : plainName M.1.cls = true) (hl : (jm_ent av).length ≤ M.2.2.1) (hls : ls0 = jm_ent av ++ List.replicate (M.2.2.1 - (jm_ent av).length) none) (h : MS l D M d mc ms Q 0 0 0 ls0 [] st) : MC l D M d mc ms av st Q := by
  subst hls
  intro ad hok
  refine Met.ofW (cc := M.2.1) (maxL := M.2.2.1) (ret := M.2.2.2) hy rfl ?_
  intro p e s m args below meth c s₁ B hml hv
  obtain ⟨rfl, hR, hK⟩ := hv
  have X : jm_X M D p s m (av.map (jm_c ad)).toArray meth c := ⟨B.exec, B.bytes, B.returns, B.notSynchronized, hml, findClass_of_methodNamed B.named, (name_of_methodNamed B.named B.method).1, fun w hw => atoms_spec (ws := jm_ws M) B.pre w (List.mem_cons_of_mem _ hw), hK⟩
  have hle := lv_entry (av.map (jm_c ad)) (n := M.2.2.1) (by rw [jm_ent_len]; exact hl)
  rw [lg_entry_eq]
  have ent : ∀ (i : Nat) (v : aV), (jm_ent av ++ List.replicate (M.2.2.1 - (jm_ent av).length) none)[i]? = some (some v) → (jm_ent av)[i]? = some (some v) := by
    intro i v h
    by_cases hi : i < (jm_ent av).length
    · rw [List.getElem?_append_left hi] at h; exact h
    · rw [List.getElem?_append_right (by omega)] at h
      rw [List.getElem?_replicate] at h
      split at h <;> simp at h
  refine h p e s m _ below meth c X ad st.2.2.2 ad s.heap [] _ (fun _ _ _ => rfl) (fun _ => Nat.le_refl _) hR (fun i v hv => ?_) trivial ⟨hle.1, hle.2.1, fun i v hv => ?_⟩ (fun _ h => by cases h)
  · exact jm_okS_mem hok (jm_ent_mem ad av 0 i v (ent i v hv)).2
  · have h1 := (jm_ent_mem ad av 0 i v (ent i v hv)).1
    rw [Nat.zero_add] at h1
    exact hle.2.2 _ h1
theorem MC.mono {av : List aV} {Q' : Option aV → aS → Prop} (h : MC l D M d mc ms av st Q) (hq : ∀ v s', Q v s' → Q' v s') : MC l D M d mc ms av st Q' := by
  intro ad hok
  refine jm_MetMono (h ad hok) ?_
  rintro a s0 o t ⟨v, st', ad', h1, h2, h3⟩
  exact ⟨v, st', ad', h1, hq v st' h2, h3⟩
theorem MS.mono {Q' : Option aV → aS → Prop} (h : MS l D M d mc ms Q uc us pc ls sk st) (hq : ∀ v s', Q v s' → Q' v s') : MS l D M d mc ms Q' uc us pc ls sk st := by
  intro p e s m args below meth c X ad0 al0 ad H locs lsA he ha hR hoL hoS hlo hlc
  intro T hT Xs
  obtain ⟨t, h1, o, h2, h3, ⟨v, st', ad', g1, g2, g3⟩, h5⟩ := h p e s m args below meth c X ad0 al0 ad H locs lsA he ha hR hoL hoS hlo hlc T hT Xs
  exact ⟨t, h1, o, h2, h3, ⟨v, st', ad', g1, hq v st' g2, g3⟩, h5⟩
end JMC
end
section
/-! methods, and what a call of each needs -/
abbrev mG_add : mM := (⟨"GoalOrder", "add", "(III)I"⟩, prog_1_method_6_code, 6, (some .int))
theorem fG_add : jm_MF mG_add 3 := ⟨jm_in2 (List.mem_of_getElem? (i := 2) rfl) rfl, jm_in1 (List.mem_of_getElem? (i := 1) rfl) rfl, ⟨by decide, by decide, by decide +kernel⟩, by decide⟩
theorem vG_add : jm_MV mG_add := ⟨jm_in2 (List.mem_of_getElem? (i := 0) rfl) rfl, jm_in2 (List.mem_of_getElem? (i := 1) rfl) rfl⟩
abbrev mG_clear : mM := (⟨"GoalOrder", "clear", "()V"⟩, prog_1_method_4_code, 1, none)
theorem fG_clear : jm_MF mG_clear 0 := ⟨jm_in1 (List.mem_of_getElem? (i := 230) rfl) rfl, jm_in1 (List.mem_of_getElem? (i := 1) rfl) rfl, ⟨by decide, by decide, by decide +kernel⟩, by decide⟩
theorem vG_clear : jm_MV mG_clear := ⟨jm_in1 (List.mem_of_getElem? (i := 228) rfl) rfl, jm_in1 (List.mem_of_getElem? (i := 229) rfl) rfl⟩
abbrev mG_compared : mM := (⟨"GoalOrder", "compared", "(II)Z"⟩, prog_1_method_13_code, 4, (some .boolean))
theorem fG_compared : jm_MF mG_compared 2 := ⟨jm_in2 (List.mem_of_getElem? (i := 186) rfl) rfl, jm_in1 (List.mem_of_getElem? (i := 1) rfl) rfl, ⟨by decide, by decide, by decide +kernel⟩, by decide⟩
theorem vG_compared : jm_MV mG_compared := ⟨jm_in2 (List.mem_of_getElem? (i := 184) rfl) rfl, jm_in2 (List.mem_of_getElem? (i := 185) rfl) rfl⟩
abbrev mG_fits : mM := (⟨"GoalOrder", "fits", "(III)Z"⟩, prog_1_method_17_code, 4, (some .boolean))
theorem fG_fits : jm_MF mG_fits 3 := ⟨jm_in2 (List.mem_of_getElem? (i := 22) rfl) rfl, jm_in1 (List.mem_of_getElem? (i := 1) rfl) rfl, ⟨by decide, by decide, by decide +kernel⟩, by decide⟩
theorem vG_fits : jm_MV mG_fits := ⟨jm_in2 (List.mem_of_getElem? (i := 21) rfl) rfl, jm_inS (q := (⟨"GoalOrder", "fits", "(III)Z"⟩, 9)) (by decide +kernel)⟩
abbrev mG_forgetOrdering : mM := (⟨"GoalOrder", "forgetOrdering", "()V"⟩, prog_1_method_16_code, 1, none)
theorem fG_forgetOrdering : jm_MF mG_forgetOrdering 0 := ⟨jm_in1 (List.mem_of_getElem? (i := 226) rfl) rfl, jm_in1 (List.mem_of_getElem? (i := 1) rfl) rfl, ⟨by decide, by decide, by decide +kernel⟩, by decide⟩
theorem vG_forgetOrdering : jm_MV mG_forgetOrdering := ⟨jm_in1 (List.mem_of_getElem? (i := 225) rfl) rfl, jm_inS (q := (⟨"GoalOrder", "forgetOrdering", "()V"⟩, 9)) (by decide +kernel)⟩
abbrev mG_given : mM := (⟨"GoalOrder", "given", "(IZ)Z"⟩, prog_1_method_7_code, 3, (some .boolean))
theorem fG_given : jm_MF mG_given 2 := ⟨jm_in2 (List.mem_of_getElem? (i := 52) rfl) rfl, jm_in1 (List.mem_of_getElem? (i := 1) rfl) rfl, ⟨by decide, by decide, by decide +kernel⟩, by decide⟩
theorem vG_given : jm_MV mG_given := ⟨jm_in2 (List.mem_of_getElem? (i := 50) rfl) rfl, jm_in2 (List.mem_of_getElem? (i := 51) rfl) rfl⟩
abbrev mG_ground : mM := (⟨"GoalOrder", "ground", "(II)Z"⟩, prog_1_method_14_code, 4, (some .boolean))
theorem fG_ground : jm_MF mG_ground 2 := ⟨jm_in2 (List.mem_of_getElem? (i := 201) rfl) rfl, jm_in1 (List.mem_of_getElem? (i := 1) rfl) rfl, ⟨by decide, by decide, by decide +kernel⟩, by decide⟩
theorem vG_ground : jm_MV mG_ground := ⟨jm_in2 (List.mem_of_getElem? (i := 199) rfl) rfl, jm_in2 (List.mem_of_getElem? (i := 200) rfl) rfl⟩
abbrev mG_hasPlace : mM := (⟨"GoalOrder", "hasPlace", "(II)Z"⟩, prog_1_method_22_code, 2, (some .boolean))
theorem fG_hasPlace : jm_MF mG_hasPlace 2 := ⟨jm_in2 (List.mem_of_getElem? (i := 160) rfl) rfl, jm_in1 (List.mem_of_getElem? (i := 1) rfl) rfl, ⟨by decide, by decide, by decide +kernel⟩, by decide⟩
theorem sG_hasPlace : Cond.static mG_hasPlace.1 ∈ jm_tb := jm_in2 (List.mem_of_getElem? (i := 159) rfl) rfl
abbrev mG_holds : mM := (⟨"GoalOrder", "holds", "(JI)Z"⟩, prog_1_method_20_code, 3, (some .boolean))
theorem fG_holds : jm_MF mG_holds 2 := ⟨jm_in2 (List.mem_of_getElem? (i := 55) rfl) rfl, jm_in1 (List.mem_of_getElem? (i := 1) rfl) rfl, ⟨by decide, by decide, by decide +kernel⟩, by decide⟩
theorem sG_holds : Cond.static mG_holds.1 ∈ jm_tb := jm_in2 (List.mem_of_getElem? (i := 54) rfl) rfl
abbrev mG_init : mM := (⟨"GoalOrder", "<init>", "()V"⟩, prog_1_method_1_code, 1, none)
theorem fG_init : jm_MF mG_init 0 := ⟨jm_in1 (List.mem_of_getElem? (i := 11) rfl) rfl, jm_in1 (List.mem_of_getElem? (i := 1) rfl) rfl, ⟨by decide, by decide, by decide +kernel⟩, by decide⟩
theorem vG_init : Cond.instanceMethod mG_init.1 ∈ jm_tb := jm_in1 (List.mem_of_getElem? (i := 10) rfl) rfl
abbrev mG_isVariable : mM := (⟨"GoalOrder", "isVariable", "(I)Z"⟩, prog_1_method_19_code, 1, (some .boolean))
theorem fG_isVariable : jm_MF mG_isVariable 1 := ⟨jm_in1 (List.mem_of_getElem? (i := 238) rfl) rfl, jm_in1 (List.mem_of_getElem? (i := 1) rfl) rfl, ⟨by decide, by decide, by decide +kernel⟩, by decide⟩
theorem sG_isVariable : Cond.static mG_isVariable.1 ∈ jm_tb := jm_in1 (List.mem_of_getElem? (i := 237) rfl) rfl
abbrev mG_leastOf : mM := (⟨"GoalOrder", "leastOf", "(J)I"⟩, prog_1_method_21_code, 3, (some .int))
theorem fG_leastOf : jm_MF mG_leastOf 1 := ⟨jm_in2 (List.mem_of_getElem? (i := 164) rfl) rfl, jm_in1 (List.mem_of_getElem? (i := 1) rfl) rfl, ⟨by decide, by decide, by decide +kernel⟩, by decide⟩
theorem sG_leastOf : Cond.static mG_leastOf.1 ∈ jm_tb := jm_in2 (List.mem_of_getElem? (i := 163) rfl) rfl
abbrev mG_madeAt : mM := (⟨"GoalOrder", "madeAt", "(LGoalOrder$Node;)I"⟩, prog_1_method_18_code, 2, (some .int))
theorem fG_madeAt : jm_MF mG_madeAt 1 := ⟨jm_in2 (List.mem_of_getElem? (i := 190) rfl) rfl, jm_in1 (List.mem_of_getElem? (i := 1) rfl) rfl, ⟨by decide, by decide, by decide +kernel⟩, by decide⟩
theorem vG_madeAt : jm_MV mG_madeAt := ⟨jm_in2 (List.mem_of_getElem? (i := 189) rfl) rfl, jm_inS (q := (⟨"GoalOrder", "madeAt", "(LGoalOrder$Node;)I"⟩, 9)) (by decide +kernel)⟩
abbrev mG_mode : mM := (⟨"GoalOrder", "mode", "(II)I"⟩, prog_1_method_3_code, 4, (some .int))
theorem fG_mode : jm_MF mG_mode 2 := ⟨jm_in1 (List.mem_of_getElem? (i := 214) rfl) rfl, jm_in1 (List.mem_of_getElem? (i := 1) rfl) rfl, ⟨by decide, by decide, by decide +kernel⟩, by decide⟩
theorem vG_mode : jm_MV mG_mode := ⟨jm_in1 (List.mem_of_getElem? (i := 212) rfl) rfl, jm_in1 (List.mem_of_getElem? (i := 213) rfl) rfl⟩
abbrev mG_node : mM := (⟨"GoalOrder", "node", "(II)I"⟩, prog_1_method_12_code, 4, (some .int))
theorem fG_node : jm_MF mG_node 2 := ⟨jm_in2 (List.mem_of_getElem? (i := 181) rfl) rfl, jm_in1 (List.mem_of_getElem? (i := 1) rfl) rfl, ⟨by decide, by decide, by decide +kernel⟩, by decide⟩
theorem vG_node : jm_MV mG_node := ⟨jm_in2 (List.mem_of_getElem? (i := 179) rfl) rfl, jm_in2 (List.mem_of_getElem? (i := 180) rfl) rfl⟩
abbrev mG_order : mM := (⟨"GoalOrder", "order", "()I"⟩, prog_1_method_9_code, 5, (some .int))
theorem fG_order : jm_MF mG_order 0 := ⟨jm_in2 (List.mem_of_getElem? (i := 63) rfl) rfl, jm_in1 (List.mem_of_getElem? (i := 1) rfl) rfl, ⟨by decide, by decide, by decide +kernel⟩, by decide⟩
theorem vG_order : jm_MV mG_order := ⟨jm_in2 (List.mem_of_getElem? (i := 61) rfl) rfl, jm_in2 (List.mem_of_getElem? (i := 62) rfl) rfl⟩
abbrev mG_outer : mM := (⟨"GoalOrder", "outer", "(II)Z"⟩, prog_1_method_15_code, 4, (some .boolean))
theorem fG_outer : jm_MF mG_outer 2 := ⟨jm_in2 (List.mem_of_getElem? (i := 205) rfl) rfl, jm_in1 (List.mem_of_getElem? (i := 1) rfl) rfl, ⟨by decide, by decide, by decide +kernel⟩, by decide⟩
theorem vG_outer : jm_MV mG_outer := ⟨jm_in2 (List.mem_of_getElem? (i := 203) rfl) rfl, jm_in2 (List.mem_of_getElem? (i := 204) rfl) rfl⟩
abbrev mG_part : mM := (⟨"GoalOrder", "part", "(II)I"⟩, prog_1_method_11_code, 5, (some .int))
theorem fG_part : jm_MF mG_part 2 := ⟨jm_in2 (List.mem_of_getElem? (i := 172) rfl) rfl, jm_in1 (List.mem_of_getElem? (i := 1) rfl) rfl, ⟨by decide, by decide, by decide +kernel⟩, by decide⟩
theorem vG_part : jm_MV mG_part := ⟨jm_in2 (List.mem_of_getElem? (i := 170) rfl) rfl, jm_in2 (List.mem_of_getElem? (i := 171) rfl) rfl⟩
abbrev mG_predicate : mM := (⟨"GoalOrder", "predicate", "(I)I"⟩, prog_1_method_2_code, 2, (some .int))
theorem fG_predicate : jm_MF mG_predicate 1 := ⟨jm_in1 (List.mem_of_getElem? (i := 206) rfl) rfl, jm_in1 (List.mem_of_getElem? (i := 1) rfl) rfl, ⟨by decide, by decide, by decide +kernel⟩, by decide⟩
theorem vG_predicate : jm_MV mG_predicate := ⟨jm_in1 (List.mem_of_getElem? (i := 204) rfl) rfl, jm_in1 (List.mem_of_getElem? (i := 205) rfl) rfl⟩
abbrev mG_put : mM := (⟨"GoalOrder", "put", "(I)Z"⟩, prog_1_method_5_code, 2, (some .boolean))
theorem fG_put : jm_MF mG_put 1 := ⟨jm_in1 (List.mem_of_getElem? (i := 235) rfl) rfl, jm_in1 (List.mem_of_getElem? (i := 1) rfl) rfl, ⟨by decide, by decide, by decide +kernel⟩, by decide⟩
theorem vG_put : jm_MV mG_put := ⟨jm_in1 (List.mem_of_getElem? (i := 233) rfl) rfl, jm_in1 (List.mem_of_getElem? (i := 234) rfl) rfl⟩
abbrev mG_stuck : mM := (⟨"GoalOrder", "stuck", "()I"⟩, prog_1_method_10_code, 1, (some .int))
theorem fG_stuck : jm_MF mG_stuck 0 := ⟨jm_in2 (List.mem_of_getElem? (i := 168) rfl) rfl, jm_in1 (List.mem_of_getElem? (i := 1) rfl) rfl, ⟨by decide, by decide, by decide +kernel⟩, by decide⟩
theorem vG_stuck : jm_MV mG_stuck := ⟨jm_in2 (List.mem_of_getElem? (i := 166) rfl) rfl, jm_in2 (List.mem_of_getElem? (i := 167) rfl) rfl⟩
abbrev mG_wanted : mM := (⟨"GoalOrder", "wanted", "(IZ)Z"⟩, prog_1_method_8_code, 3, (some .boolean))
theorem fG_wanted : jm_MF mG_wanted 2 := ⟨jm_in2 (List.mem_of_getElem? (i := 59) rfl) rfl, jm_in1 (List.mem_of_getElem? (i := 1) rfl) rfl, ⟨by decide, by decide, by decide +kernel⟩, by decide⟩
theorem vG_wanted : jm_MV mG_wanted := ⟨jm_in2 (List.mem_of_getElem? (i := 57) rfl) rfl, jm_in2 (List.mem_of_getElem? (i := 58) rfl) rfl⟩
abbrev mM_add : mM := (⟨"GoalOrderModel", "add", "(III)I"⟩, prog_7_method_14_code, 6, (some .int))
theorem fM_add : jm_MF mM_add 3 := ⟨jm_in3 (List.mem_of_getElem? (i := 135) rfl) rfl, jm_in1 (List.mem_of_getElem? (i := 6) rfl) rfl, ⟨by decide, by decide, by decide +kernel⟩, by decide⟩
theorem vM_add : jm_MV mM_add := ⟨jm_in3 (List.mem_of_getElem? (i := 133) rfl) rfl, jm_in3 (List.mem_of_getElem? (i := 134) rfl) rfl⟩
abbrev mM_areIn : mM := (⟨"GoalOrderModel", "areIn", "(JJ)Z"⟩, prog_7_method_20_code, 5, (some .boolean))
theorem fM_areIn : jm_MF mM_areIn 2 := ⟨jm_in3 (List.mem_of_getElem? (i := 191) rfl) rfl, jm_in1 (List.mem_of_getElem? (i := 6) rfl) rfl, ⟨by decide, by decide, by decide +kernel⟩, by decide⟩
theorem vM_areIn : jm_MV mM_areIn := ⟨jm_in3 (List.mem_of_getElem? (i := 190) rfl) rfl, jm_inS (q := (⟨"GoalOrderModel", "areIn", "(JJ)Z"⟩, 42)) (by decide +kernel)⟩
abbrev mM_atom : mM := (⟨"GoalOrderModel", "atom", "(I)V"⟩, prog_7_method_22_code, 6, none)
theorem fM_atom : jm_MF mM_atom 1 := ⟨jm_in3 (List.mem_of_getElem? (i := 175) rfl) rfl, jm_in1 (List.mem_of_getElem? (i := 6) rfl) rfl, ⟨by decide, by decide, by decide +kernel⟩, by decide⟩
theorem vM_atom : jm_MV mM_atom := ⟨jm_in3 (List.mem_of_getElem? (i := 174) rfl) rfl, jm_inS (q := (⟨"GoalOrderModel", "atom", "(I)V"⟩, 42)) (by decide +kernel)⟩
abbrev mM_begin : mM := (⟨"GoalOrderModel", "begin", "()V"⟩, prog_7_method_3_code, 1, none)
theorem fM_begin : jm_MF mM_begin 0 := ⟨jm_in2 (List.mem_of_getElem? (i := 215) rfl) rfl, jm_in1 (List.mem_of_getElem? (i := 6) rfl) rfl, ⟨by decide, by decide, by decide +kernel⟩, by decide⟩
theorem vM_begin : jm_MV mM_begin := ⟨jm_in2 (List.mem_of_getElem? (i := 214) rfl) rfl, jm_inS (q := (⟨"GoalOrderModel", "begin", "()V"⟩, 42)) (by decide +kernel)⟩
abbrev mM_call : mM := (⟨"GoalOrderModel", "call", "(IJ)V"⟩, prog_7_method_25_code, 9, none)
theorem fM_call : jm_MF mM_call 2 := ⟨jm_in3 (List.mem_of_getElem? (i := 199) rfl) rfl, jm_in1 (List.mem_of_getElem? (i := 6) rfl) rfl, ⟨by decide, by decide, by decide +kernel⟩, by decide⟩
theorem vM_call : jm_MV mM_call := ⟨jm_in3 (List.mem_of_getElem? (i := 198) rfl) rfl, jm_inS (q := (⟨"GoalOrderModel", "call", "(IJ)V"⟩, 42)) (by decide +kernel)⟩
abbrev mM_changed : mM := (⟨"GoalOrderModel", "changed", "()V"⟩, prog_7_method_4_code, 1, none)
theorem fM_changed : jm_MF mM_changed 0 := ⟨jm_in2 (List.mem_of_getElem? (i := 223) rfl) rfl, jm_in1 (List.mem_of_getElem? (i := 6) rfl) rfl, ⟨by decide, by decide, by decide +kernel⟩, by decide⟩
theorem vM_changed : jm_MV mM_changed := ⟨jm_in2 (List.mem_of_getElem? (i := 222) rfl) rfl, jm_inS (q := (⟨"GoalOrderModel", "changed", "()V"⟩, 42)) (by decide +kernel)⟩
abbrev mM_choice : mM := (⟨"GoalOrderModel", "choice", "(II)Z"⟩, prog_7_method_30_code, 6, (some .boolean))
theorem fM_choice : jm_MF mM_choice 2 := ⟨jm_in3 (List.mem_of_getElem? (i := 215) rfl) rfl, jm_in1 (List.mem_of_getElem? (i := 6) rfl) rfl, ⟨by decide, by decide, by decide +kernel⟩, by decide⟩
theorem vM_choice : jm_MV mM_choice := ⟨jm_in3 (List.mem_of_getElem? (i := 214) rfl) rfl, jm_inS (q := (⟨"GoalOrderModel", "choice", "(II)Z"⟩, 42)) (by decide +kernel)⟩
abbrev mM_clear : mM := (⟨"GoalOrderModel", "clear", "()V"⟩, prog_7_method_7_code, 1, none)
theorem fM_clear : jm_MF mM_clear 0 := ⟨jm_in3 (List.mem_of_getElem? (i := 124) rfl) rfl, jm_in1 (List.mem_of_getElem? (i := 6) rfl) rfl, ⟨by decide, by decide, by decide +kernel⟩, by decide⟩
theorem vM_clear : jm_MV mM_clear := ⟨jm_in3 (List.mem_of_getElem? (i := 122) rfl) rfl, jm_in3 (List.mem_of_getElem? (i := 123) rfl) rfl⟩
abbrev mM_comes : mM := (⟨"GoalOrderModel", "comes", "(IIJ)V"⟩, prog_7_method_21_code, 5, none)
theorem fM_comes : jm_MF mM_comes 3 := ⟨jm_in3 (List.mem_of_getElem? (i := 183) rfl) rfl, jm_in1 (List.mem_of_getElem? (i := 6) rfl) rfl, ⟨by decide, by decide, by decide +kernel⟩, by decide⟩
theorem vM_comes : jm_MV mM_comes := ⟨jm_in3 (List.mem_of_getElem? (i := 182) rfl) rfl, jm_inS (q := (⟨"GoalOrderModel", "comes", "(IIJ)V"⟩, 42)) (by decide +kernel)⟩
abbrev mM_compare : mM := (⟨"GoalOrderModel", "compare", "(IIJ)V"⟩, prog_7_method_24_code, 10, none)
theorem fM_compare : jm_MF mM_compare 3 := ⟨jm_in3 (List.mem_of_getElem? (i := 195) rfl) rfl, jm_in1 (List.mem_of_getElem? (i := 6) rfl) rfl, ⟨by decide, by decide, by decide +kernel⟩, by decide⟩
theorem vM_compare : jm_MV mM_compare := ⟨jm_in3 (List.mem_of_getElem? (i := 194) rfl) rfl, jm_inS (q := (⟨"GoalOrderModel", "compare", "(IIJ)V"⟩, 42)) (by decide +kernel)⟩
abbrev mM_compared : mM := (⟨"GoalOrderModel", "compared", "(II)Z"⟩, prog_7_method_38_code, 3, (some .boolean))
theorem fM_compared : jm_MF mM_compared 2 := ⟨jm_in4 (List.mem_of_getElem? (i := 4) rfl) rfl, jm_in1 (List.mem_of_getElem? (i := 6) rfl) rfl, ⟨by decide, by decide, by decide +kernel⟩, by decide⟩
theorem vM_compared : jm_MV mM_compared := ⟨jm_in4 (List.mem_of_getElem? (i := 2) rfl) rfl, jm_in4 (List.mem_of_getElem? (i := 3) rfl) rfl⟩
abbrev mM_ended : mM := (⟨"GoalOrderModel", "ended", "(IZJ)V"⟩, prog_7_method_27_code, 5, none)
theorem fM_ended : jm_MF mM_ended 3 := ⟨jm_in3 (List.mem_of_getElem? (i := 211) rfl) rfl, jm_in1 (List.mem_of_getElem? (i := 6) rfl) rfl, ⟨by decide, by decide, by decide +kernel⟩, by decide⟩
theorem vM_ended : jm_MV mM_ended := ⟨jm_in3 (List.mem_of_getElem? (i := 210) rfl) rfl, jm_inS (q := (⟨"GoalOrderModel", "ended", "(IZJ)V"⟩, 42)) (by decide +kernel)⟩
abbrev mM_given : mM := (⟨"GoalOrderModel", "given", "(IZ)Z"⟩, prog_7_method_15_code, 3, (some .boolean))
theorem fM_given : jm_MF mM_given 2 := ⟨jm_in3 (List.mem_of_getElem? (i := 151) rfl) rfl, jm_in1 (List.mem_of_getElem? (i := 6) rfl) rfl, ⟨by decide, by decide, by decide +kernel⟩, by decide⟩
theorem vM_given : jm_MV mM_given := ⟨jm_in3 (List.mem_of_getElem? (i := 149) rfl) rfl, jm_in3 (List.mem_of_getElem? (i := 150) rfl) rfl⟩
abbrev mM_goesOn : mM := (⟨"GoalOrderModel", "goesOn", "()Z"⟩, prog_7_method_28_code, 3, (some .boolean))
theorem fM_goesOn : jm_MF mM_goesOn 0 := ⟨jm_in3 (List.mem_of_getElem? (i := 203) rfl) rfl, jm_in1 (List.mem_of_getElem? (i := 6) rfl) rfl, ⟨by decide, by decide, by decide +kernel⟩, by decide⟩
theorem vM_goesOn : jm_MV mM_goesOn := ⟨jm_in3 (List.mem_of_getElem? (i := 202) rfl) rfl, jm_inS (q := (⟨"GoalOrderModel", "goesOn", "()Z"⟩, 42)) (by decide +kernel)⟩
abbrev mM_ground : mM := (⟨"GoalOrderModel", "ground", "(II)Z"⟩, prog_7_method_39_code, 3, (some .boolean))
theorem fM_ground : jm_MF mM_ground 2 := ⟨jm_in4 (List.mem_of_getElem? (i := 8) rfl) rfl, jm_in1 (List.mem_of_getElem? (i := 6) rfl) rfl, ⟨by decide, by decide, by decide +kernel⟩, by decide⟩
theorem vM_ground : jm_MV mM_ground := ⟨jm_in4 (List.mem_of_getElem? (i := 6) rfl) rfl, jm_in4 (List.mem_of_getElem? (i := 7) rfl) rfl⟩
abbrev mM_hasRow : mM := (⟨"GoalOrderModel", "hasRow", "(II)Z"⟩, prog_7_method_12_code, 3, (some .boolean))
theorem fM_hasRow : jm_MF mM_hasRow 2 := ⟨jm_in3 (List.mem_of_getElem? (i := 147) rfl) rfl, jm_in1 (List.mem_of_getElem? (i := 6) rfl) rfl, ⟨by decide, by decide, by decide +kernel⟩, by decide⟩
theorem vM_hasRow : jm_MV mM_hasRow := ⟨jm_in3 (List.mem_of_getElem? (i := 146) rfl) rfl, jm_inS (q := (⟨"GoalOrderModel", "hasRow", "(II)Z"⟩, 42)) (by decide +kernel)⟩
abbrev mM_init : mM := (⟨"GoalOrderModel", "<init>", "()V"⟩, prog_7_method_1_code, 1, none)
theorem fM_init : jm_MF mM_init 0 := ⟨jm_in2 (List.mem_of_getElem? (i := 210) rfl) rfl, jm_in1 (List.mem_of_getElem? (i := 6) rfl) rfl, ⟨by decide, by decide, by decide +kernel⟩, by decide⟩
theorem vM_init : Cond.instanceMethod mM_init.1 ∈ jm_tb := jm_in2 (List.mem_of_getElem? (i := 209) rfl) rfl
abbrev mM_isIn : mM := (⟨"GoalOrderModel", "isIn", "(JI)Z"⟩, prog_7_method_19_code, 4, (some .boolean))
theorem fM_isIn : jm_MF mM_isIn 2 := ⟨jm_in3 (List.mem_of_getElem? (i := 179) rfl) rfl, jm_in1 (List.mem_of_getElem? (i := 6) rfl) rfl, ⟨by decide, by decide, by decide +kernel⟩, by decide⟩
theorem vM_isIn : jm_MV mM_isIn := ⟨jm_in3 (List.mem_of_getElem? (i := 178) rfl) rfl, jm_inS (q := (⟨"GoalOrderModel", "isIn", "(JI)Z"⟩, 42)) (by decide +kernel)⟩
abbrev mM_isNode : mM := (⟨"GoalOrderModel", "isNode", "(I)Z"⟩, prog_7_method_10_code, 2, (some .boolean))
theorem fM_isNode : jm_MF mM_isNode 1 := ⟨jm_in3 (List.mem_of_getElem? (i := 143) rfl) rfl, jm_in1 (List.mem_of_getElem? (i := 6) rfl) rfl, ⟨by decide, by decide, by decide +kernel⟩, by decide⟩
theorem vM_isNode : jm_MV mM_isNode := ⟨jm_in3 (List.mem_of_getElem? (i := 142) rfl) rfl, jm_inS (q := (⟨"GoalOrderModel", "isNode", "(I)Z"⟩, 42)) (by decide +kernel)⟩
abbrev mM_isParent : mM := (⟨"GoalOrderModel", "isParent", "(I)Z"⟩, prog_7_method_11_code, 2, (some .boolean))
theorem fM_isParent : jm_MF mM_isParent 1 := ⟨jm_in3 (List.mem_of_getElem? (i := 139) rfl) rfl, jm_in1 (List.mem_of_getElem? (i := 6) rfl) rfl, ⟨by decide, by decide, by decide +kernel⟩, by decide⟩
theorem vM_isParent : jm_MV mM_isParent := ⟨jm_in3 (List.mem_of_getElem? (i := 138) rfl) rfl, jm_inS (q := (⟨"GoalOrderModel", "isParent", "(I)Z"⟩, 42)) (by decide +kernel)⟩
abbrev mM_isVariable : mM := (⟨"GoalOrderModel", "isVariable", "(I)Z"⟩, prog_7_method_8_code, 1, (some .boolean))
theorem fM_isVariable : jm_MF mM_isVariable 1 := ⟨jm_in3 (List.mem_of_getElem? (i := 131) rfl) rfl, jm_in1 (List.mem_of_getElem? (i := 6) rfl) rfl, ⟨by decide, by decide, by decide +kernel⟩, by decide⟩
theorem sM_isVariable : Cond.static mM_isVariable.1 ∈ jm_tb := jm_in3 (List.mem_of_getElem? (i := 130) rfl) rfl
abbrev mM_look : mM := (⟨"GoalOrderModel", "look", "()V"⟩, prog_7_method_18_code, 6, none)
theorem fM_look : jm_MF mM_look 0 := ⟨jm_in3 (List.mem_of_getElem? (i := 163) rfl) rfl, jm_in1 (List.mem_of_getElem? (i := 6) rfl) rfl, ⟨by decide, by decide, by decide +kernel⟩, by decide⟩
theorem vM_look : jm_MV mM_look := ⟨jm_in3 (List.mem_of_getElem? (i := 162) rfl) rfl, jm_inS (q := (⟨"GoalOrderModel", "look", "()V"⟩, 42)) (by decide +kernel)⟩
abbrev mM_made : mM := (⟨"GoalOrderModel", "made", "(II)I"⟩, prog_7_method_13_code, 5, (some .int))
theorem fM_made : jm_MF mM_made 2 := ⟨jm_in2 (List.mem_of_getElem? (i := 219) rfl) rfl, jm_in1 (List.mem_of_getElem? (i := 6) rfl) rfl, ⟨by decide, by decide, by decide +kernel⟩, by decide⟩
theorem vM_made : jm_MV mM_made := ⟨jm_in2 (List.mem_of_getElem? (i := 218) rfl) rfl, jm_inS (q := (⟨"GoalOrderModel", "made", "(II)I"⟩, 42)) (by decide +kernel)⟩
abbrev mM_mode : mM := (⟨"GoalOrderModel", "mode", "(II)I"⟩, prog_7_method_6_code, 4, (some .int))
theorem fM_mode : jm_MF mM_mode 2 := ⟨jm_in3 (List.mem_of_getElem? (i := 120) rfl) rfl, jm_in1 (List.mem_of_getElem? (i := 6) rfl) rfl, ⟨by decide, by decide, by decide +kernel⟩, by decide⟩
theorem vM_mode : jm_MV mM_mode := ⟨jm_in3 (List.mem_of_getElem? (i := 118) rfl) rfl, jm_in3 (List.mem_of_getElem? (i := 119) rfl) rfl⟩
abbrev mM_node : mM := (⟨"GoalOrderModel", "node", "(II)I"⟩, prog_7_method_37_code, 3, (some .int))
theorem fM_node : jm_MF mM_node 2 := ⟨jm_in4 (List.mem_of_getElem? (i := 0) rfl) rfl, jm_in1 (List.mem_of_getElem? (i := 6) rfl) rfl, ⟨by decide, by decide, by decide +kernel⟩, by decide⟩
theorem vM_node : jm_MV mM_node := ⟨jm_in3 (List.mem_of_getElem? (i := 238) rfl) rfl, jm_in3 (List.mem_of_getElem? (i := 239) rfl) rfl⟩
abbrev mM_not : mM := (⟨"GoalOrderModel", "not", "(II)Z"⟩, prog_7_method_31_code, 4, (some .boolean))
theorem fM_not : jm_MF mM_not 2 := ⟨jm_in3 (List.mem_of_getElem? (i := 220) rfl) rfl, jm_in1 (List.mem_of_getElem? (i := 6) rfl) rfl, ⟨by decide, by decide, by decide +kernel⟩, by decide⟩
theorem vM_not : jm_MV mM_not := ⟨jm_in3 (List.mem_of_getElem? (i := 219) rfl) rfl, jm_inS (q := (⟨"GoalOrderModel", "not", "(II)Z"⟩, 42)) (by decide +kernel)⟩
abbrev mM_order : mM := (⟨"GoalOrderModel", "order", "()I"⟩, prog_7_method_34_code, 3, (some .int))
theorem fM_order : jm_MF mM_order 0 := ⟨jm_in3 (List.mem_of_getElem? (i := 159) rfl) rfl, jm_in1 (List.mem_of_getElem? (i := 6) rfl) rfl, ⟨by decide, by decide, by decide +kernel⟩, by decide⟩
theorem vM_order : jm_MV mM_order := ⟨jm_in3 (List.mem_of_getElem? (i := 157) rfl) rfl, jm_in3 (List.mem_of_getElem? (i := 158) rfl) rfl⟩
abbrev mM_outer : mM := (⟨"GoalOrderModel", "outer", "(II)Z"⟩, prog_7_method_40_code, 3, (some .boolean))
theorem fM_outer : jm_MF mM_outer 2 := ⟨jm_in4 (List.mem_of_getElem? (i := 12) rfl) rfl, jm_in1 (List.mem_of_getElem? (i := 6) rfl) rfl, ⟨by decide, by decide, by decide +kernel⟩, by decide⟩
theorem vM_outer : jm_MV mM_outer := ⟨jm_in4 (List.mem_of_getElem? (i := 10) rfl) rfl, jm_in4 (List.mem_of_getElem? (i := 11) rfl) rfl⟩
abbrev mM_part : mM := (⟨"GoalOrderModel", "part", "(II)I"⟩, prog_7_method_36_code, 5, (some .int))
theorem fM_part : jm_MF mM_part 2 := ⟨jm_in3 (List.mem_of_getElem? (i := 236) rfl) rfl, jm_in1 (List.mem_of_getElem? (i := 6) rfl) rfl, ⟨by decide, by decide, by decide +kernel⟩, by decide⟩
theorem vM_part : jm_MV mM_part := ⟨jm_in3 (List.mem_of_getElem? (i := 234) rfl) rfl, jm_in3 (List.mem_of_getElem? (i := 235) rfl) rfl⟩
abbrev mM_predicate : mM := (⟨"GoalOrderModel", "predicate", "(I)I"⟩, prog_7_method_5_code, 2, (some .int))
theorem fM_predicate : jm_MF mM_predicate 1 := ⟨jm_in3 (List.mem_of_getElem? (i := 116) rfl) rfl, jm_in1 (List.mem_of_getElem? (i := 6) rfl) rfl, ⟨by decide, by decide, by decide +kernel⟩, by decide⟩
theorem vM_predicate : jm_MV mM_predicate := ⟨jm_in3 (List.mem_of_getElem? (i := 114) rfl) rfl, jm_in3 (List.mem_of_getElem? (i := 115) rfl) rfl⟩
abbrev mM_put : mM := (⟨"GoalOrderModel", "put", "(I)Z"⟩, prog_7_method_9_code, 2, (some .boolean))
theorem fM_put : jm_MF mM_put 1 := ⟨jm_in3 (List.mem_of_getElem? (i := 128) rfl) rfl, jm_in1 (List.mem_of_getElem? (i := 6) rfl) rfl, ⟨by decide, by decide, by decide +kernel⟩, by decide⟩
theorem vM_put : jm_MV mM_put := ⟨jm_in3 (List.mem_of_getElem? (i := 126) rfl) rfl, jm_in3 (List.mem_of_getElem? (i := 127) rfl) rfl⟩
abbrev mM_row : mM := (⟨"GoalOrderModel", "row", "(II)Z"⟩, prog_7_method_29_code, 4, (some .boolean))
theorem fM_row : jm_MF mM_row 2 := ⟨jm_in3 (List.mem_of_getElem? (i := 207) rfl) rfl, jm_in1 (List.mem_of_getElem? (i := 6) rfl) rfl, ⟨by decide, by decide, by decide +kernel⟩, by decide⟩
theorem vM_row : jm_MV mM_row := ⟨jm_in3 (List.mem_of_getElem? (i := 206) rfl) rfl, jm_inS (q := (⟨"GoalOrderModel", "row", "(II)Z"⟩, 42)) (by decide +kernel)⟩
abbrev mM_rowOf : mM := (⟨"GoalOrderModel", "rowOf", "(II)J"⟩, prog_7_method_17_code, 6, (some .long))
theorem fM_rowOf : jm_MF mM_rowOf 2 := ⟨jm_in3 (List.mem_of_getElem? (i := 167) rfl) rfl, jm_in1 (List.mem_of_getElem? (i := 6) rfl) rfl, ⟨by decide, by decide, by decide +kernel⟩, by decide⟩
theorem vM_rowOf : jm_MV mM_rowOf := ⟨jm_in3 (List.mem_of_getElem? (i := 166) rfl) rfl, jm_inS (q := (⟨"GoalOrderModel", "rowOf", "(II)J"⟩, 42)) (by decide +kernel)⟩
abbrev mM_same : mM := (⟨"GoalOrderModel", "same", "(IIIJ)V"⟩, prog_7_method_23_code, 8, none)
theorem fM_same : jm_MF mM_same 4 := ⟨jm_in3 (List.mem_of_getElem? (i := 187) rfl) rfl, jm_in1 (List.mem_of_getElem? (i := 6) rfl) rfl, ⟨by decide, by decide, by decide +kernel⟩, by decide⟩
theorem vM_same : jm_MV mM_same := ⟨jm_in3 (List.mem_of_getElem? (i := 186) rfl) rfl, jm_inS (q := (⟨"GoalOrderModel", "same", "(IIIJ)V"⟩, 42)) (by decide +kernel)⟩
abbrev mM_stuck : mM := (⟨"GoalOrderModel", "stuck", "()I"⟩, prog_7_method_35_code, 1, (some .int))
theorem fM_stuck : jm_MF mM_stuck 0 := ⟨jm_in3 (List.mem_of_getElem? (i := 232) rfl) rfl, jm_in1 (List.mem_of_getElem? (i := 6) rfl) rfl, ⟨by decide, by decide, by decide +kernel⟩, by decide⟩
theorem vM_stuck : jm_MV mM_stuck := ⟨jm_in3 (List.mem_of_getElem? (i := 230) rfl) rfl, jm_in3 (List.mem_of_getElem? (i := 231) rfl) rfl⟩
abbrev mM_stuckOf : mM := (⟨"GoalOrderModel", "stuckOf", "()I"⟩, prog_7_method_33_code, 2, (some .int))
theorem fM_stuckOf : jm_MF mM_stuckOf 0 := ⟨jm_in3 (List.mem_of_getElem? (i := 228) rfl) rfl, jm_in1 (List.mem_of_getElem? (i := 6) rfl) rfl, ⟨by decide, by decide, by decide +kernel⟩, by decide⟩
theorem vM_stuckOf : jm_MV mM_stuckOf := ⟨jm_in3 (List.mem_of_getElem? (i := 227) rfl) rfl, jm_inS (q := (⟨"GoalOrderModel", "stuckOf", "()I"⟩, 42)) (by decide +kernel)⟩
abbrev mM_test : mM := (⟨"GoalOrderModel", "test", "(II)Z"⟩, prog_7_method_32_code, 10, (some .boolean))
theorem fM_test : jm_MF mM_test 2 := ⟨jm_in3 (List.mem_of_getElem? (i := 224) rfl) rfl, jm_in1 (List.mem_of_getElem? (i := 6) rfl) rfl, ⟨by decide, by decide, by decide +kernel⟩, by decide⟩
theorem vM_test : jm_MV mM_test := ⟨jm_in3 (List.mem_of_getElem? (i := 223) rfl) rfl, jm_inS (q := (⟨"GoalOrderModel", "test", "(II)Z"⟩, 42)) (by decide +kernel)⟩
abbrev mM_tried : mM := (⟨"GoalOrderModel", "tried", "(IJ)Z"⟩, prog_7_method_26_code, 4, (some .boolean))
theorem fM_tried : jm_MF mM_tried 2 := ⟨jm_in3 (List.mem_of_getElem? (i := 171) rfl) rfl, jm_in1 (List.mem_of_getElem? (i := 6) rfl) rfl, ⟨by decide, by decide, by decide +kernel⟩, by decide⟩
theorem vM_tried : jm_MV mM_tried := ⟨jm_in3 (List.mem_of_getElem? (i := 170) rfl) rfl, jm_inS (q := (⟨"GoalOrderModel", "tried", "(IJ)Z"⟩, 42)) (by decide +kernel)⟩
abbrev mM_wanted : mM := (⟨"GoalOrderModel", "wanted", "(IZ)Z"⟩, prog_7_method_16_code, 3, (some .boolean))
theorem fM_wanted : jm_MF mM_wanted 2 := ⟨jm_in3 (List.mem_of_getElem? (i := 155) rfl) rfl, jm_in1 (List.mem_of_getElem? (i := 6) rfl) rfl, ⟨by decide, by decide, by decide +kernel⟩, by decide⟩
theorem vM_wanted : jm_MV mM_wanted := ⟨jm_in3 (List.mem_of_getElem? (i := 153) rfl) rfl, jm_in3 (List.mem_of_getElem? (i := 154) rfl) rfl⟩
abbrev mN_append : mM := (⟨"GoalOrder$Node", "append", "(LGoalOrder$Node;)V"⟩, prog_2_method_4_code, 2, none)
theorem fN_append : jm_MF mN_append 1 := ⟨jm_in2 (List.mem_of_getElem? (i := 44) rfl) rfl, jm_in1 (List.mem_of_getElem? (i := 4) rfl) rfl, ⟨by decide, by decide, by decide +kernel⟩, by decide⟩
theorem vN_append : jm_MV mN_append := ⟨jm_in2 (List.mem_of_getElem? (i := 42) rfl) rfl, jm_in2 (List.mem_of_getElem? (i := 43) rfl) rfl⟩
abbrev mN_become : mM := (⟨"GoalOrder$Node", "become", "(II)V"⟩, prog_2_method_2_code, 3, none)
theorem fN_become : jm_MF mN_become 2 := ⟨jm_in1 (List.mem_of_getElem? (i := 143) rfl) rfl, jm_in1 (List.mem_of_getElem? (i := 4) rfl) rfl, ⟨by decide, by decide, by decide +kernel⟩, by decide⟩
theorem vN_become : jm_MV mN_become := ⟨jm_in1 (List.mem_of_getElem? (i := 141) rfl) rfl, jm_in1 (List.mem_of_getElem? (i := 142) rfl) rfl⟩
abbrev mN_init : mM := (⟨"GoalOrder$Node", "<init>", "(I)V"⟩, prog_2_method_1_code, 2, none)
theorem fN_init : jm_MF mN_init 1 := ⟨jm_in1 (List.mem_of_getElem? (i := 45) rfl) rfl, jm_in1 (List.mem_of_getElem? (i := 4) rfl) rfl, ⟨by decide, by decide, by decide +kernel⟩, by decide⟩
theorem vN_init : Cond.instanceMethod mN_init.1 ∈ jm_tb := jm_in1 (List.mem_of_getElem? (i := 44) rfl) rfl
abbrev mN_isAtom : mM := (⟨"GoalOrder$Node", "isAtom", "()Z"⟩, prog_2_method_5_code, 1, (some .boolean))
theorem fN_isAtom : jm_MF mN_isAtom 0 := ⟨jm_in2 (List.mem_of_getElem? (i := 18) rfl) rfl, jm_in1 (List.mem_of_getElem? (i := 4) rfl) rfl, ⟨by decide, by decide, by decide +kernel⟩, by decide⟩
theorem vN_isAtom : jm_MV mN_isAtom := ⟨jm_in2 (List.mem_of_getElem? (i := 16) rfl) rfl, jm_in2 (List.mem_of_getElem? (i := 17) rfl) rfl⟩
abbrev mN_kthDone : mM := (⟨"GoalOrder$Node", "kthDone", "(I)LGoalOrder$Node;"⟩, prog_2_method_8_code, 4, (some (.object "GoalOrder$Node")))
theorem fN_kthDone : jm_MF mN_kthDone 1 := ⟨jm_in2 (List.mem_of_getElem? (i := 176) rfl) rfl, jm_in1 (List.mem_of_getElem? (i := 4) rfl) rfl, ⟨by decide, by decide, by decide +kernel⟩, by decide⟩
theorem vN_kthDone : jm_MV mN_kthDone := ⟨jm_in2 (List.mem_of_getElem? (i := 174) rfl) rfl, jm_in2 (List.mem_of_getElem? (i := 175) rfl) rfl⟩
abbrev mN_kthPart : mM := (⟨"GoalOrder$Node", "kthPart", "(I)LGoalOrder$Node;"⟩, prog_2_method_7_code, 4, (some (.object "GoalOrder$Node")))
theorem fN_kthPart : jm_MF mN_kthPart 1 := ⟨jm_in2 (List.mem_of_getElem? (i := 114) rfl) rfl, jm_in1 (List.mem_of_getElem? (i := 4) rfl) rfl, ⟨by decide, by decide, by decide +kernel⟩, by decide⟩
theorem vN_kthPart : jm_MV mN_kthPart := ⟨jm_in2 (List.mem_of_getElem? (i := 112) rfl) rfl, jm_in2 (List.mem_of_getElem? (i := 113) rfl) rfl⟩
abbrev mN_meets : mM := (⟨"GoalOrder$Node", "meets", "(II)Z"⟩, prog_2_method_11_code, 6, (some .boolean))
theorem fN_meets : jm_MF mN_meets 2 := ⟨jm_in2 (List.mem_of_getElem? (i := 195) rfl) rfl, jm_in1 (List.mem_of_getElem? (i := 4) rfl) rfl, ⟨by decide, by decide, by decide +kernel⟩, by decide⟩
theorem vN_meets : jm_MV mN_meets := ⟨jm_in2 (List.mem_of_getElem? (i := 193) rfl) rfl, jm_in2 (List.mem_of_getElem? (i := 194) rfl) rfl⟩
abbrev mN_takeVariables : mM := (⟨"GoalOrder$Node", "takeVariables", "([II)V"⟩, prog_2_method_3_code, 4, none)
theorem fN_takeVariables : jm_MF mN_takeVariables 2 := ⟨jm_in2 (List.mem_of_getElem? (i := 40) rfl) rfl, jm_in1 (List.mem_of_getElem? (i := 4) rfl) rfl, ⟨by decide, by decide, by decide +kernel⟩, by decide⟩
theorem vN_takeVariables : jm_MV mN_takeVariables := ⟨jm_in2 (List.mem_of_getElem? (i := 38) rfl) rfl, jm_in2 (List.mem_of_getElem? (i := 39) rfl) rfl⟩
abbrev mN_takesPart : mM := (⟨"GoalOrder$Node", "takesPart", "()Z"⟩, prog_2_method_6_code, 1, (some .boolean))
theorem fN_takesPart : jm_MF mN_takesPart 0 := ⟨jm_in2 (List.mem_of_getElem? (i := 14) rfl) rfl, jm_in1 (List.mem_of_getElem? (i := 4) rfl) rfl, ⟨by decide, by decide, by decide +kernel⟩, by decide⟩
theorem vN_takesPart : jm_MV mN_takesPart := ⟨jm_in2 (List.mem_of_getElem? (i := 12) rfl) rfl, jm_in2 (List.mem_of_getElem? (i := 13) rfl) rfl⟩
abbrev mN_variableAt : mM := (⟨"GoalOrder$Node", "variableAt", "(I)J"⟩, prog_2_method_10_code, 2, (some .long))
theorem fN_variableAt : jm_MF mN_variableAt 1 := ⟨jm_in2 (List.mem_of_getElem? (i := 125) rfl) rfl, jm_in1 (List.mem_of_getElem? (i := 4) rfl) rfl, ⟨by decide, by decide, by decide +kernel⟩, by decide⟩
theorem vN_variableAt : jm_MV mN_variableAt := ⟨jm_in2 (List.mem_of_getElem? (i := 123) rfl) rfl, jm_in2 (List.mem_of_getElem? (i := 124) rfl) rfl⟩
abbrev mN_variablesFrom : mM := (⟨"GoalOrder$Node", "variablesFrom", "(I)J"⟩, prog_2_method_9_code, 5, (some .long))
theorem fN_variablesFrom : jm_MF mN_variablesFrom 1 := ⟨jm_in2 (List.mem_of_getElem? (i := 138) rfl) rfl, jm_in1 (List.mem_of_getElem? (i := 4) rfl) rfl, ⟨by decide, by decide, by decide +kernel⟩, by decide⟩
theorem vN_variablesFrom : jm_MV mN_variablesFrom := ⟨jm_in2 (List.mem_of_getElem? (i := 136) rfl) rfl, jm_in2 (List.mem_of_getElem? (i := 137) rfl) rfl⟩
abbrev mP_argumentsOf : mM := (⟨"GoalOrder$Predicates", "argumentsOf", "(I)I"⟩, prog_3_method_5_code, 2, (some .int))
theorem fP_argumentsOf : jm_MF mP_argumentsOf 1 := ⟨jm_in2 (List.mem_of_getElem? (i := 27) rfl) rfl, jm_in1 (List.mem_of_getElem? (i := 2) rfl) rfl, ⟨by decide, by decide, by decide +kernel⟩, by decide⟩
theorem vP_argumentsOf : jm_MV mP_argumentsOf := ⟨jm_in2 (List.mem_of_getElem? (i := 25) rfl) rfl, jm_in2 (List.mem_of_getElem? (i := 26) rfl) rfl⟩
abbrev mP_define : mM := (⟨"GoalOrder$Predicates", "define", "(I)I"⟩, prog_3_method_2_code, 2, (some .int))
theorem fP_define : jm_MF mP_define 1 := ⟨jm_in1 (List.mem_of_getElem? (i := 210) rfl) rfl, jm_in1 (List.mem_of_getElem? (i := 2) rfl) rfl, ⟨by decide, by decide, by decide +kernel⟩, by decide⟩
theorem vP_define : jm_MV mP_define := ⟨jm_in1 (List.mem_of_getElem? (i := 208) rfl) rfl, jm_in1 (List.mem_of_getElem? (i := 209) rfl) rfl⟩
abbrev mP_defineMode : mM := (⟨"GoalOrder$Predicates", "defineMode", "(II)I"⟩, prog_3_method_3_code, 4, (some .int))
theorem fP_defineMode : jm_MF mP_defineMode 2 := ⟨jm_in1 (List.mem_of_getElem? (i := 218) rfl) rfl, jm_in1 (List.mem_of_getElem? (i := 2) rfl) rfl, ⟨by decide, by decide, by decide +kernel⟩, by decide⟩
theorem vP_defineMode : jm_MV mP_defineMode := ⟨jm_in1 (List.mem_of_getElem? (i := 216) rfl) rfl, jm_in1 (List.mem_of_getElem? (i := 217) rfl) rfl⟩
abbrev mP_has : mM := (⟨"GoalOrder$Predicates", "has", "(I)Z"⟩, prog_3_method_4_code, 2, (some .boolean))
theorem fP_has : jm_MF mP_has 1 := ⟨jm_in1 (List.mem_of_getElem? (i := 222) rfl) rfl, jm_in1 (List.mem_of_getElem? (i := 2) rfl) rfl, ⟨by decide, by decide, by decide +kernel⟩, by decide⟩
theorem vP_has : jm_MV mP_has := ⟨jm_in1 (List.mem_of_getElem? (i := 220) rfl) rfl, jm_in1 (List.mem_of_getElem? (i := 221) rfl) rfl⟩
abbrev mP_init : mM := (⟨"GoalOrder$Predicates", "<init>", "()V"⟩, prog_3_method_1_code, 1, none)
theorem fP_init : jm_MF mP_init 0 := ⟨jm_in1 (List.mem_of_getElem? (i := 19) rfl) rfl, jm_in1 (List.mem_of_getElem? (i := 2) rfl) rfl, ⟨by decide, by decide, by decide +kernel⟩, by decide⟩
theorem vP_init : Cond.instanceMethod mP_init.1 ∈ jm_tb := jm_in1 (List.mem_of_getElem? (i := 18) rfl) rfl
abbrev mP_modesOf : mM := (⟨"GoalOrder$Predicates", "modesOf", "(I)I"⟩, prog_3_method_6_code, 2, (some .int))
theorem fP_modesOf : jm_MF mP_modesOf 1 := ⟨jm_in2 (List.mem_of_getElem? (i := 149) rfl) rfl, jm_in1 (List.mem_of_getElem? (i := 2) rfl) rfl, ⟨by decide, by decide, by decide +kernel⟩, by decide⟩
theorem vP_modesOf : jm_MV mP_modesOf := ⟨jm_in2 (List.mem_of_getElem? (i := 147) rfl) rfl, jm_in2 (List.mem_of_getElem? (i := 148) rfl) rfl⟩
abbrev mP_outsOf : mM := (⟨"GoalOrder$Predicates", "outsOf", "(II)I"⟩, prog_3_method_7_code, 3, (some .int))
theorem fP_outsOf : jm_MF mP_outsOf 2 := ⟨jm_in2 (List.mem_of_getElem? (i := 153) rfl) rfl, jm_in1 (List.mem_of_getElem? (i := 2) rfl) rfl, ⟨by decide, by decide, by decide +kernel⟩, by decide⟩
theorem vP_outsOf : jm_MV mP_outsOf := ⟨jm_in2 (List.mem_of_getElem? (i := 151) rfl) rfl, jm_in2 (List.mem_of_getElem? (i := 152) rfl) rfl⟩
abbrev mR_canDo : mM := (⟨"GoalOrder$Trial", "canDo", "(LGoalOrder$Node;J)Z"⟩, prog_5_method_3_code, 4, (some .boolean))
theorem fR_canDo : jm_MF mR_canDo 2 := ⟨jm_in2 (List.mem_of_getElem? (i := 71) rfl) rfl, jm_in1 (List.mem_of_getElem? (i := 5) rfl) rfl, ⟨by decide, by decide, by decide +kernel⟩, by decide⟩
theorem vR_canDo : jm_MV mR_canDo := ⟨jm_in2 (List.mem_of_getElem? (i := 70) rfl) rfl, jm_inS (q := (⟨"GoalOrder$Trial", "canDo", "(LGoalOrder$Node;J)Z"⟩, 4)) (by decide +kernel)⟩
abbrev mR_canDoAtom : mM := (⟨"GoalOrder$Trial", "canDoAtom", "(LGoalOrder$Node;)Z"⟩, prog_5_method_14_code, 2, (some .boolean))
theorem fR_canDoAtom : jm_MF mR_canDoAtom 1 := ⟨jm_in2 (List.mem_of_getElem? (i := 118) rfl) rfl, jm_in1 (List.mem_of_getElem? (i := 5) rfl) rfl, ⟨by decide, by decide, by decide +kernel⟩, by decide⟩
theorem vR_canDoAtom : jm_MV mR_canDoAtom := ⟨jm_in2 (List.mem_of_getElem? (i := 117) rfl) rfl, jm_inS (q := (⟨"GoalOrder$Trial", "canDoAtom", "(LGoalOrder$Node;)Z"⟩, 4)) (by decide +kernel)⟩
abbrev mR_canDoCall : mM := (⟨"GoalOrder$Trial", "canDoCall", "(LGoalOrder$Node;)Z"⟩, prog_5_method_18_code, 4, (some .boolean))
theorem fR_canDoCall : jm_MF mR_canDoCall 1 := ⟨jm_in2 (List.mem_of_getElem? (i := 145) rfl) rfl, jm_in1 (List.mem_of_getElem? (i := 5) rfl) rfl, ⟨by decide, by decide, by decide +kernel⟩, by decide⟩
theorem vR_canDoCall : jm_MV mR_canDoCall := ⟨jm_in2 (List.mem_of_getElem? (i := 144) rfl) rfl, jm_inS (q := (⟨"GoalOrder$Trial", "canDoCall", "(LGoalOrder$Node;)Z"⟩, 4)) (by decide +kernel)⟩
abbrev mR_canDoChoice : mM := (⟨"GoalOrder$Trial", "canDoChoice", "(LGoalOrder$Node;)Z"⟩, prog_5_method_7_code, 7, (some .boolean))
theorem fR_canDoChoice : jm_MF mR_canDoChoice 1 := ⟨jm_in2 (List.mem_of_getElem? (i := 86) rfl) rfl, jm_in1 (List.mem_of_getElem? (i := 5) rfl) rfl, ⟨by decide, by decide, by decide +kernel⟩, by decide⟩
theorem vR_canDoChoice : jm_MV mR_canDoChoice := ⟨jm_in2 (List.mem_of_getElem? (i := 85) rfl) rfl, jm_inS (q := (⟨"GoalOrder$Trial", "canDoChoice", "(LGoalOrder$Node;)Z"⟩, 4)) (by decide +kernel)⟩
abbrev mR_canDoForm : mM := (⟨"GoalOrder$Trial", "canDoForm", "(LGoalOrder$Node;)Z"⟩, prog_5_method_16_code, 5, (some .boolean))
theorem fR_canDoForm : jm_MF mR_canDoForm 1 := ⟨jm_in2 (List.mem_of_getElem? (i := 134) rfl) rfl, jm_in1 (List.mem_of_getElem? (i := 5) rfl) rfl, ⟨by decide, by decide, by decide +kernel⟩, by decide⟩
theorem sR_canDoForm : Cond.static mR_canDoForm.1 ∈ jm_tb := jm_in2 (List.mem_of_getElem? (i := 133) rfl) rfl
abbrev mR_canDoNot : mM := (⟨"GoalOrder$Trial", "canDoNot", "(LGoalOrder$Node;)Z"⟩, prog_5_method_8_code, 3, (some .boolean))
theorem fR_canDoNot : jm_MF mR_canDoNot 1 := ⟨jm_in2 (List.mem_of_getElem? (i := 103) rfl) rfl, jm_in1 (List.mem_of_getElem? (i := 5) rfl) rfl, ⟨by decide, by decide, by decide +kernel⟩, by decide⟩
theorem vR_canDoNot : jm_MV mR_canDoNot := ⟨jm_in2 (List.mem_of_getElem? (i := 102) rfl) rfl, jm_inS (q := (⟨"GoalOrder$Trial", "canDoNot", "(LGoalOrder$Node;)Z"⟩, 4)) (by decide +kernel)⟩
abbrev mR_canDoPart : mM := (⟨"GoalOrder$Trial", "canDoPart", "(LGoalOrder$Node;LGoalOrder$Node;J)Z"⟩, prog_5_method_10_code, 5, (some .boolean))
theorem fR_canDoPart : jm_MF mR_canDoPart 3 := ⟨jm_in2 (List.mem_of_getElem? (i := 91) rfl) rfl, jm_in1 (List.mem_of_getElem? (i := 5) rfl) rfl, ⟨by decide, by decide, by decide +kernel⟩, by decide⟩
theorem vR_canDoPart : jm_MV mR_canDoPart := ⟨jm_in2 (List.mem_of_getElem? (i := 90) rfl) rfl, jm_inS (q := (⟨"GoalOrder$Trial", "canDoPart", "(LGoalOrder$Node;LGoalOrder$Node;J)Z"⟩, 4)) (by decide +kernel)⟩
abbrev mR_canDoRow : mM := (⟨"GoalOrder$Trial", "canDoRow", "(LGoalOrder$Node;)Z"⟩, prog_5_method_4_code, 5, (some .boolean))
theorem fR_canDoRow : jm_MF mR_canDoRow 1 := ⟨jm_in2 (List.mem_of_getElem? (i := 75) rfl) rfl, jm_in1 (List.mem_of_getElem? (i := 5) rfl) rfl, ⟨by decide, by decide, by decide +kernel⟩, by decide⟩
theorem vR_canDoRow : jm_MV mR_canDoRow := ⟨jm_in2 (List.mem_of_getElem? (i := 74) rfl) rfl, jm_inS (q := (⟨"GoalOrder$Trial", "canDoRow", "(LGoalOrder$Node;)Z"⟩, 4)) (by decide +kernel)⟩
abbrev mR_canDoSame : mM := (⟨"GoalOrder$Trial", "canDoSame", "(LGoalOrder$Node;)Z"⟩, prog_5_method_15_code, 5, (some .boolean))
theorem fR_canDoSame : jm_MF mR_canDoSame 1 := ⟨jm_in2 (List.mem_of_getElem? (i := 121) rfl) rfl, jm_in1 (List.mem_of_getElem? (i := 5) rfl) rfl, ⟨by decide, by decide, by decide +kernel⟩, by decide⟩
theorem sR_canDoSame : Cond.static mR_canDoSame.1 ∈ jm_tb := jm_in2 (List.mem_of_getElem? (i := 120) rfl) rfl
abbrev mR_canDoSum : mM := (⟨"GoalOrder$Trial", "canDoSum", "(LGoalOrder$Node;)Z"⟩, prog_5_method_17_code, 3, (some .boolean))
theorem fR_canDoSum : jm_MF mR_canDoSum 1 := ⟨jm_in2 (List.mem_of_getElem? (i := 141) rfl) rfl, jm_in1 (List.mem_of_getElem? (i := 5) rfl) rfl, ⟨by decide, by decide, by decide +kernel⟩, by decide⟩
theorem sR_canDoSum : Cond.static mR_canDoSum.1 ∈ jm_tb := jm_in2 (List.mem_of_getElem? (i := 140) rfl) rfl
abbrev mR_canDoTest : mM := (⟨"GoalOrder$Trial", "canDoTest", "(LGoalOrder$Node;)Z"⟩, prog_5_method_9_code, 5, (some .boolean))
theorem fR_canDoTest : jm_MF mR_canDoTest 1 := ⟨jm_in2 (List.mem_of_getElem? (i := 110) rfl) rfl, jm_in1 (List.mem_of_getElem? (i := 5) rfl) rfl, ⟨by decide, by decide, by decide +kernel⟩, by decide⟩
theorem vR_canDoTest : jm_MV mR_canDoTest := ⟨jm_in2 (List.mem_of_getElem? (i := 109) rfl) rfl, jm_inS (q := (⟨"GoalOrder$Trial", "canDoTest", "(LGoalOrder$Node;)Z"⟩, 4)) (by decide +kernel)⟩
abbrev mR_canJoin : mM := (⟨"GoalOrder$Trial", "canJoin", "(LGoalOrder$Node;JJ)Z"⟩, prog_5_method_11_code, 8, (some .boolean))
theorem fR_canJoin : jm_MF mR_canJoin 3 := ⟨jm_in2 (List.mem_of_getElem? (i := 95) rfl) rfl, jm_in1 (List.mem_of_getElem? (i := 5) rfl) rfl, ⟨by decide, by decide, by decide +kernel⟩, by decide⟩
theorem vR_canJoin : jm_MV mR_canJoin := ⟨jm_in2 (List.mem_of_getElem? (i := 94) rfl) rfl, jm_inS (q := (⟨"GoalOrder$Trial", "canJoin", "(LGoalOrder$Node;JJ)Z"⟩, 4)) (by decide +kernel)⟩
abbrev mR_doLeftmost : mM := (⟨"GoalOrder$Trial", "doLeftmost", "(LGoalOrder$Node;)LGoalOrder$Node;"⟩, prog_5_method_5_code, 3, (some (.object "GoalOrder$Node")))
theorem fR_doLeftmost : jm_MF mR_doLeftmost 1 := ⟨jm_in2 (List.mem_of_getElem? (i := 79) rfl) rfl, jm_in1 (List.mem_of_getElem? (i := 5) rfl) rfl, ⟨by decide, by decide, by decide +kernel⟩, by decide⟩
theorem vR_doLeftmost : jm_MV mR_doLeftmost := ⟨jm_in2 (List.mem_of_getElem? (i := 78) rfl) rfl, jm_inS (q := (⟨"GoalOrder$Trial", "doLeftmost", "(LGoalOrder$Node;)LGoalOrder$Node;"⟩, 4)) (by decide +kernel)⟩
abbrev mR_init : mM := (⟨"GoalOrder$Trial", "<init>", "(LGoalOrder$Predicates;)V"⟩, prog_5_method_1_code, 2, none)
theorem fR_init : jm_MF mR_init 1 := ⟨jm_in1 (List.mem_of_getElem? (i := 159) rfl) rfl, jm_in1 (List.mem_of_getElem? (i := 5) rfl) rfl, ⟨by decide, by decide, by decide +kernel⟩, by decide⟩
theorem vR_init : Cond.instanceMethod mR_init.1 ∈ jm_tb := jm_in1 (List.mem_of_getElem? (i := 158) rfl) rfl
abbrev mR_insOf : mM := (⟨"GoalOrder$Trial", "insOf", "(LGoalOrder$Node;I)J"⟩, prog_5_method_19_code, 5, (some .long))
theorem fR_insOf : jm_MF mR_insOf 2 := ⟨jm_in2 (List.mem_of_getElem? (i := 157) rfl) rfl, jm_in1 (List.mem_of_getElem? (i := 5) rfl) rfl, ⟨by decide, by decide, by decide +kernel⟩, by decide⟩
theorem sR_insOf : Cond.static mR_insOf.1 ∈ jm_tb := jm_in2 (List.mem_of_getElem? (i := 156) rfl) rfl
abbrev mR_isGround : mM := (⟨"GoalOrder$Trial", "isGround", "(LGoalOrder$Node;J)Z"⟩, prog_5_method_20_code, 3, (some .boolean))
theorem fR_isGround : jm_MF mR_isGround 2 := ⟨jm_in2 (List.mem_of_getElem? (i := 128) rfl) rfl, jm_in1 (List.mem_of_getElem? (i := 5) rfl) rfl, ⟨by decide, by decide, by decide +kernel⟩, by decide⟩
theorem sR_isGround : Cond.static mR_isGround.1 ∈ jm_tb := jm_in2 (List.mem_of_getElem? (i := 127) rfl) rfl
abbrev mR_madeBy : mM := (⟨"GoalOrder$Trial", "madeBy", "(LGoalOrder$Node;)J"⟩, prog_5_method_13_code, 1, (some .long))
theorem fR_madeBy : jm_MF mR_madeBy 1 := ⟨jm_in2 (List.mem_of_getElem? (i := 106) rfl) rfl, jm_in1 (List.mem_of_getElem? (i := 5) rfl) rfl, ⟨by decide, by decide, by decide +kernel⟩, by decide⟩
theorem sR_madeBy : Cond.static mR_madeBy.1 ∈ jm_tb := jm_in2 (List.mem_of_getElem? (i := 105) rfl) rfl
abbrev mR_outerOf : mM := (⟨"GoalOrder$Trial", "outerOf", "(LGoalOrder$Node;)J"⟩, prog_5_method_12_code, 2, (some .long))
theorem fR_outerOf : jm_MF mR_outerOf 1 := ⟨jm_in2 (List.mem_of_getElem? (i := 99) rfl) rfl, jm_in1 (List.mem_of_getElem? (i := 5) rfl) rfl, ⟨by decide, by decide, by decide +kernel⟩, by decide⟩
theorem vR_outerOf : jm_MV mR_outerOf := ⟨jm_in2 (List.mem_of_getElem? (i := 98) rfl) rfl, jm_inS (q := (⟨"GoalOrder$Trial", "outerOf", "(LGoalOrder$Node;)J"⟩, 4)) (by decide +kernel)⟩
abbrev mR_run : mM := (⟨"GoalOrder$Trial", "run", "(LGoalOrder$Node;JJ)Z"⟩, prog_5_method_2_code, 6, (some .boolean))
theorem fR_run : jm_MF mR_run 3 := ⟨jm_in2 (List.mem_of_getElem? (i := 67) rfl) rfl, jm_in1 (List.mem_of_getElem? (i := 5) rfl) rfl, ⟨by decide, by decide, by decide +kernel⟩, by decide⟩
theorem vR_run : jm_MV mR_run := ⟨jm_in2 (List.mem_of_getElem? (i := 65) rfl) rfl, jm_in2 (List.mem_of_getElem? (i := 66) rfl) rfl⟩
abbrev mR_settle : mM := (⟨"GoalOrder$Trial", "settle", "(LGoalOrder$Node;IJ)Z"⟩, prog_5_method_21_code, 4, (some .boolean))
theorem fR_settle : jm_MF mR_settle 3 := ⟨jm_in2 (List.mem_of_getElem? (i := 131) rfl) rfl, jm_in1 (List.mem_of_getElem? (i := 5) rfl) rfl, ⟨by decide, by decide, by decide +kernel⟩, by decide⟩
theorem sR_settle : Cond.static mR_settle.1 ∈ jm_tb := jm_in2 (List.mem_of_getElem? (i := 130) rfl) rfl
abbrev mR_stuckOfLeftmost : mM := (⟨"GoalOrder$Trial", "stuckOfLeftmost", "(LGoalOrder$Node;)I"⟩, prog_5_method_6_code, 2, (some .int))
theorem fR_stuckOfLeftmost : jm_MF mR_stuckOfLeftmost 1 := ⟨jm_in2 (List.mem_of_getElem? (i := 82) rfl) rfl, jm_in1 (List.mem_of_getElem? (i := 5) rfl) rfl, ⟨by decide, by decide, by decide +kernel⟩, by decide⟩
theorem sR_stuckOfLeftmost : Cond.static mR_stuckOfLeftmost.1 ∈ jm_tb := jm_in2 (List.mem_of_getElem? (i := 81) rfl) rfl
abbrev mT_find : mM := (⟨"GoalOrder$Tree", "find", "(I)LGoalOrder$Node;"⟩, prog_4_method_4_code, 2, (some (.object "GoalOrder$Node")))
theorem fT_find : jm_MF mT_find 1 := ⟨jm_in2 (List.mem_of_getElem? (i := 6) rfl) rfl, jm_in1 (List.mem_of_getElem? (i := 3) rfl) rfl, ⟨by decide, by decide, by decide +kernel⟩, by decide⟩
theorem vT_find : jm_MV mT_find := ⟨jm_in2 (List.mem_of_getElem? (i := 4) rfl) rfl, jm_in2 (List.mem_of_getElem? (i := 5) rfl) rfl⟩
abbrev mT_grow : mM := (⟨"GoalOrder$Tree", "grow", "(LGoalOrder$Node;II[II)I"⟩, prog_4_method_5_code, 7, (some .int))
theorem fT_grow : jm_MF mT_grow 5 := ⟨jm_in2 (List.mem_of_getElem? (i := 35) rfl) rfl, jm_in1 (List.mem_of_getElem? (i := 3) rfl) rfl, ⟨by decide, by decide, by decide +kernel⟩, by decide⟩
theorem vT_grow : jm_MV mT_grow := ⟨jm_in2 (List.mem_of_getElem? (i := 33) rfl) rfl, jm_in2 (List.mem_of_getElem? (i := 34) rfl) rfl⟩
abbrev mT_init : mM := (⟨"GoalOrder$Tree", "<init>", "()V"⟩, prog_4_method_1_code, 1, none)
theorem fT_init : jm_MF mT_init 0 := ⟨jm_in1 (List.mem_of_getElem? (i := 39) rfl) rfl, jm_in1 (List.mem_of_getElem? (i := 3) rfl) rfl, ⟨by decide, by decide, by decide +kernel⟩, by decide⟩
theorem vT_init : Cond.instanceMethod mT_init.1 ∈ jm_tb := jm_in1 (List.mem_of_getElem? (i := 38) rfl) rfl
abbrev mT_isFull : mM := (⟨"GoalOrder$Tree", "isFull", "()Z"⟩, prog_4_method_3_code, 1, (some .boolean))
theorem fT_isFull : jm_MF mT_isFull 0 := ⟨jm_in2 (List.mem_of_getElem? (i := 10) rfl) rfl, jm_in1 (List.mem_of_getElem? (i := 3) rfl) rfl, ⟨by decide, by decide, by decide +kernel⟩, by decide⟩
theorem vT_isFull : jm_MV mT_isFull := ⟨jm_in2 (List.mem_of_getElem? (i := 8) rfl) rfl, jm_in2 (List.mem_of_getElem? (i := 9) rfl) rfl⟩
abbrev mT_reset : mM := (⟨"GoalOrder$Tree", "reset", "()V"⟩, prog_4_method_2_code, 1, none)
theorem fT_reset : jm_MF mT_reset 0 := ⟨jm_in1 (List.mem_of_getElem? (i := 139) rfl) rfl, jm_in1 (List.mem_of_getElem? (i := 3) rfl) rfl, ⟨by decide, by decide, by decide +kernel⟩, by decide⟩
theorem vT_reset : jm_MV mT_reset := ⟨jm_in1 (List.mem_of_getElem? (i := 137) rfl) rfl, jm_in1 (List.mem_of_getElem? (i := 138) rfl) rfl⟩
abbrev mT_spreadVariables : mM := (⟨"GoalOrder$Tree", "spreadVariables", "(LGoalOrder$Node;)V"⟩, prog_4_method_6_code, 5, none)
theorem fT_spreadVariables : jm_MF mT_spreadVariables 1 := ⟨jm_in2 (List.mem_of_getElem? (i := 48) rfl) rfl, jm_in1 (List.mem_of_getElem? (i := 3) rfl) rfl, ⟨by decide, by decide, by decide +kernel⟩, by decide⟩
theorem vT_spreadVariables : jm_MV mT_spreadVariables := ⟨jm_in2 (List.mem_of_getElem? (i := 47) rfl) rfl, jm_inS (q := (⟨"GoalOrder$Tree", "spreadVariables", "(LGoalOrder$Node;)V"⟩, 3)) (by decide +kernel)⟩
/-! links of fields: l<class>_<index> for reading, and puts by the method where the field is final -/
theorem lG_10 : jm_FL "GoalOrder" 10 4 0 := ⟨_, rfl, by decide, Or.inl (jm_in1 (List.mem_of_getElem? (i := 175) rfl) rfl)⟩
theorem lG_19 : jm_FL "GoalOrder" 19 4 1 := ⟨_, rfl, by decide, Or.inl (jm_in1 (List.mem_of_getElem? (i := 176) rfl) rfl)⟩
theorem lG_28 : jm_FL "GoalOrder" 28 4 2 := ⟨_, rfl, by decide, Or.inl (jm_in1 (List.mem_of_getElem? (i := 177) rfl) rfl)⟩
theorem lG_32 : jm_FL "GoalOrder" 32 4 3 := ⟨_, rfl, by decide, Or.inl (jm_in1 (List.mem_of_getElem? (i := 178) rfl) rfl)⟩
theorem lG_36 : jm_FL "GoalOrder" 36 4 4 := ⟨_, rfl, by decide, Or.inl (jm_in1 (List.mem_of_getElem? (i := 179) rfl) rfl)⟩
theorem lG_40 : jm_FL "GoalOrder" 40 4 5 := ⟨_, rfl, by decide, Or.inl (jm_in1 (List.mem_of_getElem? (i := 180) rfl) rfl)⟩
theorem lG_44 : jm_FL "GoalOrder" 44 4 6 := ⟨_, rfl, by decide, Or.inl (jm_in1 (List.mem_of_getElem? (i := 181) rfl) rfl)⟩
theorem lG_47 : jm_FL "GoalOrder" 47 4 7 := ⟨_, rfl, by decide, Or.inl (jm_in1 (List.mem_of_getElem? (i := 182) rfl) rfl)⟩
theorem lG_51 : jm_FL "GoalOrder" 51 4 8 := ⟨_, rfl, by decide, Or.inl (jm_in1 (List.mem_of_getElem? (i := 183) rfl) rfl)⟩
theorem lG_97 : jm_FL "GoalOrder" 97 2 0 := ⟨_, rfl, by decide, Or.inr ⟨"GoalOrder", by decide +kernel⟩⟩
theorem lG_105 : jm_FL "GoalOrder" 105 3 3 := ⟨_, rfl, by decide, Or.inr ⟨"GoalOrder", by decide +kernel⟩⟩
theorem lG_108 : jm_FL "GoalOrder" 108 0 16 := ⟨_, rfl, by decide, Or.inl (jm_in1 (List.mem_of_getElem? (i := 88) rfl) rfl)⟩
theorem lG_111 : jm_FL "GoalOrder" 111 0 14 := ⟨_, rfl, by decide, Or.inl (jm_in1 (List.mem_of_getElem? (i := 84) rfl) rfl)⟩
theorem lG_120 : jm_FL "GoalOrder" 120 0 6 := ⟨_, rfl, by decide, Or.inl (jm_in1 (List.mem_of_getElem? (i := 65) rfl) rfl)⟩
theorem lG_123 : jm_FL "GoalOrder" 123 0 3 := ⟨_, rfl, by decide, Or.inl (jm_in1 (List.mem_of_getElem? (i := 58) rfl) rfl)⟩
theorem lG_132 : jm_FL "GoalOrder" 132 0 0 := ⟨_, rfl, by decide, Or.inl (jm_in1 (List.mem_of_getElem? (i := 50) rfl) rfl)⟩
theorem lG_138 : jm_FL "GoalOrder" 138 0 15 := ⟨_, rfl, by decide, Or.inl (jm_in1 (List.mem_of_getElem? (i := 85) rfl) rfl)⟩
theorem lG_141 : jm_FL "GoalOrder" 141 0 2 := ⟨_, rfl, by decide, Or.inl (jm_in1 (List.mem_of_getElem? (i := 54) rfl) rfl)⟩
theorem lG_144 : jm_FL "GoalOrder" 144 0 1 := ⟨_, rfl, by decide, Or.inl (jm_in1 (List.mem_of_getElem? (i := 52) rfl) rfl)⟩
theorem lG_155 : jm_FL "GoalOrder" 155 0 13 := ⟨_, rfl, by decide, Or.inl (jm_in1 (List.mem_of_getElem? (i := 82) rfl) rfl)⟩
theorem lG_158 : jm_FL "GoalOrder" 158 0 12 := ⟨_, rfl, by decide, Or.inl (jm_in1 (List.mem_of_getElem? (i := 79) rfl) rfl)⟩
theorem lG_173 : jm_FL "GoalOrder" 173 0 4 := ⟨_, rfl, by decide, Or.inl (jm_in1 (List.mem_of_getElem? (i := 61) rfl) rfl)⟩
theorem lN_9 : jm_FL "GoalOrder$Node" 9 0 0 := ⟨_, rfl, by decide, Or.inl (jm_in1 (List.mem_of_getElem? (i := 47) rfl) rfl)⟩
theorem lN_15 : jm_FL "GoalOrder$Node" 15 0 1 := ⟨_, rfl, by decide, Or.inl (jm_in1 (List.mem_of_getElem? (i := 51) rfl) rfl)⟩
theorem lN_19 : jm_FL "GoalOrder$Node" 19 0 3 := ⟨_, rfl, by decide, Or.inl (jm_in1 (List.mem_of_getElem? (i := 56) rfl) rfl)⟩
theorem lN_22 : jm_FL "GoalOrder$Node" 22 0 4 := ⟨_, rfl, by decide, Or.inl (jm_in1 (List.mem_of_getElem? (i := 59) rfl) rfl)⟩
theorem lN_25 : jm_FL "GoalOrder$Node" 25 0 2 := ⟨_, rfl, by decide, Or.inl (jm_in1 (List.mem_of_getElem? (i := 53) rfl) rfl)⟩
theorem lN_28 : jm_FL "GoalOrder$Node" 28 0 5 := ⟨_, rfl, by decide, Or.inl (jm_in1 (List.mem_of_getElem? (i := 62) rfl) rfl)⟩
theorem lN_31 : jm_FL "GoalOrder$Node" 31 0 6 := ⟨_, rfl, by decide, Or.inl (jm_in1 (List.mem_of_getElem? (i := 63) rfl) rfl)⟩
theorem lN_34 : jm_FL "GoalOrder$Node" 34 0 7 := ⟨_, rfl, by decide, Or.inl (jm_in1 (List.mem_of_getElem? (i := 66) rfl) rfl)⟩
theorem lN_38 : jm_FL "GoalOrder$Node" 38 0 8 := ⟨_, rfl, by decide, Or.inl (jm_in1 (List.mem_of_getElem? (i := 68) rfl) rfl)⟩
theorem lN_41 : jm_FL "GoalOrder$Node" 41 0 9 := ⟨_, rfl, by decide, Or.inl (jm_in1 (List.mem_of_getElem? (i := 70) rfl) rfl)⟩
theorem lN_44 : jm_FL "GoalOrder$Node" 44 0 10 := ⟨_, rfl, by decide, Or.inl (jm_in1 (List.mem_of_getElem? (i := 71) rfl) rfl)⟩
theorem lN_47 : jm_FL "GoalOrder$Node" 47 0 11 := ⟨_, rfl, by decide, Or.inl (jm_in1 (List.mem_of_getElem? (i := 73) rfl) rfl)⟩
theorem lN_51 : jm_FL "GoalOrder$Node" 51 0 12 := ⟨_, rfl, by decide, Or.inl (jm_in1 (List.mem_of_getElem? (i := 76) rfl) rfl)⟩
theorem lN_58 : jm_FL "GoalOrder$Node" 58 0 18 := ⟨_, rfl, by decide, Or.inl (jm_in1 (List.mem_of_getElem? (i := 91) rfl) rfl)⟩
theorem lN_61 : jm_FL "GoalOrder$Node" 61 0 19 := ⟨_, rfl, by decide, Or.inl (jm_in1 (List.mem_of_getElem? (i := 93) rfl) rfl)⟩
theorem lN_68 : jm_FL "GoalOrder$Node" 68 0 13 := ⟨_, rfl, by decide, Or.inl (jm_in1 (List.mem_of_getElem? (i := 81) rfl) rfl)⟩
theorem lP_9 : jm_FL "GoalOrder$Predicates" 9 1 0 := ⟨_, rfl, by decide, Or.inl (jm_in1 (List.mem_of_getElem? (i := 21) rfl) rfl)⟩
theorem lP_15 : jm_FL "GoalOrder$Predicates" 15 1 1 := ⟨_, rfl, by decide, Or.inl (jm_in1 (List.mem_of_getElem? (i := 22) rfl) rfl)⟩
theorem lP_18 : jm_FL "GoalOrder$Predicates" 18 1 2 := ⟨_, rfl, by decide, Or.inl (jm_in1 (List.mem_of_getElem? (i := 23) rfl) rfl)⟩
theorem lP_21 : jm_FL "GoalOrder$Predicates" 21 1 3 := ⟨_, rfl, by decide, Or.inl (jm_in1 (List.mem_of_getElem? (i := 24) rfl) rfl)⟩
theorem lT_14 : jm_FL "GoalOrder$Tree" 14 2 0 := ⟨_, rfl, by decide, Or.inl (jm_in1 (List.mem_of_getElem? (i := 144) rfl) rfl)⟩
theorem lT_20 : jm_FL "GoalOrder$Tree" 20 2 1 := ⟨_, rfl, by decide, Or.inl (jm_in1 (List.mem_of_getElem? (i := 146) rfl) rfl)⟩
theorem lT_31 : jm_FL "GoalOrder$Tree" 31 2 2 := ⟨_, rfl, by decide, Or.inl (jm_in1 (List.mem_of_getElem? (i := 147) rfl) rfl)⟩
theorem lT_39 : jm_FL "GoalOrder$Tree" 39 0 11 := ⟨_, rfl, by decide, Or.inl (jm_in1 (List.mem_of_getElem? (i := 74) rfl) rfl)⟩
theorem lT_43 : jm_FL "GoalOrder$Tree" 43 0 12 := ⟨_, rfl, by decide, Or.inl (jm_in1 (List.mem_of_getElem? (i := 77) rfl) rfl)⟩
theorem lT_57 : jm_FL "GoalOrder$Tree" 57 0 0 := ⟨_, rfl, by decide, Or.inl (jm_in1 (List.mem_of_getElem? (i := 49) rfl) rfl)⟩
theorem lT_60 : jm_FL "GoalOrder$Tree" 60 0 7 := ⟨_, rfl, by decide, Or.inl (jm_in1 (List.mem_of_getElem? (i := 67) rfl) rfl)⟩
theorem lR_9 : jm_FL "GoalOrder$Trial" 9 3 0 := ⟨_, rfl, by decide, Or.inl (jm_in1 (List.mem_of_getElem? (i := 161) rfl) rfl)⟩
theorem lR_15 : jm_FL "GoalOrder$Trial" 15 3 1 := ⟨_, rfl, by decide, Or.inl (jm_in1 (List.mem_of_getElem? (i := 162) rfl) rfl)⟩
theorem lR_19 : jm_FL "GoalOrder$Trial" 19 3 2 := ⟨_, rfl, by decide, Or.inl (jm_in1 (List.mem_of_getElem? (i := 163) rfl) rfl)⟩
theorem lR_23 : jm_FL "GoalOrder$Trial" 23 3 3 := ⟨_, rfl, by decide, Or.inl (jm_in1 (List.mem_of_getElem? (i := 164) rfl) rfl)⟩
theorem lR_31 : jm_FL "GoalOrder$Trial" 31 0 13 := ⟨_, rfl, by decide, Or.inl (jm_in1 (List.mem_of_getElem? (i := 80) rfl) rfl)⟩
theorem lR_36 : jm_FL "GoalOrder$Trial" 36 0 14 := ⟨_, rfl, by decide, Or.inl (jm_in1 (List.mem_of_getElem? (i := 83) rfl) rfl)⟩
theorem lR_39 : jm_FL "GoalOrder$Trial" 39 0 0 := ⟨_, rfl, by decide, Or.inl (jm_in1 (List.mem_of_getElem? (i := 48) rfl) rfl)⟩
theorem lR_42 : jm_FL "GoalOrder$Trial" 42 0 16 := ⟨_, rfl, by decide, Or.inl (jm_in1 (List.mem_of_getElem? (i := 87) rfl) rfl)⟩
theorem lR_45 : jm_FL "GoalOrder$Trial" 45 0 3 := ⟨_, rfl, by decide, Or.inl (jm_in1 (List.mem_of_getElem? (i := 57) rfl) rfl)⟩
theorem lR_64 : jm_FL "GoalOrder$Trial" 64 0 8 := ⟨_, rfl, by decide, Or.inl (jm_in1 (List.mem_of_getElem? (i := 69) rfl) rfl)⟩
theorem lR_68 : jm_FL "GoalOrder$Trial" 68 0 17 := ⟨_, rfl, by decide, Or.inl (jm_in1 (List.mem_of_getElem? (i := 89) rfl) rfl)⟩
theorem lR_71 : jm_FL "GoalOrder$Trial" 71 0 19 := ⟨_, rfl, by decide, Or.inl (jm_in1 (List.mem_of_getElem? (i := 92) rfl) rfl)⟩
theorem lR_74 : jm_FL "GoalOrder$Trial" 74 0 10 := ⟨_, rfl, by decide, Or.inl (jm_in1 (List.mem_of_getElem? (i := 72) rfl) rfl)⟩
theorem lR_77 : jm_FL "GoalOrder$Trial" 77 0 18 := ⟨_, rfl, by decide, Or.inl (jm_in1 (List.mem_of_getElem? (i := 90) rfl) rfl)⟩
theorem lR_80 : jm_FL "GoalOrder$Trial" 80 0 6 := ⟨_, rfl, by decide, Or.inl (jm_in1 (List.mem_of_getElem? (i := 64) rfl) rfl)⟩
theorem lR_112 : jm_FL "GoalOrder$Trial" 112 0 11 := ⟨_, rfl, by decide, Or.inl (jm_in1 (List.mem_of_getElem? (i := 75) rfl) rfl)⟩
theorem lR_115 : jm_FL "GoalOrder$Trial" 115 0 12 := ⟨_, rfl, by decide, Or.inl (jm_in1 (List.mem_of_getElem? (i := 78) rfl) rfl)⟩
theorem lR_144 : jm_FL "GoalOrder$Trial" 144 0 4 := ⟨_, rfl, by decide, Or.inl (jm_in1 (List.mem_of_getElem? (i := 60) rfl) rfl)⟩
theorem lR_161 : jm_FL "GoalOrder$Trial" 161 0 2 := ⟨_, rfl, by decide, Or.inl (jm_in1 (List.mem_of_getElem? (i := 55) rfl) rfl)⟩
theorem lR_168 : jm_FL "GoalOrder$Trial" 168 0 15 := ⟨_, rfl, by decide, Or.inl (jm_in1 (List.mem_of_getElem? (i := 86) rfl) rfl)⟩
theorem lM_7 : jm_FL "GoalOrderModel" 7 5 2 := ⟨_, rfl, by decide, Or.inl (jm_in2 (List.mem_of_getElem? (i := 226) rfl) rfl)⟩
theorem lM_13 : jm_FL "GoalOrderModel" 13 5 3 := ⟨_, rfl, by decide, Or.inl (jm_in2 (List.mem_of_getElem? (i := 227) rfl) rfl)⟩
theorem lM_16 : jm_FL "GoalOrderModel" 16 5 4 := ⟨_, rfl, by decide, Or.inl (jm_in2 (List.mem_of_getElem? (i := 228) rfl) rfl)⟩
theorem lM_19 : jm_FL "GoalOrderModel" 19 5 6 := ⟨_, rfl, by decide, Or.inl (jm_in2 (List.mem_of_getElem? (i := 230) rfl) rfl)⟩
theorem lM_22 : jm_FL "GoalOrderModel" 22 5 7 := ⟨_, rfl, by decide, Or.inl (jm_in2 (List.mem_of_getElem? (i := 231) rfl) rfl)⟩
theorem lM_25 : jm_FL "GoalOrderModel" 25 5 8 := ⟨_, rfl, by decide, Or.inl (jm_in2 (List.mem_of_getElem? (i := 232) rfl) rfl)⟩
theorem lM_28 : jm_FL "GoalOrderModel" 28 5 9 := ⟨_, rfl, by decide, Or.inl (jm_in2 (List.mem_of_getElem? (i := 233) rfl) rfl)⟩
theorem lM_31 : jm_FL "GoalOrderModel" 31 5 10 := ⟨_, rfl, by decide, Or.inl (jm_in2 (List.mem_of_getElem? (i := 234) rfl) rfl)⟩
theorem lM_34 : jm_FL "GoalOrderModel" 34 5 11 := ⟨_, rfl, by decide, Or.inl (jm_in2 (List.mem_of_getElem? (i := 235) rfl) rfl)⟩
theorem lM_37 : jm_FL "GoalOrderModel" 37 5 12 := ⟨_, rfl, by decide, Or.inl (jm_in2 (List.mem_of_getElem? (i := 236) rfl) rfl)⟩
theorem lM_40 : jm_FL "GoalOrderModel" 40 5 13 := ⟨_, rfl, by decide, Or.inl (jm_in2 (List.mem_of_getElem? (i := 237) rfl) rfl)⟩
theorem lM_43 : jm_FL "GoalOrderModel" 43 5 14 := ⟨_, rfl, by decide, Or.inl (jm_in2 (List.mem_of_getElem? (i := 238) rfl) rfl)⟩
theorem lM_46 : jm_FL "GoalOrderModel" 46 5 15 := ⟨_, rfl, by decide, Or.inl (jm_in2 (List.mem_of_getElem? (i := 239) rfl) rfl)⟩
theorem lM_49 : jm_FL "GoalOrderModel" 49 5 16 := ⟨_, rfl, by decide, Or.inl (jm_in3 (List.mem_of_getElem? (i := 0) rfl) rfl)⟩
theorem lM_52 : jm_FL "GoalOrderModel" 52 5 20 := ⟨_, rfl, by decide, Or.inl (jm_in3 (List.mem_of_getElem? (i := 4) rfl) rfl)⟩
theorem lM_55 : jm_FL "GoalOrderModel" 55 5 21 := ⟨_, rfl, by decide, Or.inl (jm_in3 (List.mem_of_getElem? (i := 5) rfl) rfl)⟩
theorem lM_59 : jm_FL "GoalOrderModel" 59 5 22 := ⟨_, rfl, by decide, Or.inl (jm_in3 (List.mem_of_getElem? (i := 6) rfl) rfl)⟩
theorem lM_62 : jm_FL "GoalOrderModel" 62 5 23 := ⟨_, rfl, by decide, Or.inl (jm_in3 (List.mem_of_getElem? (i := 7) rfl) rfl)⟩
theorem lM_65 : jm_FL "GoalOrderModel" 65 5 24 := ⟨_, rfl, by decide, Or.inl (jm_in3 (List.mem_of_getElem? (i := 8) rfl) rfl)⟩
theorem lM_68 : jm_FL "GoalOrderModel" 68 5 25 := ⟨_, rfl, by decide, Or.inl (jm_in3 (List.mem_of_getElem? (i := 9) rfl) rfl)⟩
theorem lM_72 : jm_FL "GoalOrderModel" 72 5 26 := ⟨_, rfl, by decide, Or.inl (jm_in3 (List.mem_of_getElem? (i := 10) rfl) rfl)⟩
theorem lM_75 : jm_FL "GoalOrderModel" 75 5 27 := ⟨_, rfl, by decide, Or.inl (jm_in3 (List.mem_of_getElem? (i := 11) rfl) rfl)⟩
theorem lM_78 : jm_FL "GoalOrderModel" 78 5 28 := ⟨_, rfl, by decide, Or.inl (jm_in3 (List.mem_of_getElem? (i := 12) rfl) rfl)⟩
theorem lM_81 : jm_FL "GoalOrderModel" 81 5 29 := ⟨_, rfl, by decide, Or.inl (jm_in3 (List.mem_of_getElem? (i := 13) rfl) rfl)⟩
theorem lM_84 : jm_FL "GoalOrderModel" 84 5 30 := ⟨_, rfl, by decide, Or.inl (jm_in3 (List.mem_of_getElem? (i := 14) rfl) rfl)⟩
theorem lM_87 : jm_FL "GoalOrderModel" 87 5 31 := ⟨_, rfl, by decide, Or.inl (jm_in3 (List.mem_of_getElem? (i := 15) rfl) rfl)⟩
theorem lM_90 : jm_FL "GoalOrderModel" 90 5 32 := ⟨_, rfl, by decide, Or.inl (jm_in3 (List.mem_of_getElem? (i := 16) rfl) rfl)⟩
theorem lM_93 : jm_FL "GoalOrderModel" 93 5 33 := ⟨_, rfl, by decide, Or.inl (jm_in3 (List.mem_of_getElem? (i := 17) rfl) rfl)⟩
theorem lM_96 : jm_FL "GoalOrderModel" 96 5 34 := ⟨_, rfl, by decide, Or.inl (jm_in3 (List.mem_of_getElem? (i := 18) rfl) rfl)⟩
theorem lM_99 : jm_FL "GoalOrderModel" 99 5 35 := ⟨_, rfl, by decide, Or.inl (jm_in3 (List.mem_of_getElem? (i := 19) rfl) rfl)⟩
theorem lM_102 : jm_FL "GoalOrderModel" 102 5 36 := ⟨_, rfl, by decide, Or.inl (jm_in3 (List.mem_of_getElem? (i := 20) rfl) rfl)⟩
theorem lM_105 : jm_FL "GoalOrderModel" 105 5 37 := ⟨_, rfl, by decide, Or.inl (jm_in3 (List.mem_of_getElem? (i := 21) rfl) rfl)⟩
theorem lM_108 : jm_FL "GoalOrderModel" 108 5 41 := ⟨_, rfl, by decide, Or.inl (jm_in3 (List.mem_of_getElem? (i := 25) rfl) rfl)⟩
theorem lM_115 : jm_FL "GoalOrderModel" 115 5 0 := ⟨_, rfl, by decide, Or.inl (jm_in2 (List.mem_of_getElem? (i := 224) rfl) rfl)⟩
theorem lM_118 : jm_FL "GoalOrderModel" 118 5 5 := ⟨_, rfl, by decide, Or.inl (jm_in2 (List.mem_of_getElem? (i := 229) rfl) rfl)⟩
theorem lM_121 : jm_FL "GoalOrderModel" 121 5 17 := ⟨_, rfl, by decide, Or.inl (jm_in3 (List.mem_of_getElem? (i := 1) rfl) rfl)⟩
theorem lM_124 : jm_FL "GoalOrderModel" 124 5 18 := ⟨_, rfl, by decide, Or.inl (jm_in3 (List.mem_of_getElem? (i := 2) rfl) rfl)⟩
theorem lM_128 : jm_FL "GoalOrderModel" 128 5 19 := ⟨_, rfl, by decide, Or.inl (jm_in3 (List.mem_of_getElem? (i := 3) rfl) rfl)⟩
theorem lM_138 : jm_FL "GoalOrderModel" 138 5 40 := ⟨_, rfl, by decide, Or.inl (jm_in3 (List.mem_of_getElem? (i := 24) rfl) rfl)⟩
theorem lM_142 : jm_FL "GoalOrderModel" 142 5 1 := ⟨_, rfl, by decide, Or.inl (jm_in2 (List.mem_of_getElem? (i := 225) rfl) rfl)⟩
theorem lM_186 : jm_FL "GoalOrderModel" 186 5 39 := ⟨_, rfl, by decide, Or.inl (jm_in3 (List.mem_of_getElem? (i := 23) rfl) rfl)⟩
theorem lM_193 : jm_FL "GoalOrderModel" 193 5 38 := ⟨_, rfl, by decide, Or.inl (jm_in3 (List.mem_of_getElem? (i := 22) rfl) rfl)⟩
theorem pG_add_36 : jm_FP mG_add 36 4 4 (.int) := ⟨_, rfl, by decide, tyX4_ok 4 (by decide), Or.inl ⟨rfl, Or.inl (jm_in1 (List.mem_of_getElem? (i := 179) rfl) rfl)⟩⟩
theorem pG_clear_36 : jm_FP mG_clear 36 4 4 (.int) := ⟨_, rfl, by decide, tyX4_ok 4 (by decide), Or.inl ⟨rfl, Or.inl (jm_in1 (List.mem_of_getElem? (i := 179) rfl) rfl)⟩⟩
theorem pG_clear_40 : jm_FP mG_clear 40 4 5 (.long) := ⟨_, rfl, by decide, tyX4_ok 5 (by decide), Or.inl ⟨rfl, Or.inl (jm_in1 (List.mem_of_getElem? (i := 180) rfl) rfl)⟩⟩
theorem pG_clear_44 : jm_FP mG_clear 44 4 6 (.long) := ⟨_, rfl, by decide, tyX4_ok 6 (by decide), Or.inl ⟨rfl, Or.inl (jm_in1 (List.mem_of_getElem? (i := 181) rfl) rfl)⟩⟩
theorem pG_forgetOrdering_47 : jm_FP mG_forgetOrdering 47 4 7 (.boolean) := ⟨_, rfl, by decide, tyX4_ok 7 (by decide), Or.inl ⟨rfl, Or.inl (jm_in1 (List.mem_of_getElem? (i := 182) rfl) rfl)⟩⟩
theorem pG_forgetOrdering_51 : jm_FP mG_forgetOrdering 51 4 8 (.int) := ⟨_, rfl, by decide, tyX4_ok 8 (by decide), Or.inl ⟨rfl, Or.inl (jm_in1 (List.mem_of_getElem? (i := 183) rfl) rfl)⟩⟩
theorem pG_given_40 : jm_FP mG_given 40 4 5 (.long) := ⟨_, rfl, by decide, tyX4_ok 5 (by decide), Or.inl ⟨rfl, Or.inl (jm_in1 (List.mem_of_getElem? (i := 180) rfl) rfl)⟩⟩
theorem pG_order_47 : jm_FP mG_order 47 4 7 (.boolean) := ⟨_, rfl, by decide, tyX4_ok 7 (by decide), Or.inl ⟨rfl, Or.inl (jm_in1 (List.mem_of_getElem? (i := 182) rfl) rfl)⟩⟩
theorem pG_order_51 : jm_FP mG_order 51 4 8 (.int) := ⟨_, rfl, by decide, tyX4_ok 8 (by decide), Or.inl ⟨rfl, Or.inl (jm_in1 (List.mem_of_getElem? (i := 183) rfl) rfl)⟩⟩
theorem pG_put_36 : jm_FP mG_put 36 4 4 (.int) := ⟨_, rfl, by decide, tyX4_ok 4 (by decide), Or.inl ⟨rfl, Or.inl (jm_in1 (List.mem_of_getElem? (i := 179) rfl) rfl)⟩⟩
theorem pG_wanted_44 : jm_FP mG_wanted 44 4 6 (.long) := ⟨_, rfl, by decide, tyX4_ok 6 (by decide), Or.inl ⟨rfl, Or.inl (jm_in1 (List.mem_of_getElem? (i := 181) rfl) rfl)⟩⟩
theorem pG_init_10 : jm_FP mG_init 10 4 0 (.object "GoalOrder$Predicates") := ⟨_, rfl, by decide, tyX4_ok 0 (by decide), Or.inr ⟨rfl, rfl, rfl, jm_in1 (List.mem_of_getElem? (i := 175) rfl) rfl⟩⟩
theorem pG_init_19 : jm_FP mG_init 19 4 1 (.object "GoalOrder$Tree") := ⟨_, rfl, by decide, tyX4_ok 1 (by decide), Or.inr ⟨rfl, rfl, rfl, jm_in1 (List.mem_of_getElem? (i := 176) rfl) rfl⟩⟩
theorem pG_init_28 : jm_FP mG_init 28 4 2 (.object "GoalOrder$Trial") := ⟨_, rfl, by decide, tyX4_ok 2 (by decide), Or.inr ⟨rfl, rfl, rfl, jm_in1 (List.mem_of_getElem? (i := 177) rfl) rfl⟩⟩
theorem pG_init_32 : jm_FP mG_init 32 4 3 (.array .int) := ⟨_, rfl, by decide, tyX4_ok 3 (by decide), Or.inr ⟨rfl, rfl, rfl, jm_in1 (List.mem_of_getElem? (i := 178) rfl) rfl⟩⟩
theorem pG_init_36 : jm_FP mG_init 36 4 4 (.int) := ⟨_, rfl, by decide, tyX4_ok 4 (by decide), Or.inl ⟨rfl, Or.inl (jm_in1 (List.mem_of_getElem? (i := 179) rfl) rfl)⟩⟩
theorem pG_init_40 : jm_FP mG_init 40 4 5 (.long) := ⟨_, rfl, by decide, tyX4_ok 5 (by decide), Or.inl ⟨rfl, Or.inl (jm_in1 (List.mem_of_getElem? (i := 180) rfl) rfl)⟩⟩
theorem pG_init_44 : jm_FP mG_init 44 4 6 (.long) := ⟨_, rfl, by decide, tyX4_ok 6 (by decide), Or.inl ⟨rfl, Or.inl (jm_in1 (List.mem_of_getElem? (i := 181) rfl) rfl)⟩⟩
theorem pG_init_47 : jm_FP mG_init 47 4 7 (.boolean) := ⟨_, rfl, by decide, tyX4_ok 7 (by decide), Or.inl ⟨rfl, Or.inl (jm_in1 (List.mem_of_getElem? (i := 182) rfl) rfl)⟩⟩
theorem pG_init_51 : jm_FP mG_init 51 4 8 (.int) := ⟨_, rfl, by decide, tyX4_ok 8 (by decide), Or.inl ⟨rfl, Or.inl (jm_in1 (List.mem_of_getElem? (i := 183) rfl) rfl)⟩⟩
theorem pN_append_28 : jm_FP mN_append 28 0 5 (.int) := ⟨_, rfl, by decide, tyX0_ok 5 (by decide), Or.inl ⟨rfl, Or.inl (jm_in1 (List.mem_of_getElem? (i := 62) rfl) rfl)⟩⟩
theorem pN_append_31 : jm_FP mN_append 31 0 6 (.int) := ⟨_, rfl, by decide, tyX0_ok 6 (by decide), Or.inl ⟨rfl, Or.inl (jm_in1 (List.mem_of_getElem? (i := 63) rfl) rfl)⟩⟩
theorem pN_append_34 : jm_FP mN_append 34 0 7 (.object "GoalOrder$Node") := ⟨_, rfl, by decide, tyX0_ok 7 (by decide), Or.inl ⟨rfl, Or.inl (jm_in1 (List.mem_of_getElem? (i := 66) rfl) rfl)⟩⟩
theorem pN_append_38 : jm_FP mN_append 38 0 8 (.object "GoalOrder$Node") := ⟨_, rfl, by decide, tyX0_ok 8 (by decide), Or.inl ⟨rfl, Or.inl (jm_in1 (List.mem_of_getElem? (i := 68) rfl) rfl)⟩⟩
theorem pN_append_41 : jm_FP mN_append 41 0 9 (.object "GoalOrder$Node") := ⟨_, rfl, by decide, tyX0_ok 9 (by decide), Or.inl ⟨rfl, Or.inl (jm_in1 (List.mem_of_getElem? (i := 70) rfl) rfl)⟩⟩
theorem pN_append_44 : jm_FP mN_append 44 0 10 (.object "GoalOrder$Node") := ⟨_, rfl, by decide, tyX0_ok 10 (by decide), Or.inl ⟨rfl, Or.inl (jm_in1 (List.mem_of_getElem? (i := 71) rfl) rfl)⟩⟩
theorem pN_become_19 : jm_FP mN_become 19 0 3 (.int) := ⟨_, rfl, by decide, tyX0_ok 3 (by decide), Or.inl ⟨rfl, Or.inl (jm_in1 (List.mem_of_getElem? (i := 56) rfl) rfl)⟩⟩
theorem pN_become_22 : jm_FP mN_become 22 0 4 (.int) := ⟨_, rfl, by decide, tyX0_ok 4 (by decide), Or.inl ⟨rfl, Or.inl (jm_in1 (List.mem_of_getElem? (i := 59) rfl) rfl)⟩⟩
theorem pN_become_25 : jm_FP mN_become 25 0 2 (.int) := ⟨_, rfl, by decide, tyX0_ok 2 (by decide), Or.inl ⟨rfl, Or.inl (jm_in1 (List.mem_of_getElem? (i := 53) rfl) rfl)⟩⟩
theorem pN_become_28 : jm_FP mN_become 28 0 5 (.int) := ⟨_, rfl, by decide, tyX0_ok 5 (by decide), Or.inl ⟨rfl, Or.inl (jm_in1 (List.mem_of_getElem? (i := 62) rfl) rfl)⟩⟩
theorem pN_become_31 : jm_FP mN_become 31 0 6 (.int) := ⟨_, rfl, by decide, tyX0_ok 6 (by decide), Or.inl ⟨rfl, Or.inl (jm_in1 (List.mem_of_getElem? (i := 63) rfl) rfl)⟩⟩
theorem pN_become_34 : jm_FP mN_become 34 0 7 (.object "GoalOrder$Node") := ⟨_, rfl, by decide, tyX0_ok 7 (by decide), Or.inl ⟨rfl, Or.inl (jm_in1 (List.mem_of_getElem? (i := 66) rfl) rfl)⟩⟩
theorem pN_become_38 : jm_FP mN_become 38 0 8 (.object "GoalOrder$Node") := ⟨_, rfl, by decide, tyX0_ok 8 (by decide), Or.inl ⟨rfl, Or.inl (jm_in1 (List.mem_of_getElem? (i := 68) rfl) rfl)⟩⟩
theorem pN_become_41 : jm_FP mN_become 41 0 9 (.object "GoalOrder$Node") := ⟨_, rfl, by decide, tyX0_ok 9 (by decide), Or.inl ⟨rfl, Or.inl (jm_in1 (List.mem_of_getElem? (i := 70) rfl) rfl)⟩⟩
theorem pN_become_44 : jm_FP mN_become 44 0 10 (.object "GoalOrder$Node") := ⟨_, rfl, by decide, tyX0_ok 10 (by decide), Or.inl ⟨rfl, Or.inl (jm_in1 (List.mem_of_getElem? (i := 71) rfl) rfl)⟩⟩
theorem pN_become_47 : jm_FP mN_become 47 0 11 (.long) := ⟨_, rfl, by decide, tyX0_ok 11 (by decide), Or.inl ⟨rfl, Or.inl (jm_in1 (List.mem_of_getElem? (i := 73) rfl) rfl)⟩⟩
theorem pN_become_51 : jm_FP mN_become 51 0 12 (.long) := ⟨_, rfl, by decide, tyX0_ok 12 (by decide), Or.inl ⟨rfl, Or.inl (jm_in1 (List.mem_of_getElem? (i := 76) rfl) rfl)⟩⟩
theorem pN_takeVariables_25 : jm_FP mN_takeVariables 25 0 2 (.int) := ⟨_, rfl, by decide, tyX0_ok 2 (by decide), Or.inl ⟨rfl, Or.inl (jm_in1 (List.mem_of_getElem? (i := 53) rfl) rfl)⟩⟩
theorem pN_takeVariables_47 : jm_FP mN_takeVariables 47 0 11 (.long) := ⟨_, rfl, by decide, tyX0_ok 11 (by decide), Or.inl ⟨rfl, Or.inl (jm_in1 (List.mem_of_getElem? (i := 73) rfl) rfl)⟩⟩
theorem pN_init_9 : jm_FP mN_init 9 0 0 (.int) := ⟨_, rfl, by decide, tyX0_ok 0 (by decide), Or.inr ⟨rfl, rfl, rfl, jm_in1 (List.mem_of_getElem? (i := 47) rfl) rfl⟩⟩
theorem pN_init_15 : jm_FP mN_init 15 0 1 (.array .int) := ⟨_, rfl, by decide, tyX0_ok 1 (by decide), Or.inr ⟨rfl, rfl, rfl, jm_in1 (List.mem_of_getElem? (i := 51) rfl) rfl⟩⟩
theorem pP_define_21 : jm_FP mP_define 21 1 3 (.int) := ⟨_, rfl, by decide, tyX1_ok 3 (by decide), Or.inl ⟨rfl, Or.inl (jm_in1 (List.mem_of_getElem? (i := 24) rfl) rfl)⟩⟩
theorem pP_init_9 : jm_FP mP_init 9 1 0 (.array .int) := ⟨_, rfl, by decide, tyX1_ok 0 (by decide), Or.inr ⟨rfl, rfl, rfl, jm_in1 (List.mem_of_getElem? (i := 21) rfl) rfl⟩⟩
theorem pP_init_15 : jm_FP mP_init 15 1 1 (.array .int) := ⟨_, rfl, by decide, tyX1_ok 1 (by decide), Or.inr ⟨rfl, rfl, rfl, jm_in1 (List.mem_of_getElem? (i := 22) rfl) rfl⟩⟩
theorem pP_init_18 : jm_FP mP_init 18 1 2 (.array .int) := ⟨_, rfl, by decide, tyX1_ok 2 (by decide), Or.inr ⟨rfl, rfl, rfl, jm_in1 (List.mem_of_getElem? (i := 23) rfl) rfl⟩⟩
theorem pP_init_21 : jm_FP mP_init 21 1 3 (.int) := ⟨_, rfl, by decide, tyX1_ok 3 (by decide), Or.inl ⟨rfl, Or.inl (jm_in1 (List.mem_of_getElem? (i := 24) rfl) rfl)⟩⟩
theorem pT_grow_31 : jm_FP mT_grow 31 2 2 (.int) := ⟨_, rfl, by decide, tyX2_ok 2 (by decide), Or.inl ⟨rfl, Or.inl (jm_in1 (List.mem_of_getElem? (i := 147) rfl) rfl)⟩⟩
theorem pT_grow_43 : jm_FP mT_grow 43 0 12 (.long) := ⟨_, rfl, by decide, tyX0_ok 12 (by decide), Or.inl ⟨rfl, Or.inl (jm_in1 (List.mem_of_getElem? (i := 77) rfl) rfl)⟩⟩
theorem pT_reset_31 : jm_FP mT_reset 31 2 2 (.int) := ⟨_, rfl, by decide, tyX2_ok 2 (by decide), Or.inl ⟨rfl, Or.inl (jm_in1 (List.mem_of_getElem? (i := 147) rfl) rfl)⟩⟩
theorem pT_spreadVariables_39 : jm_FP mT_spreadVariables 39 0 11 (.long) := ⟨_, rfl, by decide, tyX0_ok 11 (by decide), Or.inl ⟨rfl, Or.inl (jm_in1 (List.mem_of_getElem? (i := 74) rfl) rfl)⟩⟩
theorem pT_spreadVariables_43 : jm_FP mT_spreadVariables 43 0 12 (.long) := ⟨_, rfl, by decide, tyX0_ok 12 (by decide), Or.inl ⟨rfl, Or.inl (jm_in1 (List.mem_of_getElem? (i := 77) rfl) rfl)⟩⟩
theorem pT_init_14 : jm_FP mT_init 14 2 0 (.object "GoalOrder$Node") := ⟨_, rfl, by decide, tyX2_ok 0 (by decide), Or.inr ⟨rfl, rfl, rfl, jm_in1 (List.mem_of_getElem? (i := 144) rfl) rfl⟩⟩
theorem pT_init_20 : jm_FP mT_init 20 2 1 (.array (.object "GoalOrder$Node")) := ⟨_, rfl, by decide, tyX2_ok 1 (by decide), Or.inr ⟨rfl, rfl, rfl, jm_in1 (List.mem_of_getElem? (i := 146) rfl) rfl⟩⟩
theorem pR_canDo_19 : jm_FP mR_canDo 19 3 2 (.int) := ⟨_, rfl, by decide, tyX3_ok 2 (by decide), Or.inl ⟨rfl, Or.inl (jm_in1 (List.mem_of_getElem? (i := 163) rfl) rfl)⟩⟩
theorem pR_canDo_23 : jm_FP mR_canDo 23 3 3 (.boolean) := ⟨_, rfl, by decide, tyX3_ok 3 (by decide), Or.inl ⟨rfl, Or.inl (jm_in1 (List.mem_of_getElem? (i := 164) rfl) rfl)⟩⟩
theorem pR_canDo_31 : jm_FP mR_canDo 31 0 13 (.long) := ⟨_, rfl, by decide, tyX0_ok 13 (by decide), Or.inl ⟨rfl, Or.inl (jm_in1 (List.mem_of_getElem? (i := 80) rfl) rfl)⟩⟩
theorem pR_canDo_36 : jm_FP mR_canDo 36 0 14 (.long) := ⟨_, rfl, by decide, tyX0_ok 14 (by decide), Or.inl ⟨rfl, Or.inl (jm_in1 (List.mem_of_getElem? (i := 83) rfl) rfl)⟩⟩
theorem pR_canDo_42 : jm_FP mR_canDo 42 0 16 (.int) := ⟨_, rfl, by decide, tyX0_ok 16 (by decide), Or.inl ⟨rfl, Or.inl (jm_in1 (List.mem_of_getElem? (i := 87) rfl) rfl)⟩⟩
theorem pR_canDoPart_42 : jm_FP mR_canDoPart 42 0 16 (.int) := ⟨_, rfl, by decide, tyX0_ok 16 (by decide), Or.inl ⟨rfl, Or.inl (jm_in1 (List.mem_of_getElem? (i := 87) rfl) rfl)⟩⟩
theorem pR_canDoRow_42 : jm_FP mR_canDoRow 42 0 16 (.int) := ⟨_, rfl, by decide, tyX0_ok 16 (by decide), Or.inl ⟨rfl, Or.inl (jm_in1 (List.mem_of_getElem? (i := 87) rfl) rfl)⟩⟩
theorem pR_canDoRow_68 : jm_FP mR_canDoRow 68 0 17 (.boolean) := ⟨_, rfl, by decide, tyX0_ok 17 (by decide), Or.inl ⟨rfl, Or.inl (jm_in1 (List.mem_of_getElem? (i := 89) rfl) rfl)⟩⟩
theorem pR_canDoRow_71 : jm_FP mR_canDoRow 71 0 19 (.object "GoalOrder$Node") := ⟨_, rfl, by decide, tyX0_ok 19 (by decide), Or.inl ⟨rfl, Or.inl (jm_in1 (List.mem_of_getElem? (i := 92) rfl) rfl)⟩⟩
theorem pR_canDoRow_77 : jm_FP mR_canDoRow 77 0 18 (.object "GoalOrder$Node") := ⟨_, rfl, by decide, tyX0_ok 18 (by decide), Or.inl ⟨rfl, Or.inl (jm_in1 (List.mem_of_getElem? (i := 90) rfl) rfl)⟩⟩
theorem pR_canJoin_36 : jm_FP mR_canJoin 36 0 14 (.long) := ⟨_, rfl, by decide, tyX0_ok 14 (by decide), Or.inl ⟨rfl, Or.inl (jm_in1 (List.mem_of_getElem? (i := 83) rfl) rfl)⟩⟩
theorem pR_doLeftmost_36 : jm_FP mR_doLeftmost 36 0 14 (.long) := ⟨_, rfl, by decide, tyX0_ok 14 (by decide), Or.inl ⟨rfl, Or.inl (jm_in1 (List.mem_of_getElem? (i := 83) rfl) rfl)⟩⟩
theorem pR_doLeftmost_68 : jm_FP mR_doLeftmost 68 0 17 (.boolean) := ⟨_, rfl, by decide, tyX0_ok 17 (by decide), Or.inl ⟨rfl, Or.inl (jm_in1 (List.mem_of_getElem? (i := 89) rfl) rfl)⟩⟩
theorem pR_run_15 : jm_FP mR_run 15 3 1 (.long) := ⟨_, rfl, by decide, tyX3_ok 1 (by decide), Or.inl ⟨rfl, Or.inl (jm_in1 (List.mem_of_getElem? (i := 162) rfl) rfl)⟩⟩
theorem pR_run_19 : jm_FP mR_run 19 3 2 (.int) := ⟨_, rfl, by decide, tyX3_ok 2 (by decide), Or.inl ⟨rfl, Or.inl (jm_in1 (List.mem_of_getElem? (i := 163) rfl) rfl)⟩⟩
theorem pR_run_23 : jm_FP mR_run 23 3 3 (.boolean) := ⟨_, rfl, by decide, tyX3_ok 3 (by decide), Or.inl ⟨rfl, Or.inl (jm_in1 (List.mem_of_getElem? (i := 164) rfl) rfl)⟩⟩
theorem pR_settle_36 : jm_FP mR_settle 36 0 14 (.long) := ⟨_, rfl, by decide, tyX0_ok 14 (by decide), Or.inl ⟨rfl, Or.inl (jm_in1 (List.mem_of_getElem? (i := 83) rfl) rfl)⟩⟩
theorem pR_settle_168 : jm_FP mR_settle 168 0 15 (.int) := ⟨_, rfl, by decide, tyX0_ok 15 (by decide), Or.inl ⟨rfl, Or.inl (jm_in1 (List.mem_of_getElem? (i := 86) rfl) rfl)⟩⟩
theorem pR_init_9 : jm_FP mR_init 9 3 0 (.object "GoalOrder$Predicates") := ⟨_, rfl, by decide, tyX3_ok 0 (by decide), Or.inr ⟨rfl, rfl, rfl, jm_in1 (List.mem_of_getElem? (i := 161) rfl) rfl⟩⟩
theorem pM_add_115 : jm_FP mM_add 115 5 0 (.int) := ⟨_, rfl, by decide, tyX5_ok 0 (by decide), Or.inl ⟨rfl, Or.inl (jm_in2 (List.mem_of_getElem? (i := 224) rfl) rfl)⟩⟩
theorem pM_add_121 : jm_FP mM_add 121 5 17 (.int) := ⟨_, rfl, by decide, tyX5_ok 17 (by decide), Or.inl ⟨rfl, Or.inl (jm_in3 (List.mem_of_getElem? (i := 1) rfl) rfl)⟩⟩
theorem pM_begin_118 : jm_FP mM_begin 118 5 5 (.int) := ⟨_, rfl, by decide, tyX5_ok 5 (by decide), Or.inl ⟨rfl, Or.inl (jm_in2 (List.mem_of_getElem? (i := 229) rfl) rfl)⟩⟩
theorem pM_begin_121 : jm_FP mM_begin 121 5 17 (.int) := ⟨_, rfl, by decide, tyX5_ok 17 (by decide), Or.inl ⟨rfl, Or.inl (jm_in3 (List.mem_of_getElem? (i := 1) rfl) rfl)⟩⟩
theorem pM_begin_124 : jm_FP mM_begin 124 5 18 (.long) := ⟨_, rfl, by decide, tyX5_ok 18 (by decide), Or.inl ⟨rfl, Or.inl (jm_in3 (List.mem_of_getElem? (i := 2) rfl) rfl)⟩⟩
theorem pM_begin_128 : jm_FP mM_begin 128 5 19 (.long) := ⟨_, rfl, by decide, tyX5_ok 19 (by decide), Or.inl ⟨rfl, Or.inl (jm_in3 (List.mem_of_getElem? (i := 3) rfl) rfl)⟩⟩
theorem pM_changed_108 : jm_FP mM_changed 108 5 41 (.int) := ⟨_, rfl, by decide, tyX5_ok 41 (by decide), Or.inl ⟨rfl, Or.inl (jm_in3 (List.mem_of_getElem? (i := 25) rfl) rfl)⟩⟩
theorem pM_changed_138 : jm_FP mM_changed 138 5 40 (.boolean) := ⟨_, rfl, by decide, tyX5_ok 40 (by decide), Or.inl ⟨rfl, Or.inl (jm_in3 (List.mem_of_getElem? (i := 24) rfl) rfl)⟩⟩
theorem pM_clear_115 : jm_FP mM_clear 115 5 0 (.int) := ⟨_, rfl, by decide, tyX5_ok 0 (by decide), Or.inl ⟨rfl, Or.inl (jm_in2 (List.mem_of_getElem? (i := 224) rfl) rfl)⟩⟩
theorem pM_compared_115 : jm_FP mM_compared 115 5 0 (.int) := ⟨_, rfl, by decide, tyX5_ok 0 (by decide), Or.inl ⟨rfl, Or.inl (jm_in2 (List.mem_of_getElem? (i := 224) rfl) rfl)⟩⟩
theorem pM_ended_193 : jm_FP mM_ended 193 5 38 (.int) := ⟨_, rfl, by decide, tyX5_ok 38 (by decide), Or.inl ⟨rfl, Or.inl (jm_in3 (List.mem_of_getElem? (i := 22) rfl) rfl)⟩⟩
theorem pM_given_115 : jm_FP mM_given 115 5 0 (.int) := ⟨_, rfl, by decide, tyX5_ok 0 (by decide), Or.inl ⟨rfl, Or.inl (jm_in2 (List.mem_of_getElem? (i := 224) rfl) rfl)⟩⟩
theorem pM_given_124 : jm_FP mM_given 124 5 18 (.long) := ⟨_, rfl, by decide, tyX5_ok 18 (by decide), Or.inl ⟨rfl, Or.inl (jm_in3 (List.mem_of_getElem? (i := 2) rfl) rfl)⟩⟩
theorem pM_ground_115 : jm_FP mM_ground 115 5 0 (.int) := ⟨_, rfl, by decide, tyX5_ok 0 (by decide), Or.inl ⟨rfl, Or.inl (jm_in2 (List.mem_of_getElem? (i := 224) rfl) rfl)⟩⟩
theorem pM_made_118 : jm_FP mM_made 118 5 5 (.int) := ⟨_, rfl, by decide, tyX5_ok 5 (by decide), Or.inl ⟨rfl, Or.inl (jm_in2 (List.mem_of_getElem? (i := 229) rfl) rfl)⟩⟩
theorem pM_mode_115 : jm_FP mM_mode 115 5 0 (.int) := ⟨_, rfl, by decide, tyX5_ok 0 (by decide), Or.inl ⟨rfl, Or.inl (jm_in2 (List.mem_of_getElem? (i := 224) rfl) rfl)⟩⟩
theorem pM_node_115 : jm_FP mM_node 115 5 0 (.int) := ⟨_, rfl, by decide, tyX5_ok 0 (by decide), Or.inl ⟨rfl, Or.inl (jm_in2 (List.mem_of_getElem? (i := 224) rfl) rfl)⟩⟩
theorem pM_order_108 : jm_FP mM_order 108 5 41 (.int) := ⟨_, rfl, by decide, tyX5_ok 41 (by decide), Or.inl ⟨rfl, Or.inl (jm_in3 (List.mem_of_getElem? (i := 25) rfl) rfl)⟩⟩
theorem pM_order_115 : jm_FP mM_order 115 5 0 (.int) := ⟨_, rfl, by decide, tyX5_ok 0 (by decide), Or.inl ⟨rfl, Or.inl (jm_in2 (List.mem_of_getElem? (i := 224) rfl) rfl)⟩⟩
theorem pM_order_138 : jm_FP mM_order 138 5 40 (.boolean) := ⟨_, rfl, by decide, tyX5_ok 40 (by decide), Or.inl ⟨rfl, Or.inl (jm_in3 (List.mem_of_getElem? (i := 24) rfl) rfl)⟩⟩
theorem pM_order_186 : jm_FP mM_order 186 5 39 (.int) := ⟨_, rfl, by decide, tyX5_ok 39 (by decide), Or.inl ⟨rfl, Or.inl (jm_in3 (List.mem_of_getElem? (i := 23) rfl) rfl)⟩⟩
theorem pM_order_193 : jm_FP mM_order 193 5 38 (.int) := ⟨_, rfl, by decide, tyX5_ok 38 (by decide), Or.inl ⟨rfl, Or.inl (jm_in3 (List.mem_of_getElem? (i := 22) rfl) rfl)⟩⟩
theorem pM_outer_115 : jm_FP mM_outer 115 5 0 (.int) := ⟨_, rfl, by decide, tyX5_ok 0 (by decide), Or.inl ⟨rfl, Or.inl (jm_in2 (List.mem_of_getElem? (i := 224) rfl) rfl)⟩⟩
theorem pM_part_115 : jm_FP mM_part 115 5 0 (.int) := ⟨_, rfl, by decide, tyX5_ok 0 (by decide), Or.inl ⟨rfl, Or.inl (jm_in2 (List.mem_of_getElem? (i := 224) rfl) rfl)⟩⟩
theorem pM_predicate_115 : jm_FP mM_predicate 115 5 0 (.int) := ⟨_, rfl, by decide, tyX5_ok 0 (by decide), Or.inl ⟨rfl, Or.inl (jm_in2 (List.mem_of_getElem? (i := 224) rfl) rfl)⟩⟩
theorem pM_predicate_142 : jm_FP mM_predicate 142 5 1 (.int) := ⟨_, rfl, by decide, tyX5_ok 1 (by decide), Or.inl ⟨rfl, Or.inl (jm_in2 (List.mem_of_getElem? (i := 225) rfl) rfl)⟩⟩
theorem pM_put_115 : jm_FP mM_put 115 5 0 (.int) := ⟨_, rfl, by decide, tyX5_ok 0 (by decide), Or.inl ⟨rfl, Or.inl (jm_in2 (List.mem_of_getElem? (i := 224) rfl) rfl)⟩⟩
theorem pM_put_121 : jm_FP mM_put 121 5 17 (.int) := ⟨_, rfl, by decide, tyX5_ok 17 (by decide), Or.inl ⟨rfl, Or.inl (jm_in3 (List.mem_of_getElem? (i := 1) rfl) rfl)⟩⟩
theorem pM_stuck_115 : jm_FP mM_stuck 115 5 0 (.int) := ⟨_, rfl, by decide, tyX5_ok 0 (by decide), Or.inl ⟨rfl, Or.inl (jm_in2 (List.mem_of_getElem? (i := 224) rfl) rfl)⟩⟩
theorem pM_tried_186 : jm_FP mM_tried 186 5 39 (.int) := ⟨_, rfl, by decide, tyX5_ok 39 (by decide), Or.inl ⟨rfl, Or.inl (jm_in3 (List.mem_of_getElem? (i := 23) rfl) rfl)⟩⟩
theorem pM_tried_193 : jm_FP mM_tried 193 5 38 (.int) := ⟨_, rfl, by decide, tyX5_ok 38 (by decide), Or.inl ⟨rfl, Or.inl (jm_in3 (List.mem_of_getElem? (i := 22) rfl) rfl)⟩⟩
theorem pM_wanted_115 : jm_FP mM_wanted 115 5 0 (.int) := ⟨_, rfl, by decide, tyX5_ok 0 (by decide), Or.inl ⟨rfl, Or.inl (jm_in2 (List.mem_of_getElem? (i := 224) rfl) rfl)⟩⟩
theorem pM_wanted_128 : jm_FP mM_wanted 128 5 19 (.long) := ⟨_, rfl, by decide, tyX5_ok 19 (by decide), Or.inl ⟨rfl, Or.inl (jm_in3 (List.mem_of_getElem? (i := 3) rfl) rfl)⟩⟩
theorem pM_init_7 : jm_FP mM_init 7 5 2 (.array .int) := ⟨_, rfl, by decide, tyX5_ok 2 (by decide), Or.inr ⟨rfl, rfl, rfl, jm_in2 (List.mem_of_getElem? (i := 226) rfl) rfl⟩⟩
theorem pM_init_13 : jm_FP mM_init 13 5 3 (.array .int) := ⟨_, rfl, by decide, tyX5_ok 3 (by decide), Or.inr ⟨rfl, rfl, rfl, jm_in2 (List.mem_of_getElem? (i := 227) rfl) rfl⟩⟩
theorem pM_init_16 : jm_FP mM_init 16 5 4 (.array .int) := ⟨_, rfl, by decide, tyX5_ok 4 (by decide), Or.inr ⟨rfl, rfl, rfl, jm_in2 (List.mem_of_getElem? (i := 228) rfl) rfl⟩⟩
theorem pM_init_19 : jm_FP mM_init 19 5 6 (.array .int) := ⟨_, rfl, by decide, tyX5_ok 6 (by decide), Or.inr ⟨rfl, rfl, rfl, jm_in2 (List.mem_of_getElem? (i := 230) rfl) rfl⟩⟩
theorem pM_init_22 : jm_FP mM_init 22 5 7 (.array .int) := ⟨_, rfl, by decide, tyX5_ok 7 (by decide), Or.inr ⟨rfl, rfl, rfl, jm_in2 (List.mem_of_getElem? (i := 231) rfl) rfl⟩⟩
theorem pM_init_25 : jm_FP mM_init 25 5 8 (.array .int) := ⟨_, rfl, by decide, tyX5_ok 8 (by decide), Or.inr ⟨rfl, rfl, rfl, jm_in2 (List.mem_of_getElem? (i := 232) rfl) rfl⟩⟩
theorem pM_init_28 : jm_FP mM_init 28 5 9 (.array .int) := ⟨_, rfl, by decide, tyX5_ok 9 (by decide), Or.inr ⟨rfl, rfl, rfl, jm_in2 (List.mem_of_getElem? (i := 233) rfl) rfl⟩⟩
theorem pM_init_31 : jm_FP mM_init 31 5 10 (.array .int) := ⟨_, rfl, by decide, tyX5_ok 10 (by decide), Or.inr ⟨rfl, rfl, rfl, jm_in2 (List.mem_of_getElem? (i := 234) rfl) rfl⟩⟩
theorem pM_init_34 : jm_FP mM_init 34 5 11 (.array .int) := ⟨_, rfl, by decide, tyX5_ok 11 (by decide), Or.inr ⟨rfl, rfl, rfl, jm_in2 (List.mem_of_getElem? (i := 235) rfl) rfl⟩⟩
theorem pM_init_37 : jm_FP mM_init 37 5 12 (.array .int) := ⟨_, rfl, by decide, tyX5_ok 12 (by decide), Or.inr ⟨rfl, rfl, rfl, jm_in2 (List.mem_of_getElem? (i := 236) rfl) rfl⟩⟩
theorem pM_init_40 : jm_FP mM_init 40 5 13 (.array .int) := ⟨_, rfl, by decide, tyX5_ok 13 (by decide), Or.inr ⟨rfl, rfl, rfl, jm_in2 (List.mem_of_getElem? (i := 237) rfl) rfl⟩⟩
theorem pM_init_43 : jm_FP mM_init 43 5 14 (.array .int) := ⟨_, rfl, by decide, tyX5_ok 14 (by decide), Or.inr ⟨rfl, rfl, rfl, jm_in2 (List.mem_of_getElem? (i := 238) rfl) rfl⟩⟩
theorem pM_init_46 : jm_FP mM_init 46 5 15 (.array .int) := ⟨_, rfl, by decide, tyX5_ok 15 (by decide), Or.inr ⟨rfl, rfl, rfl, jm_in2 (List.mem_of_getElem? (i := 239) rfl) rfl⟩⟩
theorem pM_init_49 : jm_FP mM_init 49 5 16 (.array .int) := ⟨_, rfl, by decide, tyX5_ok 16 (by decide), Or.inr ⟨rfl, rfl, rfl, jm_in3 (List.mem_of_getElem? (i := 0) rfl) rfl⟩⟩
theorem pM_init_52 : jm_FP mM_init 52 5 20 (.array .int) := ⟨_, rfl, by decide, tyX5_ok 20 (by decide), Or.inr ⟨rfl, rfl, rfl, jm_in3 (List.mem_of_getElem? (i := 4) rfl) rfl⟩⟩
theorem pM_init_55 : jm_FP mM_init 55 5 21 (.array .long) := ⟨_, rfl, by decide, tyX5_ok 21 (by decide), Or.inr ⟨rfl, rfl, rfl, jm_in3 (List.mem_of_getElem? (i := 5) rfl) rfl⟩⟩
theorem pM_init_59 : jm_FP mM_init 59 5 22 (.array .long) := ⟨_, rfl, by decide, tyX5_ok 22 (by decide), Or.inr ⟨rfl, rfl, rfl, jm_in3 (List.mem_of_getElem? (i := 6) rfl) rfl⟩⟩
theorem pM_init_62 : jm_FP mM_init 62 5 23 (.array .long) := ⟨_, rfl, by decide, tyX5_ok 23 (by decide), Or.inr ⟨rfl, rfl, rfl, jm_in3 (List.mem_of_getElem? (i := 7) rfl) rfl⟩⟩
theorem pM_init_65 : jm_FP mM_init 65 5 24 (.array .long) := ⟨_, rfl, by decide, tyX5_ok 24 (by decide), Or.inr ⟨rfl, rfl, rfl, jm_in3 (List.mem_of_getElem? (i := 8) rfl) rfl⟩⟩
theorem pM_init_68 : jm_FP mM_init 68 5 25 (.array .boolean) := ⟨_, rfl, by decide, tyX5_ok 25 (by decide), Or.inr ⟨rfl, rfl, rfl, jm_in3 (List.mem_of_getElem? (i := 9) rfl) rfl⟩⟩
theorem pM_init_72 : jm_FP mM_init 72 5 26 (.array .boolean) := ⟨_, rfl, by decide, tyX5_ok 26 (by decide), Or.inr ⟨rfl, rfl, rfl, jm_in3 (List.mem_of_getElem? (i := 10) rfl) rfl⟩⟩
theorem pM_init_75 : jm_FP mM_init 75 5 27 (.array .int) := ⟨_, rfl, by decide, tyX5_ok 27 (by decide), Or.inr ⟨rfl, rfl, rfl, jm_in3 (List.mem_of_getElem? (i := 11) rfl) rfl⟩⟩
theorem pM_init_78 : jm_FP mM_init 78 5 28 (.array .int) := ⟨_, rfl, by decide, tyX5_ok 28 (by decide), Or.inr ⟨rfl, rfl, rfl, jm_in3 (List.mem_of_getElem? (i := 12) rfl) rfl⟩⟩
theorem pM_init_81 : jm_FP mM_init 81 5 29 (.array .int) := ⟨_, rfl, by decide, tyX5_ok 29 (by decide), Or.inr ⟨rfl, rfl, rfl, jm_in3 (List.mem_of_getElem? (i := 13) rfl) rfl⟩⟩
theorem pM_init_84 : jm_FP mM_init 84 5 30 (.array .int) := ⟨_, rfl, by decide, tyX5_ok 30 (by decide), Or.inr ⟨rfl, rfl, rfl, jm_in3 (List.mem_of_getElem? (i := 14) rfl) rfl⟩⟩
theorem pM_init_87 : jm_FP mM_init 87 5 31 (.array .int) := ⟨_, rfl, by decide, tyX5_ok 31 (by decide), Or.inr ⟨rfl, rfl, rfl, jm_in3 (List.mem_of_getElem? (i := 15) rfl) rfl⟩⟩
theorem pM_init_90 : jm_FP mM_init 90 5 32 (.array .int) := ⟨_, rfl, by decide, tyX5_ok 32 (by decide), Or.inr ⟨rfl, rfl, rfl, jm_in3 (List.mem_of_getElem? (i := 16) rfl) rfl⟩⟩
theorem pM_init_93 : jm_FP mM_init 93 5 33 (.array .int) := ⟨_, rfl, by decide, tyX5_ok 33 (by decide), Or.inr ⟨rfl, rfl, rfl, jm_in3 (List.mem_of_getElem? (i := 17) rfl) rfl⟩⟩
theorem pM_init_96 : jm_FP mM_init 96 5 34 (.array .int) := ⟨_, rfl, by decide, tyX5_ok 34 (by decide), Or.inr ⟨rfl, rfl, rfl, jm_in3 (List.mem_of_getElem? (i := 18) rfl) rfl⟩⟩
theorem pM_init_99 : jm_FP mM_init 99 5 35 (.array .long) := ⟨_, rfl, by decide, tyX5_ok 35 (by decide), Or.inr ⟨rfl, rfl, rfl, jm_in3 (List.mem_of_getElem? (i := 19) rfl) rfl⟩⟩
theorem pM_init_102 : jm_FP mM_init 102 5 36 (.array .long) := ⟨_, rfl, by decide, tyX5_ok 36 (by decide), Or.inr ⟨rfl, rfl, rfl, jm_in3 (List.mem_of_getElem? (i := 20) rfl) rfl⟩⟩
theorem pM_init_105 : jm_FP mM_init 105 5 37 (.array .long) := ⟨_, rfl, by decide, tyX5_ok 37 (by decide), Or.inr ⟨rfl, rfl, rfl, jm_in3 (List.mem_of_getElem? (i := 21) rfl) rfl⟩⟩
theorem pM_init_108 : jm_FP mM_init 108 5 41 (.int) := ⟨_, rfl, by decide, tyX5_ok 41 (by decide), Or.inl ⟨rfl, Or.inl (jm_in3 (List.mem_of_getElem? (i := 25) rfl) rfl)⟩⟩
/-! links of methods -/
theorem cG_9 : jm_ML "GoalOrder" 9 mP_init := Or.inl (jm_in1 (List.mem_of_getElem? (i := 17) rfl) rfl)
theorem cG_18 : jm_ML "GoalOrder" 18 mT_init := Or.inl (jm_in1 (List.mem_of_getElem? (i := 37) rfl) rfl)
theorem cG_25 : jm_ML "GoalOrder" 25 mR_init := Or.inl (jm_in1 (List.mem_of_getElem? (i := 157) rfl) rfl)
theorem cG_54 : jm_ML "GoalOrder" 54 mP_define := Or.inl (jm_in1 (List.mem_of_getElem? (i := 207) rfl) rfl)
theorem cG_58 : jm_ML "GoalOrder" 58 mP_defineMode := Or.inl (jm_in1 (List.mem_of_getElem? (i := 215) rfl) rfl)
theorem cG_62 : jm_ML "GoalOrder" 62 mG_forgetOrdering := Or.inl (jm_in1 (List.mem_of_getElem? (i := 223) rfl) rfl)
theorem cG_65 : jm_ML "GoalOrder" 65 mT_reset := Or.inl (jm_in1 (List.mem_of_getElem? (i := 231) rfl) rfl)
theorem cG_68 : jm_ML "GoalOrder" 68 mG_isVariable := Or.inl (jm_in1 (List.mem_of_getElem? (i := 236) rfl) rfl)
theorem cG_72 : jm_ML "GoalOrder" 72 mT_find := Or.inl (jm_in2 (List.mem_of_getElem? (i := 3) rfl) rfl)
theorem cG_76 : jm_ML "GoalOrder" 76 mT_isFull := Or.inl (jm_in2 (List.mem_of_getElem? (i := 7) rfl) rfl)
theorem cG_80 : jm_ML "GoalOrder" 80 mN_takesPart := Or.inl (jm_in2 (List.mem_of_getElem? (i := 11) rfl) rfl)
theorem cG_85 : jm_ML "GoalOrder" 85 mG_fits := Or.inl (jm_in2 (List.mem_of_getElem? (i := 19) rfl) rfl)
theorem cG_89 : jm_ML "GoalOrder" 89 mT_grow := Or.inl (jm_in2 (List.mem_of_getElem? (i := 32) rfl) rfl)
theorem cG_93 : jm_ML "GoalOrder" 93 mG_holds := Or.inl (jm_in2 (List.mem_of_getElem? (i := 53) rfl) rfl)
theorem cG_101 : jm_ML "GoalOrder" 101 mR_run := Or.inl (jm_in2 (List.mem_of_getElem? (i := 64) rfl) rfl)
theorem cG_116 : jm_ML "GoalOrder" 116 mG_leastOf := Or.inl (jm_in2 (List.mem_of_getElem? (i := 162) rfl) rfl)
theorem cG_126 : jm_ML "GoalOrder" 126 mN_kthDone := Or.inl (jm_in2 (List.mem_of_getElem? (i := 173) rfl) rfl)
theorem cG_129 : jm_ML "GoalOrder" 129 mN_kthPart := Or.inl (jm_in2 (List.mem_of_getElem? (i := 177) rfl) rfl)
theorem cG_135 : jm_ML "GoalOrder" 135 mN_isAtom := Or.inl (jm_in2 (List.mem_of_getElem? (i := 182) rfl) rfl)
theorem cG_147 : jm_ML "GoalOrder" 147 mG_madeAt := Or.inl (jm_in2 (List.mem_of_getElem? (i := 187) rfl) rfl)
theorem cG_151 : jm_ML "GoalOrder" 151 mN_meets := Or.inl (jm_in2 (List.mem_of_getElem? (i := 192) rfl) rfl)
theorem cG_161 : jm_ML "GoalOrder" 161 mP_has := Or.inl (jm_in2 (List.mem_of_getElem? (i := 23) rfl) rfl)
theorem cG_164 : jm_ML "GoalOrder" 164 mP_argumentsOf := Or.inl (jm_in2 (List.mem_of_getElem? (i := 24) rfl) rfl)
theorem cG_176 : jm_ML "GoalOrder" 176 mP_outsOf := Or.inl (jm_in2 (List.mem_of_getElem? (i := 191) rfl) rfl)
theorem cN_54 : jm_ML "GoalOrder$Node" 54 mN_isAtom := Or.inl (jm_in2 (List.mem_of_getElem? (i := 15) rfl) rfl)
theorem cN_64 : jm_ML "GoalOrder$Node" 64 mG_hasPlace := Or.inr ⟨"GoalOrder", by decide +kernel⟩
theorem cN_71 : jm_ML "GoalOrder$Node" 71 mN_variableAt := Or.inl (jm_in2 (List.mem_of_getElem? (i := 197) rfl) rfl)
theorem cP_25 : jm_ML "GoalOrder$Predicates" 25 mP_has := Or.inl (jm_in1 (List.mem_of_getElem? (i := 219) rfl) rfl)
theorem cP_29 : jm_ML "GoalOrder$Predicates" 29 mP_modesOf := Or.inl (jm_in2 (List.mem_of_getElem? (i := 154) rfl) rfl)
theorem cT_11 : jm_ML "GoalOrder$Tree" 11 mN_init := Or.inl (jm_in1 (List.mem_of_getElem? (i := 43) rfl) rfl)
theorem cT_24 : jm_ML "GoalOrder$Tree" 24 mT_reset := Or.inl (jm_in1 (List.mem_of_getElem? (i := 136) rfl) rfl)
theorem cT_27 : jm_ML "GoalOrder$Tree" 27 mN_become := Or.inl (jm_in1 (List.mem_of_getElem? (i := 140) rfl) rfl)
theorem cT_35 : jm_ML "GoalOrder$Tree" 35 mT_isFull := Or.inl (jm_in2 (List.mem_of_getElem? (i := 36) rfl) rfl)
theorem cT_46 : jm_ML "GoalOrder$Tree" 46 mN_takeVariables := Or.inl (jm_in2 (List.mem_of_getElem? (i := 37) rfl) rfl)
theorem cT_50 : jm_ML "GoalOrder$Tree" 50 mN_append := Or.inl (jm_in2 (List.mem_of_getElem? (i := 41) rfl) rfl)
theorem cT_54 : jm_ML "GoalOrder$Tree" 54 mT_spreadVariables := Or.inl (jm_in2 (List.mem_of_getElem? (i := 45) rfl) rfl)
theorem cR_27 : jm_ML "GoalOrder$Trial" 27 mR_canDo := Or.inl (jm_in2 (List.mem_of_getElem? (i := 68) rfl) rfl)
theorem cR_48 : jm_ML "GoalOrder$Trial" 48 mR_canDoRow := Or.inl (jm_in2 (List.mem_of_getElem? (i := 72) rfl) rfl)
theorem cR_52 : jm_ML "GoalOrder$Trial" 52 mR_canDoChoice := Or.inl (jm_in2 (List.mem_of_getElem? (i := 83) rfl) rfl)
theorem cR_55 : jm_ML "GoalOrder$Trial" 55 mR_canDoNot := Or.inl (jm_in2 (List.mem_of_getElem? (i := 100) rfl) rfl)
theorem cR_58 : jm_ML "GoalOrder$Trial" 58 mR_canDoTest := Or.inl (jm_in2 (List.mem_of_getElem? (i := 107) rfl) rfl)
theorem cR_61 : jm_ML "GoalOrder$Trial" 61 mR_canDoAtom := Or.inl (jm_in2 (List.mem_of_getElem? (i := 115) rfl) rfl)
theorem cR_83 : jm_ML "GoalOrder$Trial" 83 mR_doLeftmost := Or.inl (jm_in2 (List.mem_of_getElem? (i := 76) rfl) rfl)
theorem cR_87 : jm_ML "GoalOrder$Trial" 87 mR_stuckOfLeftmost := Or.inl (jm_in2 (List.mem_of_getElem? (i := 80) rfl) rfl)
theorem cR_93 : jm_ML "GoalOrder$Trial" 93 mR_canDoPart := Or.inl (jm_in2 (List.mem_of_getElem? (i := 88) rfl) rfl)
theorem cR_97 : jm_ML "GoalOrder$Trial" 97 mR_canJoin := Or.inl (jm_in2 (List.mem_of_getElem? (i := 92) rfl) rfl)
theorem cR_101 : jm_ML "GoalOrder$Trial" 101 mR_madeBy := Or.inl (jm_in2 (List.mem_of_getElem? (i := 104) rfl) rfl)
theorem cR_105 : jm_ML "GoalOrder$Trial" 105 mR_outerOf := Or.inl (jm_in2 (List.mem_of_getElem? (i := 96) rfl) rfl)
theorem cR_108 : jm_ML "GoalOrder$Trial" 108 mN_kthPart := Or.inl (jm_in2 (List.mem_of_getElem? (i := 111) rfl) rfl)
theorem cR_118 : jm_ML "GoalOrder$Trial" 118 mR_canDoSame := Or.inl (jm_in2 (List.mem_of_getElem? (i := 119) rfl) rfl)
theorem cR_121 : jm_ML "GoalOrder$Trial" 121 mR_isGround := Or.inl (jm_in2 (List.mem_of_getElem? (i := 126) rfl) rfl)
theorem cR_124 : jm_ML "GoalOrder$Trial" 124 mR_settle := Or.inl (jm_in2 (List.mem_of_getElem? (i := 129) rfl) rfl)
theorem cR_128 : jm_ML "GoalOrder$Trial" 128 mR_canDoForm := Or.inl (jm_in2 (List.mem_of_getElem? (i := 132) rfl) rfl)
theorem cR_131 : jm_ML "GoalOrder$Trial" 131 mR_canDoSum := Or.inl (jm_in2 (List.mem_of_getElem? (i := 139) rfl) rfl)
theorem cR_134 : jm_ML "GoalOrder$Trial" 134 mR_canDoCall := Or.inl (jm_in2 (List.mem_of_getElem? (i := 142) rfl) rfl)
theorem cR_137 : jm_ML "GoalOrder$Trial" 137 mN_variableAt := Or.inl (jm_in2 (List.mem_of_getElem? (i := 122) rfl) rfl)
theorem cR_141 : jm_ML "GoalOrder$Trial" 141 mN_variablesFrom := Or.inl (jm_in2 (List.mem_of_getElem? (i := 135) rfl) rfl)
theorem cR_147 : jm_ML "GoalOrder$Trial" 147 mP_modesOf := Or.inl (jm_in2 (List.mem_of_getElem? (i := 146) rfl) rfl)
theorem cR_153 : jm_ML "GoalOrder$Trial" 153 mP_outsOf := Or.inl (jm_in2 (List.mem_of_getElem? (i := 150) rfl) rfl)
theorem cR_157 : jm_ML "GoalOrder$Trial" 157 mR_insOf := Or.inl (jm_in2 (List.mem_of_getElem? (i := 155) rfl) rfl)
theorem cR_164 : jm_ML "GoalOrder$Trial" 164 mG_hasPlace := Or.inr ⟨"GoalOrder", by decide +kernel⟩
theorem cL_9 : jm_ML "GoalOrderLaw" 9 mG_init := Or.inl (jm_in1 (List.mem_of_getElem? (i := 9) rfl) rfl)
theorem cL_12 : jm_ML "GoalOrderLaw" 12 mM_init := Or.inl (jm_in2 (List.mem_of_getElem? (i := 208) rfl) rfl)
theorem cL_13 : jm_ML "GoalOrderLaw" 13 mG_predicate := Or.inl (jm_in1 (List.mem_of_getElem? (i := 203) rfl) rfl)
theorem cL_17 : jm_ML "GoalOrderLaw" 17 mM_predicate := Or.inl (jm_in3 (List.mem_of_getElem? (i := 113) rfl) rfl)
theorem cL_18 : jm_ML "GoalOrderLaw" 18 mG_mode := Or.inl (jm_in1 (List.mem_of_getElem? (i := 211) rfl) rfl)
theorem cL_22 : jm_ML "GoalOrderLaw" 22 mM_mode := Or.inl (jm_in3 (List.mem_of_getElem? (i := 117) rfl) rfl)
theorem cL_23 : jm_ML "GoalOrderLaw" 23 mG_clear := Or.inl (jm_in1 (List.mem_of_getElem? (i := 227) rfl) rfl)
theorem cL_26 : jm_ML "GoalOrderLaw" 26 mM_clear := Or.inl (jm_in3 (List.mem_of_getElem? (i := 121) rfl) rfl)
theorem cL_27 : jm_ML "GoalOrderLaw" 27 mG_put := Or.inl (jm_in1 (List.mem_of_getElem? (i := 232) rfl) rfl)
theorem cL_31 : jm_ML "GoalOrderLaw" 31 mM_put := Or.inl (jm_in3 (List.mem_of_getElem? (i := 125) rfl) rfl)
theorem cL_32 : jm_ML "GoalOrderLaw" 32 mG_add := Or.inl (jm_in1 (List.mem_of_getElem? (i := 239) rfl) rfl)
theorem cL_36 : jm_ML "GoalOrderLaw" 36 mM_add := Or.inl (jm_in3 (List.mem_of_getElem? (i := 132) rfl) rfl)
theorem cL_37 : jm_ML "GoalOrderLaw" 37 mG_given := Or.inl (jm_in2 (List.mem_of_getElem? (i := 49) rfl) rfl)
theorem cL_41 : jm_ML "GoalOrderLaw" 41 mM_given := Or.inl (jm_in3 (List.mem_of_getElem? (i := 148) rfl) rfl)
theorem cL_42 : jm_ML "GoalOrderLaw" 42 mG_wanted := Or.inl (jm_in2 (List.mem_of_getElem? (i := 56) rfl) rfl)
theorem cL_45 : jm_ML "GoalOrderLaw" 45 mM_wanted := Or.inl (jm_in3 (List.mem_of_getElem? (i := 152) rfl) rfl)
theorem cL_46 : jm_ML "GoalOrderLaw" 46 mG_order := Or.inl (jm_in2 (List.mem_of_getElem? (i := 60) rfl) rfl)
theorem cL_50 : jm_ML "GoalOrderLaw" 50 mM_order := Or.inl (jm_in3 (List.mem_of_getElem? (i := 156) rfl) rfl)
theorem cL_51 : jm_ML "GoalOrderLaw" 51 mG_stuck := Or.inl (jm_in2 (List.mem_of_getElem? (i := 165) rfl) rfl)
theorem cL_54 : jm_ML "GoalOrderLaw" 54 mM_stuck := Or.inl (jm_in3 (List.mem_of_getElem? (i := 229) rfl) rfl)
theorem cL_55 : jm_ML "GoalOrderLaw" 55 mG_part := Or.inl (jm_in2 (List.mem_of_getElem? (i := 169) rfl) rfl)
theorem cL_58 : jm_ML "GoalOrderLaw" 58 mM_part := Or.inl (jm_in3 (List.mem_of_getElem? (i := 233) rfl) rfl)
theorem cL_59 : jm_ML "GoalOrderLaw" 59 mG_node := Or.inl (jm_in2 (List.mem_of_getElem? (i := 178) rfl) rfl)
theorem cL_62 : jm_ML "GoalOrderLaw" 62 mM_node := Or.inl (jm_in3 (List.mem_of_getElem? (i := 237) rfl) rfl)
theorem cL_63 : jm_ML "GoalOrderLaw" 63 mG_compared := Or.inl (jm_in2 (List.mem_of_getElem? (i := 183) rfl) rfl)
theorem cL_67 : jm_ML "GoalOrderLaw" 67 mM_compared := Or.inl (jm_in4 (List.mem_of_getElem? (i := 1) rfl) rfl)
theorem cL_68 : jm_ML "GoalOrderLaw" 68 mG_ground := Or.inl (jm_in2 (List.mem_of_getElem? (i := 198) rfl) rfl)
theorem cL_71 : jm_ML "GoalOrderLaw" 71 mM_ground := Or.inl (jm_in4 (List.mem_of_getElem? (i := 5) rfl) rfl)
theorem cL_72 : jm_ML "GoalOrderLaw" 72 mG_outer := Or.inl (jm_in2 (List.mem_of_getElem? (i := 202) rfl) rfl)
theorem cL_75 : jm_ML "GoalOrderLaw" 75 mM_outer := Or.inl (jm_in4 (List.mem_of_getElem? (i := 9) rfl) rfl)
theorem cM_112 : jm_ML "GoalOrderModel" 112 mM_begin := Or.inl (jm_in2 (List.mem_of_getElem? (i := 212) rfl) rfl)
theorem cM_131 : jm_ML "GoalOrderModel" 131 mM_made := Or.inl (jm_in2 (List.mem_of_getElem? (i := 216) rfl) rfl)
theorem cM_135 : jm_ML "GoalOrderModel" 135 mM_changed := Or.inl (jm_in2 (List.mem_of_getElem? (i := 220) rfl) rfl)
theorem cM_145 : jm_ML "GoalOrderModel" 145 mM_isVariable := Or.inl (jm_in3 (List.mem_of_getElem? (i := 129) rfl) rfl)
theorem cM_149 : jm_ML "GoalOrderModel" 149 mM_isNode := Or.inl (jm_in3 (List.mem_of_getElem? (i := 140) rfl) rfl)
theorem cM_152 : jm_ML "GoalOrderModel" 152 mM_isParent := Or.inl (jm_in3 (List.mem_of_getElem? (i := 136) rfl) rfl)
theorem cM_155 : jm_ML "GoalOrderModel" 155 mM_hasRow := Or.inl (jm_in3 (List.mem_of_getElem? (i := 144) rfl) rfl)
theorem cM_159 : jm_ML "GoalOrderModel" 159 mM_rowOf := Or.inl (jm_in3 (List.mem_of_getElem? (i := 164) rfl) rfl)
theorem cM_163 : jm_ML "GoalOrderModel" 163 mM_isIn := Or.inl (jm_in3 (List.mem_of_getElem? (i := 176) rfl) rfl)
theorem cM_167 : jm_ML "GoalOrderModel" 167 mM_comes := Or.inl (jm_in3 (List.mem_of_getElem? (i := 180) rfl) rfl)
theorem cM_171 : jm_ML "GoalOrderModel" 171 mM_same := Or.inl (jm_in3 (List.mem_of_getElem? (i := 184) rfl) rfl)
theorem cM_175 : jm_ML "GoalOrderModel" 175 mM_areIn := Or.inl (jm_in3 (List.mem_of_getElem? (i := 188) rfl) rfl)
theorem cM_179 : jm_ML "GoalOrderModel" 179 mM_compare := Or.inl (jm_in3 (List.mem_of_getElem? (i := 192) rfl) rfl)
theorem cM_182 : jm_ML "GoalOrderModel" 182 mM_call := Or.inl (jm_in3 (List.mem_of_getElem? (i := 196) rfl) rfl)
theorem cM_189 : jm_ML "GoalOrderModel" 189 mM_atom := Or.inl (jm_in3 (List.mem_of_getElem? (i := 172) rfl) rfl)
theorem cM_196 : jm_ML "GoalOrderModel" 196 mM_row := Or.inl (jm_in3 (List.mem_of_getElem? (i := 204) rfl) rfl)
theorem cM_198 : jm_ML "GoalOrderModel" 198 mM_choice := Or.inl (jm_in3 (List.mem_of_getElem? (i := 212) rfl) rfl)
theorem cM_201 : jm_ML "GoalOrderModel" 201 mM_not := Or.inl (jm_in3 (List.mem_of_getElem? (i := 217) rfl) rfl)
theorem cM_204 : jm_ML "GoalOrderModel" 204 mM_test := Or.inl (jm_in3 (List.mem_of_getElem? (i := 221) rfl) rfl)
theorem cM_207 : jm_ML "GoalOrderModel" 207 mM_tried := Or.inl (jm_in3 (List.mem_of_getElem? (i := 168) rfl) rfl)
theorem cM_211 : jm_ML "GoalOrderModel" 211 mM_ended := Or.inl (jm_in3 (List.mem_of_getElem? (i := 208) rfl) rfl)
theorem cM_217 : jm_ML "GoalOrderModel" 217 mM_look := Or.inl (jm_in3 (List.mem_of_getElem? (i := 160) rfl) rfl)
theorem cM_220 : jm_ML "GoalOrderModel" 220 mM_goesOn := Or.inl (jm_in3 (List.mem_of_getElem? (i := 200) rfl) rfl)
theorem cM_224 : jm_ML "GoalOrderModel" 224 mM_stuckOf := Or.inl (jm_in3 (List.mem_of_getElem? (i := 225) rfl) rfl)
theorem oiG_1 : Cond.methodLink "GoalOrder" 1 Lib.objectInit ∈ jm_tb := jm_in1 (List.mem_of_getElem? (i := 12) rfl) rfl
theorem oiN_3 : Cond.methodLink "GoalOrder$Node" 3 Lib.objectInit ∈ jm_tb := jm_in1 (List.mem_of_getElem? (i := 46) rfl) rfl
theorem oiP_3 : Cond.methodLink "GoalOrder$Predicates" 3 Lib.objectInit ∈ jm_tb := jm_in1 (List.mem_of_getElem? (i := 20) rfl) rfl
theorem oiT_3 : Cond.methodLink "GoalOrder$Tree" 3 Lib.objectInit ∈ jm_tb := jm_in1 (List.mem_of_getElem? (i := 40) rfl) rfl
theorem oiR_3 : Cond.methodLink "GoalOrder$Trial" 3 Lib.objectInit ∈ jm_tb := jm_in1 (List.mem_of_getElem? (i := 160) rfl) rfl
theorem oiM_1 : Cond.methodLink "GoalOrderModel" 1 Lib.objectInit ∈ jm_tb := jm_in2 (List.mem_of_getElem? (i := 211) rfl) rfl
theorem oi_inst : Cond.instanceMethod Lib.objectInit ∈ jm_tb := jm_in1 (List.mem_of_getElem? (i := 13) rfl) rfl
theorem oi_code : Cond.code Lib.objectInit ⟨#[0xb1]⟩ 1 none ∈ jm_tb := jm_in1 (List.mem_of_getElem? (i := 14) rfl) rfl
theorem nkG_7 : Cond.classLink "GoalOrder" 7 "GoalOrder$Predicates" ∈ jm_tb := jm_in1 (List.mem_of_getElem? (i := 15) rfl) rfl
theorem nkG_16 : Cond.classLink "GoalOrder" 16 "GoalOrder$Tree" ∈ jm_tb := jm_in1 (List.mem_of_getElem? (i := 35) rfl) rfl
theorem nkG_23 : Cond.classLink "GoalOrder" 23 "GoalOrder$Trial" ∈ jm_tb := jm_in1 (List.mem_of_getElem? (i := 155) rfl) rfl
theorem nkT_9 : Cond.classLink "GoalOrder$Tree" 9 "GoalOrder$Node" ∈ jm_tb := jm_in1 (List.mem_of_getElem? (i := 41) rfl) rfl
theorem nkL_7 : Cond.classLink "GoalOrderLaw" 7 "GoalOrder" ∈ jm_tb := jm_in1 (List.mem_of_getElem? (i := 7) rfl) rfl
theorem nkL_10 : Cond.classLink "GoalOrderLaw" 10 "GoalOrderModel" ∈ jm_tb := jm_in2 (List.mem_of_getElem? (i := 206) rfl) rfl
theorem niG : Cond.instantiable "GoalOrder" 9 ∈ jm_tb := jm_in1 (List.mem_of_getElem? (i := 8) rfl) rfl
theorem niP : Cond.instantiable "GoalOrder$Predicates" 4 ∈ jm_tb := jm_in1 (List.mem_of_getElem? (i := 16) rfl) rfl
theorem niT : Cond.instantiable "GoalOrder$Tree" 3 ∈ jm_tb := jm_in1 (List.mem_of_getElem? (i := 36) rfl) rfl
theorem niN : Cond.instantiable "GoalOrder$Node" 20 ∈ jm_tb := jm_in1 (List.mem_of_getElem? (i := 42) rfl) rfl
theorem niR : Cond.instantiable "GoalOrder$Trial" 4 ∈ jm_tb := jm_in1 (List.mem_of_getElem? (i := 156) rfl) rfl
theorem niM : Cond.instantiable "GoalOrderModel" 42 ∈ jm_tb := jm_in2 (List.mem_of_getElem? (i := 207) rfl) rfl
theorem nzL : Cond.initialized "GoalOrderLaw" ∈ jm_tb := jm_in1 (List.mem_of_getElem? (i := 0) rfl) rfl
theorem nzG : Cond.initialized "GoalOrder" ∈ jm_tb := jm_in1 (List.mem_of_getElem? (i := 1) rfl) rfl
theorem nzP : Cond.initialized "GoalOrder$Predicates" ∈ jm_tb := jm_in1 (List.mem_of_getElem? (i := 2) rfl) rfl
theorem nzT : Cond.initialized "GoalOrder$Tree" ∈ jm_tb := jm_in1 (List.mem_of_getElem? (i := 3) rfl) rfl
theorem nzN : Cond.initialized "GoalOrder$Node" ∈ jm_tb := jm_in1 (List.mem_of_getElem? (i := 4) rfl) rfl
theorem nzR : Cond.initialized "GoalOrder$Trial" ∈ jm_tb := jm_in1 (List.mem_of_getElem? (i := 5) rfl) rfl
theorem nzM : Cond.initialized "GoalOrderModel" ∈ jm_tb := jm_in1 (List.mem_of_getElem? (i := 6) rfl) rfl
theorem klR_91 : Cond.constantLong "GoalOrder$Trial" 91 (-1) ∈ jm_tb := jm_in2 (List.mem_of_getElem? (i := 87) rfl) rfl
theorem klG_114 : Cond.constantLong "GoalOrder" 114 (-1) ∈ jm_tb := jm_in2 (List.mem_of_getElem? (i := 161) rfl) rfl
theorem klM_215 : Cond.constantLong "GoalOrderModel" 215 (-1) ∈ jm_tb := jm_in3 (List.mem_of_getElem? (i := 216) rfl) rfl
theorem ac_int : Cond.arrayClass .int ∈ jm_tb := jm_in1 (List.mem_of_getElem? (i := 34) rfl) rfl
theorem ac_long : Cond.arrayClass .long ∈ jm_tb := jm_in3 (List.mem_of_getElem? (i := 111) rfl) rfl
theorem ac_boolean : Cond.arrayClass .boolean ∈ jm_tb := jm_in3 (List.mem_of_getElem? (i := 112) rfl) rfl
theorem st_FEWEST : Cond.fieldLink "GoalOrder" 167 "GoalOrder" "FEWEST" "[I" ∈ jm_tb := jm_in2 (List.mem_of_getElem? (i := 28) rfl) rfl
theorem st_MOST : Cond.fieldLink "GoalOrder" 170 "GoalOrder" "MOST" "[I" ∈ jm_tb := jm_in2 (List.mem_of_getElem? (i := 30) rfl) rfl
end
section
theorem dG_add_0 : decode prog_1_method_6_code 0 = .ok (.aload_n 0, 1) := by decide +kernel
theorem dG_add_1 : decode prog_1_method_6_code 1 = .ok (.getfield 36, 3) := by decide +kernel
theorem dG_add_4 : decode prog_1_method_6_code 4 = .ok (.istore 4, 2) := by decide +kernel
theorem dG_add_6 : decode prog_1_method_6_code 6 = .ok (.aload_n 0, 1) := by decide +kernel
theorem dG_add_7 : decode prog_1_method_6_code 7 = .ok (.iconst 0, 1) := by decide +kernel
theorem dG_add_8 : decode prog_1_method_6_code 8 = .ok (.putfield 36, 3) := by decide +kernel
theorem dG_add_11 : decode prog_1_method_6_code 11 = .ok (.aload_n 0, 1) := by decide +kernel
theorem dG_add_12 : decode prog_1_method_6_code 12 = .ok (.getfield 19, 3) := by decide +kernel
theorem dG_add_15 : decode prog_1_method_6_code 15 = .ok (.iload_n 1, 1) := by decide +kernel
theorem dG_add_16 : decode prog_1_method_6_code 16 = .ok (.invokevirtual 72, 3) := by decide +kernel
theorem dG_add_19 : decode prog_1_method_6_code 19 = .ok (.astore 5, 2) := by decide +kernel
theorem dG_add_21 : decode prog_1_method_6_code 21 = .ok (.aload 5, 2) := by decide +kernel
theorem dG_add_23 : decode prog_1_method_6_code 23 = .ok (.ifnull 32, 3) := by decide +kernel
theorem dG_add_26 : decode prog_1_method_6_code 26 = .ok (.aload_n 0, 1) := by decide +kernel
theorem dG_add_27 : decode prog_1_method_6_code 27 = .ok (.getfield 19, 3) := by decide +kernel
theorem dG_add_30 : decode prog_1_method_6_code 30 = .ok (.invokevirtual 76, 3) := by decide +kernel
theorem dG_add_33 : decode prog_1_method_6_code 33 = .ok (.ifCond .ne 22, 3) := by decide +kernel
theorem dG_add_36 : decode prog_1_method_6_code 36 = .ok (.aload 5, 2) := by decide +kernel
theorem dG_add_38 : decode prog_1_method_6_code 38 = .ok (.invokevirtual 80, 3) := by decide +kernel
theorem dG_add_41 : decode prog_1_method_6_code 41 = .ok (.ifCond .eq 14, 3) := by decide +kernel
theorem dG_add_44 : decode prog_1_method_6_code 44 = .ok (.aload_n 0, 1) := by decide +kernel
theorem dG_add_45 : decode prog_1_method_6_code 45 = .ok (.iload_n 2, 1) := by decide +kernel
theorem dG_add_46 : decode prog_1_method_6_code 46 = .ok (.iload_n 3, 1) := by decide +kernel
theorem dG_add_47 : decode prog_1_method_6_code 47 = .ok (.iload 4, 2) := by decide +kernel
theorem dG_add_49 : decode prog_1_method_6_code 49 = .ok (.invokevirtual 85, 3) := by decide +kernel
theorem dG_add_52 : decode prog_1_method_6_code 52 = .ok (.ifCond .ne 5, 3) := by decide +kernel
theorem dG_add_55 : decode prog_1_method_6_code 55 = .ok (.iconst (-1), 1) := by decide +kernel
theorem dG_add_56 : decode prog_1_method_6_code 56 = .ok (.ireturn, 1) := by decide +kernel
theorem dG_add_57 : decode prog_1_method_6_code 57 = .ok (.aload_n 0, 1) := by decide +kernel
theorem dG_add_58 : decode prog_1_method_6_code 58 = .ok (.invokevirtual 62, 3) := by decide +kernel
theorem dG_add_61 : decode prog_1_method_6_code 61 = .ok (.aload_n 0, 1) := by decide +kernel
theorem dG_add_62 : decode prog_1_method_6_code 62 = .ok (.getfield 19, 3) := by decide +kernel
theorem dG_add_65 : decode prog_1_method_6_code 65 = .ok (.aload 5, 2) := by decide +kernel
theorem dG_add_67 : decode prog_1_method_6_code 67 = .ok (.iload_n 2, 1) := by decide +kernel
theorem dG_add_68 : decode prog_1_method_6_code 68 = .ok (.iload_n 3, 1) := by decide +kernel
theorem dG_add_69 : decode prog_1_method_6_code 69 = .ok (.aload_n 0, 1) := by decide +kernel
theorem dG_add_70 : decode prog_1_method_6_code 70 = .ok (.getfield 32, 3) := by decide +kernel
theorem dG_add_73 : decode prog_1_method_6_code 73 = .ok (.iload 4, 2) := by decide +kernel
theorem dG_add_75 : decode prog_1_method_6_code 75 = .ok (.invokevirtual 89, 3) := by decide +kernel
theorem dG_add_78 : decode prog_1_method_6_code 78 = .ok (.ireturn, 1) := by decide +kernel
theorem dG_clear_0 : decode prog_1_method_4_code 0 = .ok (.aload_n 0, 1) := by decide +kernel
theorem dG_clear_1 : decode prog_1_method_4_code 1 = .ok (.getfield 19, 3) := by decide +kernel
theorem dG_clear_4 : decode prog_1_method_4_code 4 = .ok (.invokevirtual 65, 3) := by decide +kernel
theorem dG_clear_7 : decode prog_1_method_4_code 7 = .ok (.aload_n 0, 1) := by decide +kernel
theorem dG_clear_8 : decode prog_1_method_4_code 8 = .ok (.iconst 0, 1) := by decide +kernel
theorem dG_clear_9 : decode prog_1_method_4_code 9 = .ok (.putfield 36, 3) := by decide +kernel
theorem dG_clear_12 : decode prog_1_method_4_code 12 = .ok (.aload_n 0, 1) := by decide +kernel
theorem dG_clear_13 : decode prog_1_method_4_code 13 = .ok (.lconst 0, 1) := by decide +kernel
theorem dG_clear_14 : decode prog_1_method_4_code 14 = .ok (.putfield 40, 3) := by decide +kernel
theorem dG_clear_17 : decode prog_1_method_4_code 17 = .ok (.aload_n 0, 1) := by decide +kernel
theorem dG_clear_18 : decode prog_1_method_4_code 18 = .ok (.lconst 0, 1) := by decide +kernel
theorem dG_clear_19 : decode prog_1_method_4_code 19 = .ok (.putfield 44, 3) := by decide +kernel
theorem dG_clear_22 : decode prog_1_method_4_code 22 = .ok (.aload_n 0, 1) := by decide +kernel
theorem dG_clear_23 : decode prog_1_method_4_code 23 = .ok (.invokevirtual 62, 3) := by decide +kernel
theorem dG_clear_26 : decode prog_1_method_4_code 26 = .ok (.return_, 1) := by decide +kernel
theorem dG_compared_0 : decode prog_1_method_13_code 0 = .ok (.aload_n 0, 1) := by decide +kernel
theorem dG_compared_1 : decode prog_1_method_13_code 1 = .ok (.getfield 19, 3) := by decide +kernel
theorem dG_compared_4 : decode prog_1_method_13_code 4 = .ok (.iload_n 1, 1) := by decide +kernel
theorem dG_compared_5 : decode prog_1_method_13_code 5 = .ok (.invokevirtual 72, 3) := by decide +kernel
theorem dG_compared_8 : decode prog_1_method_13_code 8 = .ok (.astore_n 3, 1) := by decide +kernel
theorem dG_compared_9 : decode prog_1_method_13_code 9 = .ok (.aload_n 0, 1) := by decide +kernel
theorem dG_compared_10 : decode prog_1_method_13_code 10 = .ok (.getfield 47, 3) := by decide +kernel
theorem dG_compared_13 : decode prog_1_method_13_code 13 = .ok (.ifCond .eq 19, 3) := by decide +kernel
theorem dG_compared_16 : decode prog_1_method_13_code 16 = .ok (.aload_n 3, 1) := by decide +kernel
theorem dG_compared_17 : decode prog_1_method_13_code 17 = .ok (.ifnull 15, 3) := by decide +kernel
theorem dG_compared_20 : decode prog_1_method_13_code 20 = .ok (.iload_n 2, 1) := by decide +kernel
theorem dG_compared_21 : decode prog_1_method_13_code 21 = .ok (.ifCond .lt 11, 3) := by decide +kernel
theorem dG_compared_24 : decode prog_1_method_13_code 24 = .ok (.iload_n 2, 1) := by decide +kernel
theorem dG_compared_25 : decode prog_1_method_13_code 25 = .ok (.aload_n 3, 1) := by decide +kernel
theorem dG_compared_26 : decode prog_1_method_13_code 26 = .ok (.getfield 141, 3) := by decide +kernel
theorem dG_compared_29 : decode prog_1_method_13_code 29 = .ok (.if_icmp .lt 5, 3) := by decide +kernel
theorem dG_compared_32 : decode prog_1_method_13_code 32 = .ok (.iconst 0, 1) := by decide +kernel
theorem dG_compared_33 : decode prog_1_method_13_code 33 = .ok (.ireturn, 1) := by decide +kernel
theorem dG_compared_34 : decode prog_1_method_13_code 34 = .ok (.aload_n 3, 1) := by decide +kernel
theorem dG_compared_35 : decode prog_1_method_13_code 35 = .ok (.iload_n 2, 1) := by decide +kernel
theorem dG_compared_36 : decode prog_1_method_13_code 36 = .ok (.aload_n 0, 1) := by decide +kernel
theorem dG_compared_37 : decode prog_1_method_13_code 37 = .ok (.aload_n 3, 1) := by decide +kernel
theorem dG_compared_38 : decode prog_1_method_13_code 38 = .ok (.invokevirtual 147, 3) := by decide +kernel
theorem dG_compared_41 : decode prog_1_method_13_code 41 = .ok (.invokevirtual 151, 3) := by decide +kernel
theorem dG_compared_44 : decode prog_1_method_13_code 44 = .ok (.ireturn, 1) := by decide +kernel
theorem dG_fits_0 : decode prog_1_method_17_code 0 = .ok (.iload_n 1, 1) := by decide +kernel
theorem dG_fits_1 : decode prog_1_method_17_code 1 = .ok (.ifCond .lt 9, 3) := by decide +kernel
theorem dG_fits_4 : decode prog_1_method_17_code 4 = .ok (.iload_n 1, 1) := by decide +kernel
theorem dG_fits_5 : decode prog_1_method_17_code 5 = .ok (.bipush 12, 2) := by decide +kernel
theorem dG_fits_7 : decode prog_1_method_17_code 7 = .ok (.if_icmp .le 5, 3) := by decide +kernel
theorem dG_fits_10 : decode prog_1_method_17_code 10 = .ok (.iconst 0, 1) := by decide +kernel
theorem dG_fits_11 : decode prog_1_method_17_code 11 = .ok (.ireturn, 1) := by decide +kernel
theorem dG_fits_12 : decode prog_1_method_17_code 12 = .ok (.iload_n 1, 1) := by decide +kernel
theorem dG_fits_13 : decode prog_1_method_17_code 13 = .ok (.bipush 12, 2) := by decide +kernel
theorem dG_fits_15 : decode prog_1_method_17_code 15 = .ok (.if_icmp .ne 32, 3) := by decide +kernel
theorem dG_fits_18 : decode prog_1_method_17_code 18 = .ok (.aload_n 0, 1) := by decide +kernel
theorem dG_fits_19 : decode prog_1_method_17_code 19 = .ok (.getfield 10, 3) := by decide +kernel
theorem dG_fits_22 : decode prog_1_method_17_code 22 = .ok (.iload_n 2, 1) := by decide +kernel
theorem dG_fits_23 : decode prog_1_method_17_code 23 = .ok (.invokevirtual 161, 3) := by decide +kernel
theorem dG_fits_26 : decode prog_1_method_17_code 26 = .ok (.ifCond .eq 19, 3) := by decide +kernel
theorem dG_fits_29 : decode prog_1_method_17_code 29 = .ok (.iload_n 3, 1) := by decide +kernel
theorem dG_fits_30 : decode prog_1_method_17_code 30 = .ok (.aload_n 0, 1) := by decide +kernel
theorem dG_fits_31 : decode prog_1_method_17_code 31 = .ok (.getfield 10, 3) := by decide +kernel
theorem dG_fits_34 : decode prog_1_method_17_code 34 = .ok (.iload_n 2, 1) := by decide +kernel
theorem dG_fits_35 : decode prog_1_method_17_code 35 = .ok (.invokevirtual 164, 3) := by decide +kernel
theorem dG_fits_38 : decode prog_1_method_17_code 38 = .ok (.if_icmp .ne 7, 3) := by decide +kernel
theorem dG_fits_41 : decode prog_1_method_17_code 41 = .ok (.iconst 1, 1) := by decide +kernel
theorem dG_fits_42 : decode prog_1_method_17_code 42 = .ok (.goto 4, 3) := by decide +kernel
theorem dG_fits_45 : decode prog_1_method_17_code 45 = .ok (.iconst 0, 1) := by decide +kernel
theorem dG_fits_46 : decode prog_1_method_17_code 46 = .ok (.ireturn, 1) := by decide +kernel
theorem dG_fits_47 : decode prog_1_method_17_code 47 = .ok (.iload_n 3, 1) := by decide +kernel
theorem dG_fits_48 : decode prog_1_method_17_code 48 = .ok (.getstatic 167, 3) := by decide +kernel
theorem dG_fits_51 : decode prog_1_method_17_code 51 = .ok (.iload_n 1, 1) := by decide +kernel
theorem dG_fits_52 : decode prog_1_method_17_code 52 = .ok (.iaload, 1) := by decide +kernel
theorem dG_fits_53 : decode prog_1_method_17_code 53 = .ok (.if_icmp .lt 16, 3) := by decide +kernel
theorem dG_fits_56 : decode prog_1_method_17_code 56 = .ok (.iload_n 3, 1) := by decide +kernel
theorem dG_fits_57 : decode prog_1_method_17_code 57 = .ok (.getstatic 170, 3) := by decide +kernel
theorem dG_fits_60 : decode prog_1_method_17_code 60 = .ok (.iload_n 1, 1) := by decide +kernel
theorem dG_fits_61 : decode prog_1_method_17_code 61 = .ok (.iaload, 1) := by decide +kernel
theorem dG_fits_62 : decode prog_1_method_17_code 62 = .ok (.if_icmp .gt 7, 3) := by decide +kernel
theorem dG_fits_65 : decode prog_1_method_17_code 65 = .ok (.iconst 1, 1) := by decide +kernel
theorem dG_fits_66 : decode prog_1_method_17_code 66 = .ok (.goto 4, 3) := by decide +kernel
theorem dG_fits_69 : decode prog_1_method_17_code 69 = .ok (.iconst 0, 1) := by decide +kernel
theorem dG_fits_70 : decode prog_1_method_17_code 70 = .ok (.ireturn, 1) := by decide +kernel
theorem dG_forgetOrdering_0 : decode prog_1_method_16_code 0 = .ok (.aload_n 0, 1) := by decide +kernel
theorem dG_forgetOrdering_1 : decode prog_1_method_16_code 1 = .ok (.iconst 0, 1) := by decide +kernel
theorem dG_forgetOrdering_2 : decode prog_1_method_16_code 2 = .ok (.putfield 47, 3) := by decide +kernel
theorem dG_forgetOrdering_5 : decode prog_1_method_16_code 5 = .ok (.aload_n 0, 1) := by decide +kernel
theorem dG_forgetOrdering_6 : decode prog_1_method_16_code 6 = .ok (.iconst (-1), 1) := by decide +kernel
theorem dG_forgetOrdering_7 : decode prog_1_method_16_code 7 = .ok (.putfield 51, 3) := by decide +kernel
theorem dG_forgetOrdering_10 : decode prog_1_method_16_code 10 = .ok (.return_, 1) := by decide +kernel
theorem dG_given_0 : decode prog_1_method_7_code 0 = .ok (.iload_n 1, 1) := by decide +kernel
theorem dG_given_1 : decode prog_1_method_7_code 1 = .ok (.invokestatic 68, 3) := by decide +kernel
theorem dG_given_4 : decode prog_1_method_7_code 4 = .ok (.ifCond .eq 15, 3) := by decide +kernel
theorem dG_given_7 : decode prog_1_method_7_code 7 = .ok (.aload_n 0, 1) := by decide +kernel
theorem dG_given_8 : decode prog_1_method_7_code 8 = .ok (.getfield 40, 3) := by decide +kernel
theorem dG_given_11 : decode prog_1_method_7_code 11 = .ok (.iload_n 1, 1) := by decide +kernel
theorem dG_given_12 : decode prog_1_method_7_code 12 = .ok (.invokestatic 93, 3) := by decide +kernel
theorem dG_given_15 : decode prog_1_method_7_code 15 = .ok (.iload_n 2, 1) := by decide +kernel
theorem dG_given_16 : decode prog_1_method_7_code 16 = .ok (.if_icmp .ne 5, 3) := by decide +kernel
theorem dG_given_19 : decode prog_1_method_7_code 19 = .ok (.iconst 0, 1) := by decide +kernel
theorem dG_given_20 : decode prog_1_method_7_code 20 = .ok (.ireturn, 1) := by decide +kernel
theorem dG_given_21 : decode prog_1_method_7_code 21 = .ok (.aload_n 0, 1) := by decide +kernel
theorem dG_given_22 : decode prog_1_method_7_code 22 = .ok (.dup, 1) := by decide +kernel
theorem dG_given_23 : decode prog_1_method_7_code 23 = .ok (.getfield 40, 3) := by decide +kernel
theorem dG_given_26 : decode prog_1_method_7_code 26 = .ok (.lconst 1, 1) := by decide +kernel
theorem dG_given_27 : decode prog_1_method_7_code 27 = .ok (.iload_n 1, 1) := by decide +kernel
theorem dG_given_28 : decode prog_1_method_7_code 28 = .ok (.lshl, 1) := by decide +kernel
theorem dG_given_29 : decode prog_1_method_7_code 29 = .ok (.lxor, 1) := by decide +kernel
theorem dG_given_30 : decode prog_1_method_7_code 30 = .ok (.putfield 40, 3) := by decide +kernel
theorem dG_given_33 : decode prog_1_method_7_code 33 = .ok (.aload_n 0, 1) := by decide +kernel
theorem dG_given_34 : decode prog_1_method_7_code 34 = .ok (.invokevirtual 62, 3) := by decide +kernel
theorem dG_given_37 : decode prog_1_method_7_code 37 = .ok (.iconst 1, 1) := by decide +kernel
theorem dG_given_38 : decode prog_1_method_7_code 38 = .ok (.ireturn, 1) := by decide +kernel
theorem dG_ground_0 : decode prog_1_method_14_code 0 = .ok (.aload_n 0, 1) := by decide +kernel
theorem dG_ground_1 : decode prog_1_method_14_code 1 = .ok (.getfield 19, 3) := by decide +kernel
theorem dG_ground_4 : decode prog_1_method_14_code 4 = .ok (.iload_n 1, 1) := by decide +kernel
theorem dG_ground_5 : decode prog_1_method_14_code 5 = .ok (.invokevirtual 72, 3) := by decide +kernel
theorem dG_ground_8 : decode prog_1_method_14_code 8 = .ok (.astore_n 3, 1) := by decide +kernel
theorem dG_ground_9 : decode prog_1_method_14_code 9 = .ok (.aload_n 0, 1) := by decide +kernel
theorem dG_ground_10 : decode prog_1_method_14_code 10 = .ok (.getfield 47, 3) := by decide +kernel
theorem dG_ground_13 : decode prog_1_method_14_code 13 = .ok (.ifCond .eq 29, 3) := by decide +kernel
theorem dG_ground_16 : decode prog_1_method_14_code 16 = .ok (.aload_n 3, 1) := by decide +kernel
theorem dG_ground_17 : decode prog_1_method_14_code 17 = .ok (.ifnull 25, 3) := by decide +kernel
theorem dG_ground_20 : decode prog_1_method_14_code 20 = .ok (.iload_n 2, 1) := by decide +kernel
theorem dG_ground_21 : decode prog_1_method_14_code 21 = .ok (.invokestatic 68, 3) := by decide +kernel
theorem dG_ground_24 : decode prog_1_method_14_code 24 = .ok (.ifCond .eq 18, 3) := by decide +kernel
theorem dG_ground_27 : decode prog_1_method_14_code 27 = .ok (.aload_n 3, 1) := by decide +kernel
theorem dG_ground_28 : decode prog_1_method_14_code 28 = .ok (.getfield 155, 3) := by decide +kernel
theorem dG_ground_31 : decode prog_1_method_14_code 31 = .ok (.iload_n 2, 1) := by decide +kernel
theorem dG_ground_32 : decode prog_1_method_14_code 32 = .ok (.invokestatic 93, 3) := by decide +kernel
theorem dG_ground_35 : decode prog_1_method_14_code 35 = .ok (.ifCond .eq 7, 3) := by decide +kernel
theorem dG_ground_38 : decode prog_1_method_14_code 38 = .ok (.iconst 1, 1) := by decide +kernel
theorem dG_ground_39 : decode prog_1_method_14_code 39 = .ok (.goto 4, 3) := by decide +kernel
theorem dG_ground_42 : decode prog_1_method_14_code 42 = .ok (.iconst 0, 1) := by decide +kernel
theorem dG_ground_43 : decode prog_1_method_14_code 43 = .ok (.ireturn, 1) := by decide +kernel
theorem dG_hasPlace_0 : decode prog_1_method_22_code 0 = .ok (.iload_n 0, 1) := by decide +kernel
theorem dG_hasPlace_1 : decode prog_1_method_22_code 1 = .ok (.iload_n 1, 1) := by decide +kernel
theorem dG_hasPlace_2 : decode prog_1_method_22_code 2 = .ok (.iushr, 1) := by decide +kernel
theorem dG_hasPlace_3 : decode prog_1_method_22_code 3 = .ok (.iconst 1, 1) := by decide +kernel
theorem dG_hasPlace_4 : decode prog_1_method_22_code 4 = .ok (.iand, 1) := by decide +kernel
theorem dG_hasPlace_5 : decode prog_1_method_22_code 5 = .ok (.ifCond .eq 7, 3) := by decide +kernel
theorem dG_hasPlace_8 : decode prog_1_method_22_code 8 = .ok (.iconst 1, 1) := by decide +kernel
theorem dG_hasPlace_9 : decode prog_1_method_22_code 9 = .ok (.goto 4, 3) := by decide +kernel
theorem dG_hasPlace_12 : decode prog_1_method_22_code 12 = .ok (.iconst 0, 1) := by decide +kernel
theorem dG_hasPlace_13 : decode prog_1_method_22_code 13 = .ok (.ireturn, 1) := by decide +kernel
theorem dG_holds_0 : decode prog_1_method_20_code 0 = .ok (.lload_n 0, 1) := by decide +kernel
theorem dG_holds_1 : decode prog_1_method_20_code 1 = .ok (.iload_n 2, 1) := by decide +kernel
theorem dG_holds_2 : decode prog_1_method_20_code 2 = .ok (.lushr, 1) := by decide +kernel
theorem dG_holds_3 : decode prog_1_method_20_code 3 = .ok (.lconst 1, 1) := by decide +kernel
theorem dG_holds_4 : decode prog_1_method_20_code 4 = .ok (.land, 1) := by decide +kernel
theorem dG_holds_5 : decode prog_1_method_20_code 5 = .ok (.lconst 0, 1) := by decide +kernel
theorem dG_holds_6 : decode prog_1_method_20_code 6 = .ok (.lcmp, 1) := by decide +kernel
theorem dG_holds_7 : decode prog_1_method_20_code 7 = .ok (.ifCond .eq 7, 3) := by decide +kernel
theorem dG_holds_10 : decode prog_1_method_20_code 10 = .ok (.iconst 1, 1) := by decide +kernel
theorem dG_holds_11 : decode prog_1_method_20_code 11 = .ok (.goto 4, 3) := by decide +kernel
theorem dG_holds_14 : decode prog_1_method_20_code 14 = .ok (.iconst 0, 1) := by decide +kernel
theorem dG_holds_15 : decode prog_1_method_20_code 15 = .ok (.ireturn, 1) := by decide +kernel
theorem dG_init_0 : decode prog_1_method_1_code 0 = .ok (.aload_n 0, 1) := by decide +kernel
theorem dG_init_1 : decode prog_1_method_1_code 1 = .ok (.invokespecial 1, 3) := by decide +kernel
theorem dG_init_4 : decode prog_1_method_1_code 4 = .ok (.aload_n 0, 1) := by decide +kernel
theorem dG_init_5 : decode prog_1_method_1_code 5 = .ok (.new 7, 3) := by decide +kernel
theorem dG_init_8 : decode prog_1_method_1_code 8 = .ok (.dup, 1) := by decide +kernel
theorem dG_init_9 : decode prog_1_method_1_code 9 = .ok (.invokespecial 9, 3) := by decide +kernel
theorem dG_init_12 : decode prog_1_method_1_code 12 = .ok (.putfield 10, 3) := by decide +kernel
theorem dG_init_15 : decode prog_1_method_1_code 15 = .ok (.aload_n 0, 1) := by decide +kernel
theorem dG_init_16 : decode prog_1_method_1_code 16 = .ok (.new 16, 3) := by decide +kernel
theorem dG_init_19 : decode prog_1_method_1_code 19 = .ok (.dup, 1) := by decide +kernel
theorem dG_init_20 : decode prog_1_method_1_code 20 = .ok (.invokespecial 18, 3) := by decide +kernel
theorem dG_init_23 : decode prog_1_method_1_code 23 = .ok (.putfield 19, 3) := by decide +kernel
theorem dG_init_26 : decode prog_1_method_1_code 26 = .ok (.aload_n 0, 1) := by decide +kernel
theorem dG_init_27 : decode prog_1_method_1_code 27 = .ok (.new 23, 3) := by decide +kernel
theorem dG_init_30 : decode prog_1_method_1_code 30 = .ok (.dup, 1) := by decide +kernel
theorem dG_init_31 : decode prog_1_method_1_code 31 = .ok (.aload_n 0, 1) := by decide +kernel
theorem dG_init_32 : decode prog_1_method_1_code 32 = .ok (.getfield 10, 3) := by decide +kernel
theorem dG_init_35 : decode prog_1_method_1_code 35 = .ok (.invokespecial 25, 3) := by decide +kernel
theorem dG_init_38 : decode prog_1_method_1_code 38 = .ok (.putfield 28, 3) := by decide +kernel
theorem dG_init_41 : decode prog_1_method_1_code 41 = .ok (.aload_n 0, 1) := by decide +kernel
theorem dG_init_42 : decode prog_1_method_1_code 42 = .ok (.bipush 7, 2) := by decide +kernel
theorem dG_init_44 : decode prog_1_method_1_code 44 = .ok (.newarray .int, 2) := by decide +kernel
theorem dG_init_46 : decode prog_1_method_1_code 46 = .ok (.putfield 32, 3) := by decide +kernel
theorem dG_init_49 : decode prog_1_method_1_code 49 = .ok (.aload_n 0, 1) := by decide +kernel
theorem dG_init_50 : decode prog_1_method_1_code 50 = .ok (.iconst 0, 1) := by decide +kernel
theorem dG_init_51 : decode prog_1_method_1_code 51 = .ok (.putfield 36, 3) := by decide +kernel
theorem dG_init_54 : decode prog_1_method_1_code 54 = .ok (.aload_n 0, 1) := by decide +kernel
theorem dG_init_55 : decode prog_1_method_1_code 55 = .ok (.lconst 0, 1) := by decide +kernel
theorem dG_init_56 : decode prog_1_method_1_code 56 = .ok (.putfield 40, 3) := by decide +kernel
theorem dG_init_59 : decode prog_1_method_1_code 59 = .ok (.aload_n 0, 1) := by decide +kernel
theorem dG_init_60 : decode prog_1_method_1_code 60 = .ok (.lconst 0, 1) := by decide +kernel
theorem dG_init_61 : decode prog_1_method_1_code 61 = .ok (.putfield 44, 3) := by decide +kernel
theorem dG_init_64 : decode prog_1_method_1_code 64 = .ok (.aload_n 0, 1) := by decide +kernel
theorem dG_init_65 : decode prog_1_method_1_code 65 = .ok (.iconst 0, 1) := by decide +kernel
theorem dG_init_66 : decode prog_1_method_1_code 66 = .ok (.putfield 47, 3) := by decide +kernel
theorem dG_init_69 : decode prog_1_method_1_code 69 = .ok (.aload_n 0, 1) := by decide +kernel
theorem dG_init_70 : decode prog_1_method_1_code 70 = .ok (.iconst (-1), 1) := by decide +kernel
theorem dG_init_71 : decode prog_1_method_1_code 71 = .ok (.putfield 51, 3) := by decide +kernel
theorem dG_init_74 : decode prog_1_method_1_code 74 = .ok (.return_, 1) := by decide +kernel
theorem dG_isVariable_0 : decode prog_1_method_19_code 0 = .ok (.iload_n 0, 1) := by decide +kernel
theorem dG_isVariable_1 : decode prog_1_method_19_code 1 = .ok (.ifCond .lt 13, 3) := by decide +kernel
theorem dG_isVariable_4 : decode prog_1_method_19_code 4 = .ok (.iload_n 0, 1) := by decide +kernel
theorem dG_isVariable_5 : decode prog_1_method_19_code 5 = .ok (.bipush 60, 2) := by decide +kernel
theorem dG_isVariable_7 : decode prog_1_method_19_code 7 = .ok (.if_icmp .ge 7, 3) := by decide +kernel
theorem dG_isVariable_10 : decode prog_1_method_19_code 10 = .ok (.iconst 1, 1) := by decide +kernel
theorem dG_isVariable_11 : decode prog_1_method_19_code 11 = .ok (.goto 4, 3) := by decide +kernel
theorem dG_isVariable_14 : decode prog_1_method_19_code 14 = .ok (.iconst 0, 1) := by decide +kernel
theorem dG_isVariable_15 : decode prog_1_method_19_code 15 = .ok (.ireturn, 1) := by decide +kernel
theorem dG_leastOf_0 : decode prog_1_method_21_code 0 = .ok (.iconst 0, 1) := by decide +kernel
theorem dG_leastOf_1 : decode prog_1_method_21_code 1 = .ok (.istore_n 2, 1) := by decide +kernel
theorem dG_leastOf_2 : decode prog_1_method_21_code 2 = .ok (.iload_n 2, 1) := by decide +kernel
theorem dG_leastOf_3 : decode prog_1_method_21_code 3 = .ok (.bipush 60, 2) := by decide +kernel
theorem dG_leastOf_5 : decode prog_1_method_21_code 5 = .ok (.if_icmp .ge 19, 3) := by decide +kernel
theorem dG_leastOf_8 : decode prog_1_method_21_code 8 = .ok (.lload_n 0, 1) := by decide +kernel
theorem dG_leastOf_9 : decode prog_1_method_21_code 9 = .ok (.iload_n 2, 1) := by decide +kernel
theorem dG_leastOf_10 : decode prog_1_method_21_code 10 = .ok (.invokestatic 93, 3) := by decide +kernel
theorem dG_leastOf_13 : decode prog_1_method_21_code 13 = .ok (.ifCond .eq 5, 3) := by decide +kernel
theorem dG_leastOf_16 : decode prog_1_method_21_code 16 = .ok (.iload_n 2, 1) := by decide +kernel
theorem dG_leastOf_17 : decode prog_1_method_21_code 17 = .ok (.ireturn, 1) := by decide +kernel
theorem dG_leastOf_18 : decode prog_1_method_21_code 18 = .ok (.iinc 2 1, 3) := by decide +kernel
theorem dG_leastOf_21 : decode prog_1_method_21_code 21 = .ok (.goto (-19), 3) := by decide +kernel
theorem dG_leastOf_24 : decode prog_1_method_21_code 24 = .ok (.iconst (-1), 1) := by decide +kernel
theorem dG_leastOf_25 : decode prog_1_method_21_code 25 = .ok (.ireturn, 1) := by decide +kernel
theorem dG_madeAt_0 : decode prog_1_method_18_code 0 = .ok (.aload_n 1, 1) := by decide +kernel
theorem dG_madeAt_1 : decode prog_1_method_18_code 1 = .ok (.getfield 123, 3) := by decide +kernel
theorem dG_madeAt_4 : decode prog_1_method_18_code 4 = .ok (.bipush 12, 2) := by decide +kernel
theorem dG_madeAt_6 : decode prog_1_method_18_code 6 = .ok (.if_icmp .ne 19, 3) := by decide +kernel
theorem dG_madeAt_9 : decode prog_1_method_18_code 9 = .ok (.aload_n 0, 1) := by decide +kernel
theorem dG_madeAt_10 : decode prog_1_method_18_code 10 = .ok (.getfield 10, 3) := by decide +kernel
theorem dG_madeAt_13 : decode prog_1_method_18_code 13 = .ok (.aload_n 1, 1) := by decide +kernel
theorem dG_madeAt_14 : decode prog_1_method_18_code 14 = .ok (.getfield 173, 3) := by decide +kernel
theorem dG_madeAt_17 : decode prog_1_method_18_code 17 = .ok (.aload_n 1, 1) := by decide +kernel
theorem dG_madeAt_18 : decode prog_1_method_18_code 18 = .ok (.getfield 138, 3) := by decide +kernel
theorem dG_madeAt_21 : decode prog_1_method_18_code 21 = .ok (.invokevirtual 176, 3) := by decide +kernel
theorem dG_madeAt_24 : decode prog_1_method_18_code 24 = .ok (.ireturn, 1) := by decide +kernel
theorem dG_madeAt_25 : decode prog_1_method_18_code 25 = .ok (.aload_n 1, 1) := by decide +kernel
theorem dG_madeAt_26 : decode prog_1_method_18_code 26 = .ok (.getfield 123, 3) := by decide +kernel
theorem dG_madeAt_29 : decode prog_1_method_18_code 29 = .ok (.bipush 8, 2) := by decide +kernel
theorem dG_madeAt_31 : decode prog_1_method_18_code 31 = .ok (.if_icmp .ne 16, 3) := by decide +kernel
theorem dG_madeAt_34 : decode prog_1_method_18_code 34 = .ok (.aload_n 1, 1) := by decide +kernel
theorem dG_madeAt_35 : decode prog_1_method_18_code 35 = .ok (.getfield 138, 3) := by decide +kernel
theorem dG_madeAt_38 : decode prog_1_method_18_code 38 = .ok (.iconst 1, 1) := by decide +kernel
theorem dG_madeAt_39 : decode prog_1_method_18_code 39 = .ok (.if_icmp .ne 8, 3) := by decide +kernel
theorem dG_madeAt_42 : decode prog_1_method_18_code 42 = .ok (.bipush (-2), 2) := by decide +kernel
theorem dG_madeAt_44 : decode prog_1_method_18_code 44 = .ok (.goto 4, 3) := by decide +kernel
theorem dG_madeAt_47 : decode prog_1_method_18_code 47 = .ok (.iconst 0, 1) := by decide +kernel
theorem dG_madeAt_48 : decode prog_1_method_18_code 48 = .ok (.ireturn, 1) := by decide +kernel
theorem dG_mode_0 : decode prog_1_method_3_code 0 = .ok (.aload_n 0, 1) := by decide +kernel
theorem dG_mode_1 : decode prog_1_method_3_code 1 = .ok (.getfield 10, 3) := by decide +kernel
theorem dG_mode_4 : decode prog_1_method_3_code 4 = .ok (.iload_n 1, 1) := by decide +kernel
theorem dG_mode_5 : decode prog_1_method_3_code 5 = .ok (.iload_n 2, 1) := by decide +kernel
theorem dG_mode_6 : decode prog_1_method_3_code 6 = .ok (.invokevirtual 58, 3) := by decide +kernel
theorem dG_mode_9 : decode prog_1_method_3_code 9 = .ok (.istore_n 3, 1) := by decide +kernel
theorem dG_mode_10 : decode prog_1_method_3_code 10 = .ok (.iload_n 3, 1) := by decide +kernel
theorem dG_mode_11 : decode prog_1_method_3_code 11 = .ok (.iconst (-1), 1) := by decide +kernel
theorem dG_mode_12 : decode prog_1_method_3_code 12 = .ok (.if_icmp .eq 7, 3) := by decide +kernel
theorem dG_mode_15 : decode prog_1_method_3_code 15 = .ok (.aload_n 0, 1) := by decide +kernel
theorem dG_mode_16 : decode prog_1_method_3_code 16 = .ok (.invokevirtual 62, 3) := by decide +kernel
theorem dG_mode_19 : decode prog_1_method_3_code 19 = .ok (.iload_n 3, 1) := by decide +kernel
theorem dG_mode_20 : decode prog_1_method_3_code 20 = .ok (.ireturn, 1) := by decide +kernel
theorem dG_node_0 : decode prog_1_method_12_code 0 = .ok (.aload_n 0, 1) := by decide +kernel
theorem dG_node_1 : decode prog_1_method_12_code 1 = .ok (.getfield 19, 3) := by decide +kernel
theorem dG_node_4 : decode prog_1_method_12_code 4 = .ok (.iload_n 1, 1) := by decide +kernel
theorem dG_node_5 : decode prog_1_method_12_code 5 = .ok (.invokevirtual 72, 3) := by decide +kernel
theorem dG_node_8 : decode prog_1_method_12_code 8 = .ok (.astore_n 3, 1) := by decide +kernel
theorem dG_node_9 : decode prog_1_method_12_code 9 = .ok (.aload_n 3, 1) := by decide +kernel
theorem dG_node_10 : decode prog_1_method_12_code 10 = .ok (.ifnonnull 5, 3) := by decide +kernel
theorem dG_node_13 : decode prog_1_method_12_code 13 = .ok (.iconst (-1), 1) := by decide +kernel
theorem dG_node_14 : decode prog_1_method_12_code 14 = .ok (.ireturn, 1) := by decide +kernel
theorem dG_node_15 : decode prog_1_method_12_code 15 = .ok (.iload_n 2, 1) := by decide +kernel
theorem dG_node_16 : decode prog_1_method_12_code 16 = .ok (.tableswitch 70 (-1) 2 #[32, 55, 60, 65], 32) := by decide +kernel
theorem dG_node_48 : decode prog_1_method_12_code 48 = .ok (.aload_n 0, 1) := by decide +kernel
theorem dG_node_49 : decode prog_1_method_12_code 49 = .ok (.getfield 47, 3) := by decide +kernel
theorem dG_node_52 : decode prog_1_method_12_code 52 = .ok (.ifCond .eq 17, 3) := by decide +kernel
theorem dG_node_55 : decode prog_1_method_12_code 55 = .ok (.aload_n 3, 1) := by decide +kernel
theorem dG_node_56 : decode prog_1_method_12_code 56 = .ok (.invokevirtual 135, 3) := by decide +kernel
theorem dG_node_59 : decode prog_1_method_12_code 59 = .ok (.ifCond .eq 10, 3) := by decide +kernel
theorem dG_node_62 : decode prog_1_method_12_code 62 = .ok (.aload_n 3, 1) := by decide +kernel
theorem dG_node_63 : decode prog_1_method_12_code 63 = .ok (.getfield 138, 3) := by decide +kernel
theorem dG_node_66 : decode prog_1_method_12_code 66 = .ok (.goto 4, 3) := by decide +kernel
theorem dG_node_69 : decode prog_1_method_12_code 69 = .ok (.iconst (-1), 1) := by decide +kernel
theorem dG_node_70 : decode prog_1_method_12_code 70 = .ok (.ireturn, 1) := by decide +kernel
theorem dG_node_71 : decode prog_1_method_12_code 71 = .ok (.aload_n 3, 1) := by decide +kernel
theorem dG_node_72 : decode prog_1_method_12_code 72 = .ok (.getfield 123, 3) := by decide +kernel
theorem dG_node_75 : decode prog_1_method_12_code 75 = .ok (.ireturn, 1) := by decide +kernel
theorem dG_node_76 : decode prog_1_method_12_code 76 = .ok (.aload_n 3, 1) := by decide +kernel
theorem dG_node_77 : decode prog_1_method_12_code 77 = .ok (.getfield 120, 3) := by decide +kernel
theorem dG_node_80 : decode prog_1_method_12_code 80 = .ok (.ireturn, 1) := by decide +kernel
theorem dG_node_81 : decode prog_1_method_12_code 81 = .ok (.aload_n 3, 1) := by decide +kernel
theorem dG_node_82 : decode prog_1_method_12_code 82 = .ok (.getfield 141, 3) := by decide +kernel
theorem dG_node_85 : decode prog_1_method_12_code 85 = .ok (.ireturn, 1) := by decide +kernel
theorem dG_node_86 : decode prog_1_method_12_code 86 = .ok (.iload_n 2, 1) := by decide +kernel
theorem dG_node_87 : decode prog_1_method_12_code 87 = .ok (.iconst 3, 1) := by decide +kernel
theorem dG_node_88 : decode prog_1_method_12_code 88 = .ok (.if_icmp .lt 24, 3) := by decide +kernel
theorem dG_node_91 : decode prog_1_method_12_code 91 = .ok (.iload_n 2, 1) := by decide +kernel
theorem dG_node_92 : decode prog_1_method_12_code 92 = .ok (.iconst 3, 1) := by decide +kernel
theorem dG_node_93 : decode prog_1_method_12_code 93 = .ok (.isub, 1) := by decide +kernel
theorem dG_node_94 : decode prog_1_method_12_code 94 = .ok (.aload_n 3, 1) := by decide +kernel
theorem dG_node_95 : decode prog_1_method_12_code 95 = .ok (.getfield 141, 3) := by decide +kernel
theorem dG_node_98 : decode prog_1_method_12_code 98 = .ok (.if_icmp .ge 14, 3) := by decide +kernel
theorem dG_node_101 : decode prog_1_method_12_code 101 = .ok (.aload_n 3, 1) := by decide +kernel
theorem dG_node_102 : decode prog_1_method_12_code 102 = .ok (.getfield 144, 3) := by decide +kernel
theorem dG_node_105 : decode prog_1_method_12_code 105 = .ok (.iload_n 2, 1) := by decide +kernel
theorem dG_node_106 : decode prog_1_method_12_code 106 = .ok (.iconst 3, 1) := by decide +kernel
theorem dG_node_107 : decode prog_1_method_12_code 107 = .ok (.isub, 1) := by decide +kernel
theorem dG_node_108 : decode prog_1_method_12_code 108 = .ok (.iaload, 1) := by decide +kernel
theorem dG_node_109 : decode prog_1_method_12_code 109 = .ok (.goto 4, 3) := by decide +kernel
theorem dG_node_112 : decode prog_1_method_12_code 112 = .ok (.iconst (-1), 1) := by decide +kernel
theorem dG_node_113 : decode prog_1_method_12_code 113 = .ok (.ireturn, 1) := by decide +kernel
theorem dG_order_0 : decode prog_1_method_9_code 0 = .ok (.aload_n 0, 1) := by decide +kernel
theorem dG_order_1 : decode prog_1_method_9_code 1 = .ok (.invokevirtual 62, 3) := by decide +kernel
theorem dG_order_4 : decode prog_1_method_9_code 4 = .ok (.aload_n 0, 1) := by decide +kernel
theorem dG_order_5 : decode prog_1_method_9_code 5 = .ok (.getfield 19, 3) := by decide +kernel
theorem dG_order_8 : decode prog_1_method_9_code 8 = .ok (.getfield 97, 3) := by decide +kernel
theorem dG_order_11 : decode prog_1_method_9_code 11 = .ok (.astore_n 1, 1) := by decide +kernel
theorem dG_order_12 : decode prog_1_method_9_code 12 = .ok (.aload_n 0, 1) := by decide +kernel
theorem dG_order_13 : decode prog_1_method_9_code 13 = .ok (.getfield 28, 3) := by decide +kernel
theorem dG_order_16 : decode prog_1_method_9_code 16 = .ok (.aload_n 1, 1) := by decide +kernel
theorem dG_order_17 : decode prog_1_method_9_code 17 = .ok (.aload_n 0, 1) := by decide +kernel
theorem dG_order_18 : decode prog_1_method_9_code 18 = .ok (.getfield 40, 3) := by decide +kernel
theorem dG_order_21 : decode prog_1_method_9_code 21 = .ok (.aload_n 0, 1) := by decide +kernel
theorem dG_order_22 : decode prog_1_method_9_code 22 = .ok (.getfield 44, 3) := by decide +kernel
theorem dG_order_25 : decode prog_1_method_9_code 25 = .ok (.invokevirtual 101, 3) := by decide +kernel
theorem dG_order_28 : decode prog_1_method_9_code 28 = .ok (.istore_n 2, 1) := by decide +kernel
theorem dG_order_29 : decode prog_1_method_9_code 29 = .ok (.aload_n 0, 1) := by decide +kernel
theorem dG_order_30 : decode prog_1_method_9_code 30 = .ok (.getfield 28, 3) := by decide +kernel
theorem dG_order_33 : decode prog_1_method_9_code 33 = .ok (.getfield 105, 3) := by decide +kernel
theorem dG_order_36 : decode prog_1_method_9_code 36 = .ok (.ifCond .eq 5, 3) := by decide +kernel
theorem dG_order_39 : decode prog_1_method_9_code 39 = .ok (.iconst 3, 1) := by decide +kernel
theorem dG_order_40 : decode prog_1_method_9_code 40 = .ok (.ireturn, 1) := by decide +kernel
theorem dG_order_41 : decode prog_1_method_9_code 41 = .ok (.iload_n 2, 1) := by decide +kernel
theorem dG_order_42 : decode prog_1_method_9_code 42 = .ok (.ifCond .ne 13, 3) := by decide +kernel
theorem dG_order_45 : decode prog_1_method_9_code 45 = .ok (.aload_n 0, 1) := by decide +kernel
theorem dG_order_46 : decode prog_1_method_9_code 46 = .ok (.aload_n 1, 1) := by decide +kernel
theorem dG_order_47 : decode prog_1_method_9_code 47 = .ok (.getfield 108, 3) := by decide +kernel
theorem dG_order_50 : decode prog_1_method_9_code 50 = .ok (.putfield 51, 3) := by decide +kernel
theorem dG_order_53 : decode prog_1_method_9_code 53 = .ok (.iconst 1, 1) := by decide +kernel
theorem dG_order_54 : decode prog_1_method_9_code 54 = .ok (.ireturn, 1) := by decide +kernel
theorem dG_order_55 : decode prog_1_method_9_code 55 = .ok (.aload_n 0, 1) := by decide +kernel
theorem dG_order_56 : decode prog_1_method_9_code 56 = .ok (.getfield 44, 3) := by decide +kernel
theorem dG_order_59 : decode prog_1_method_9_code 59 = .ok (.aload_n 1, 1) := by decide +kernel
theorem dG_order_60 : decode prog_1_method_9_code 60 = .ok (.getfield 111, 3) := by decide +kernel
theorem dG_order_63 : decode prog_1_method_9_code 63 = .ok (.ldc2_w 114, 3) := by decide +kernel
theorem dG_order_66 : decode prog_1_method_9_code 66 = .ok (.lxor, 1) := by decide +kernel
theorem dG_order_67 : decode prog_1_method_9_code 67 = .ok (.land, 1) := by decide +kernel
theorem dG_order_68 : decode prog_1_method_9_code 68 = .ok (.lstore_n 3, 1) := by decide +kernel
theorem dG_order_69 : decode prog_1_method_9_code 69 = .ok (.lload_n 3, 1) := by decide +kernel
theorem dG_order_70 : decode prog_1_method_9_code 70 = .ok (.lconst 0, 1) := by decide +kernel
theorem dG_order_71 : decode prog_1_method_9_code 71 = .ok (.lcmp, 1) := by decide +kernel
theorem dG_order_72 : decode prog_1_method_9_code 72 = .ok (.ifCond .eq 13, 3) := by decide +kernel
theorem dG_order_75 : decode prog_1_method_9_code 75 = .ok (.aload_n 0, 1) := by decide +kernel
theorem dG_order_76 : decode prog_1_method_9_code 76 = .ok (.lload_n 3, 1) := by decide +kernel
theorem dG_order_77 : decode prog_1_method_9_code 77 = .ok (.invokestatic 116, 3) := by decide +kernel
theorem dG_order_80 : decode prog_1_method_9_code 80 = .ok (.putfield 51, 3) := by decide +kernel
theorem dG_order_83 : decode prog_1_method_9_code 83 = .ok (.iconst 2, 1) := by decide +kernel
theorem dG_order_84 : decode prog_1_method_9_code 84 = .ok (.ireturn, 1) := by decide +kernel
theorem dG_order_85 : decode prog_1_method_9_code 85 = .ok (.aload_n 0, 1) := by decide +kernel
theorem dG_order_86 : decode prog_1_method_9_code 86 = .ok (.iconst 1, 1) := by decide +kernel
theorem dG_order_87 : decode prog_1_method_9_code 87 = .ok (.putfield 47, 3) := by decide +kernel
theorem dG_order_90 : decode prog_1_method_9_code 90 = .ok (.iconst 0, 1) := by decide +kernel
theorem dG_order_91 : decode prog_1_method_9_code 91 = .ok (.ireturn, 1) := by decide +kernel
theorem dG_outer_0 : decode prog_1_method_15_code 0 = .ok (.aload_n 0, 1) := by decide +kernel
theorem dG_outer_1 : decode prog_1_method_15_code 1 = .ok (.getfield 19, 3) := by decide +kernel
theorem dG_outer_4 : decode prog_1_method_15_code 4 = .ok (.iload_n 1, 1) := by decide +kernel
theorem dG_outer_5 : decode prog_1_method_15_code 5 = .ok (.invokevirtual 72, 3) := by decide +kernel
theorem dG_outer_8 : decode prog_1_method_15_code 8 = .ok (.astore_n 3, 1) := by decide +kernel
theorem dG_outer_9 : decode prog_1_method_15_code 9 = .ok (.aload_n 3, 1) := by decide +kernel
theorem dG_outer_10 : decode prog_1_method_15_code 10 = .ok (.ifnull 30, 3) := by decide +kernel
theorem dG_outer_13 : decode prog_1_method_15_code 13 = .ok (.iload_n 2, 1) := by decide +kernel
theorem dG_outer_14 : decode prog_1_method_15_code 14 = .ok (.invokestatic 68, 3) := by decide +kernel
theorem dG_outer_17 : decode prog_1_method_15_code 17 = .ok (.ifCond .eq 23, 3) := by decide +kernel
theorem dG_outer_20 : decode prog_1_method_15_code 20 = .ok (.aload_n 3, 1) := by decide +kernel
theorem dG_outer_21 : decode prog_1_method_15_code 21 = .ok (.getfield 158, 3) := by decide +kernel
theorem dG_outer_24 : decode prog_1_method_15_code 24 = .ok (.aload_n 0, 1) := by decide +kernel
theorem dG_outer_25 : decode prog_1_method_15_code 25 = .ok (.getfield 44, 3) := by decide +kernel
theorem dG_outer_28 : decode prog_1_method_15_code 28 = .ok (.lor, 1) := by decide +kernel
theorem dG_outer_29 : decode prog_1_method_15_code 29 = .ok (.iload_n 2, 1) := by decide +kernel
theorem dG_outer_30 : decode prog_1_method_15_code 30 = .ok (.invokestatic 93, 3) := by decide +kernel
theorem dG_outer_33 : decode prog_1_method_15_code 33 = .ok (.ifCond .eq 7, 3) := by decide +kernel
theorem dG_outer_36 : decode prog_1_method_15_code 36 = .ok (.iconst 1, 1) := by decide +kernel
theorem dG_outer_37 : decode prog_1_method_15_code 37 = .ok (.goto 4, 3) := by decide +kernel
theorem dG_outer_40 : decode prog_1_method_15_code 40 = .ok (.iconst 0, 1) := by decide +kernel
theorem dG_outer_41 : decode prog_1_method_15_code 41 = .ok (.ireturn, 1) := by decide +kernel
theorem dG_part_0 : decode prog_1_method_11_code 0 = .ok (.aload_n 0, 1) := by decide +kernel
theorem dG_part_1 : decode prog_1_method_11_code 1 = .ok (.getfield 19, 3) := by decide +kernel
theorem dG_part_4 : decode prog_1_method_11_code 4 = .ok (.iload_n 1, 1) := by decide +kernel
theorem dG_part_5 : decode prog_1_method_11_code 5 = .ok (.invokevirtual 72, 3) := by decide +kernel
theorem dG_part_8 : decode prog_1_method_11_code 8 = .ok (.astore_n 3, 1) := by decide +kernel
theorem dG_part_9 : decode prog_1_method_11_code 9 = .ok (.aload_n 0, 1) := by decide +kernel
theorem dG_part_10 : decode prog_1_method_11_code 10 = .ok (.getfield 47, 3) := by decide +kernel
theorem dG_part_13 : decode prog_1_method_11_code 13 = .ok (.ifCond .eq 19, 3) := by decide +kernel
theorem dG_part_16 : decode prog_1_method_11_code 16 = .ok (.aload_n 3, 1) := by decide +kernel
theorem dG_part_17 : decode prog_1_method_11_code 17 = .ok (.ifnull 15, 3) := by decide +kernel
theorem dG_part_20 : decode prog_1_method_11_code 20 = .ok (.iload_n 2, 1) := by decide +kernel
theorem dG_part_21 : decode prog_1_method_11_code 21 = .ok (.ifCond .lt 11, 3) := by decide +kernel
theorem dG_part_24 : decode prog_1_method_11_code 24 = .ok (.iload_n 2, 1) := by decide +kernel
theorem dG_part_25 : decode prog_1_method_11_code 25 = .ok (.aload_n 3, 1) := by decide +kernel
theorem dG_part_26 : decode prog_1_method_11_code 26 = .ok (.getfield 120, 3) := by decide +kernel
theorem dG_part_29 : decode prog_1_method_11_code 29 = .ok (.if_icmp .lt 5, 3) := by decide +kernel
theorem dG_part_32 : decode prog_1_method_11_code 32 = .ok (.iconst (-1), 1) := by decide +kernel
theorem dG_part_33 : decode prog_1_method_11_code 33 = .ok (.ireturn, 1) := by decide +kernel
theorem dG_part_34 : decode prog_1_method_11_code 34 = .ok (.aload_n 3, 1) := by decide +kernel
theorem dG_part_35 : decode prog_1_method_11_code 35 = .ok (.getfield 123, 3) := by decide +kernel
theorem dG_part_38 : decode prog_1_method_11_code 38 = .ok (.ifCond .ne 11, 3) := by decide +kernel
theorem dG_part_41 : decode prog_1_method_11_code 41 = .ok (.aload_n 3, 1) := by decide +kernel
theorem dG_part_42 : decode prog_1_method_11_code 42 = .ok (.iload_n 2, 1) := by decide +kernel
theorem dG_part_43 : decode prog_1_method_11_code 43 = .ok (.invokevirtual 126, 3) := by decide +kernel
theorem dG_part_46 : decode prog_1_method_11_code 46 = .ok (.goto 8, 3) := by decide +kernel
theorem dG_part_49 : decode prog_1_method_11_code 49 = .ok (.aload_n 3, 1) := by decide +kernel
theorem dG_part_50 : decode prog_1_method_11_code 50 = .ok (.iload_n 2, 1) := by decide +kernel
theorem dG_part_51 : decode prog_1_method_11_code 51 = .ok (.invokevirtual 129, 3) := by decide +kernel
theorem dG_part_54 : decode prog_1_method_11_code 54 = .ok (.astore 4, 2) := by decide +kernel
theorem dG_part_56 : decode prog_1_method_11_code 56 = .ok (.aload 4, 2) := by decide +kernel
theorem dG_part_58 : decode prog_1_method_11_code 58 = .ok (.ifnonnull 7, 3) := by decide +kernel
theorem dG_part_61 : decode prog_1_method_11_code 61 = .ok (.iconst (-1), 1) := by decide +kernel
theorem dG_part_62 : decode prog_1_method_11_code 62 = .ok (.goto 8, 3) := by decide +kernel
theorem dG_part_65 : decode prog_1_method_11_code 65 = .ok (.aload 4, 2) := by decide +kernel
theorem dG_part_67 : decode prog_1_method_11_code 67 = .ok (.getfield 132, 3) := by decide +kernel
theorem dG_part_70 : decode prog_1_method_11_code 70 = .ok (.ireturn, 1) := by decide +kernel
theorem dG_predicate_0 : decode prog_1_method_2_code 0 = .ok (.aload_n 0, 1) := by decide +kernel
theorem dG_predicate_1 : decode prog_1_method_2_code 1 = .ok (.getfield 10, 3) := by decide +kernel
theorem dG_predicate_4 : decode prog_1_method_2_code 4 = .ok (.iload_n 1, 1) := by decide +kernel
theorem dG_predicate_5 : decode prog_1_method_2_code 5 = .ok (.invokevirtual 54, 3) := by decide +kernel
theorem dG_predicate_8 : decode prog_1_method_2_code 8 = .ok (.ireturn, 1) := by decide +kernel
theorem dG_put_0 : decode prog_1_method_5_code 0 = .ok (.aload_n 0, 1) := by decide +kernel
theorem dG_put_1 : decode prog_1_method_5_code 1 = .ok (.getfield 36, 3) := by decide +kernel
theorem dG_put_4 : decode prog_1_method_5_code 4 = .ok (.bipush 7, 2) := by decide +kernel
theorem dG_put_6 : decode prog_1_method_5_code 6 = .ok (.if_icmp .ge 10, 3) := by decide +kernel
theorem dG_put_9 : decode prog_1_method_5_code 9 = .ok (.iload_n 1, 1) := by decide +kernel
theorem dG_put_10 : decode prog_1_method_5_code 10 = .ok (.invokestatic 68, 3) := by decide +kernel
theorem dG_put_13 : decode prog_1_method_5_code 13 = .ok (.ifCond .ne 5, 3) := by decide +kernel
theorem dG_put_16 : decode prog_1_method_5_code 16 = .ok (.iconst 0, 1) := by decide +kernel
theorem dG_put_17 : decode prog_1_method_5_code 17 = .ok (.ireturn, 1) := by decide +kernel
theorem dG_put_18 : decode prog_1_method_5_code 18 = .ok (.aload_n 0, 1) := by decide +kernel
theorem dG_put_19 : decode prog_1_method_5_code 19 = .ok (.getfield 32, 3) := by decide +kernel
theorem dG_put_22 : decode prog_1_method_5_code 22 = .ok (.aload_n 0, 1) := by decide +kernel
theorem dG_put_23 : decode prog_1_method_5_code 23 = .ok (.getfield 36, 3) := by decide +kernel
theorem dG_put_26 : decode prog_1_method_5_code 26 = .ok (.iload_n 1, 1) := by decide +kernel
theorem dG_put_27 : decode prog_1_method_5_code 27 = .ok (.iastore, 1) := by decide +kernel
theorem dG_put_28 : decode prog_1_method_5_code 28 = .ok (.aload_n 0, 1) := by decide +kernel
theorem dG_put_29 : decode prog_1_method_5_code 29 = .ok (.dup, 1) := by decide +kernel
theorem dG_put_30 : decode prog_1_method_5_code 30 = .ok (.getfield 36, 3) := by decide +kernel
theorem dG_put_33 : decode prog_1_method_5_code 33 = .ok (.iconst 1, 1) := by decide +kernel
theorem dG_put_34 : decode prog_1_method_5_code 34 = .ok (.iadd, 1) := by decide +kernel
theorem dG_put_35 : decode prog_1_method_5_code 35 = .ok (.putfield 36, 3) := by decide +kernel
theorem dG_put_38 : decode prog_1_method_5_code 38 = .ok (.iconst 1, 1) := by decide +kernel
theorem dG_put_39 : decode prog_1_method_5_code 39 = .ok (.ireturn, 1) := by decide +kernel
theorem dG_stuck_0 : decode prog_1_method_10_code 0 = .ok (.aload_n 0, 1) := by decide +kernel
theorem dG_stuck_1 : decode prog_1_method_10_code 1 = .ok (.getfield 51, 3) := by decide +kernel
theorem dG_stuck_4 : decode prog_1_method_10_code 4 = .ok (.ireturn, 1) := by decide +kernel
theorem dG_wanted_0 : decode prog_1_method_8_code 0 = .ok (.iload_n 1, 1) := by decide +kernel
theorem dG_wanted_1 : decode prog_1_method_8_code 1 = .ok (.invokestatic 68, 3) := by decide +kernel
theorem dG_wanted_4 : decode prog_1_method_8_code 4 = .ok (.ifCond .eq 15, 3) := by decide +kernel
theorem dG_wanted_7 : decode prog_1_method_8_code 7 = .ok (.aload_n 0, 1) := by decide +kernel
theorem dG_wanted_8 : decode prog_1_method_8_code 8 = .ok (.getfield 44, 3) := by decide +kernel
theorem dG_wanted_11 : decode prog_1_method_8_code 11 = .ok (.iload_n 1, 1) := by decide +kernel
theorem dG_wanted_12 : decode prog_1_method_8_code 12 = .ok (.invokestatic 93, 3) := by decide +kernel
theorem dG_wanted_15 : decode prog_1_method_8_code 15 = .ok (.iload_n 2, 1) := by decide +kernel
theorem dG_wanted_16 : decode prog_1_method_8_code 16 = .ok (.if_icmp .ne 5, 3) := by decide +kernel
theorem dG_wanted_19 : decode prog_1_method_8_code 19 = .ok (.iconst 0, 1) := by decide +kernel
theorem dG_wanted_20 : decode prog_1_method_8_code 20 = .ok (.ireturn, 1) := by decide +kernel
theorem dG_wanted_21 : decode prog_1_method_8_code 21 = .ok (.aload_n 0, 1) := by decide +kernel
theorem dG_wanted_22 : decode prog_1_method_8_code 22 = .ok (.dup, 1) := by decide +kernel
theorem dG_wanted_23 : decode prog_1_method_8_code 23 = .ok (.getfield 44, 3) := by decide +kernel
theorem dG_wanted_26 : decode prog_1_method_8_code 26 = .ok (.lconst 1, 1) := by decide +kernel
theorem dG_wanted_27 : decode prog_1_method_8_code 27 = .ok (.iload_n 1, 1) := by decide +kernel
theorem dG_wanted_28 : decode prog_1_method_8_code 28 = .ok (.lshl, 1) := by decide +kernel
theorem dG_wanted_29 : decode prog_1_method_8_code 29 = .ok (.lxor, 1) := by decide +kernel
theorem dG_wanted_30 : decode prog_1_method_8_code 30 = .ok (.putfield 44, 3) := by decide +kernel
theorem dG_wanted_33 : decode prog_1_method_8_code 33 = .ok (.aload_n 0, 1) := by decide +kernel
theorem dG_wanted_34 : decode prog_1_method_8_code 34 = .ok (.invokevirtual 62, 3) := by decide +kernel
theorem dG_wanted_37 : decode prog_1_method_8_code 37 = .ok (.iconst 1, 1) := by decide +kernel
theorem dG_wanted_38 : decode prog_1_method_8_code 38 = .ok (.ireturn, 1) := by decide +kernel
end
section
theorem dN_append_0 : decode prog_2_method_4_code 0 = .ok (.aload_n 1, 1) := by decide +kernel
theorem dN_append_1 : decode prog_2_method_4_code 1 = .ok (.aload_n 0, 1) := by decide +kernel
theorem dN_append_2 : decode prog_2_method_4_code 2 = .ok (.putfield 34, 3) := by decide +kernel
theorem dN_append_5 : decode prog_2_method_4_code 5 = .ok (.aload_n 1, 1) := by decide +kernel
theorem dN_append_6 : decode prog_2_method_4_code 6 = .ok (.aload_n 0, 1) := by decide +kernel
theorem dN_append_7 : decode prog_2_method_4_code 7 = .ok (.getfield 28, 3) := by decide +kernel
theorem dN_append_10 : decode prog_2_method_4_code 10 = .ok (.iconst 1, 1) := by decide +kernel
theorem dN_append_11 : decode prog_2_method_4_code 11 = .ok (.iadd, 1) := by decide +kernel
theorem dN_append_12 : decode prog_2_method_4_code 12 = .ok (.putfield 28, 3) := by decide +kernel
theorem dN_append_15 : decode prog_2_method_4_code 15 = .ok (.aload_n 0, 1) := by decide +kernel
theorem dN_append_16 : decode prog_2_method_4_code 16 = .ok (.getfield 41, 3) := by decide +kernel
theorem dN_append_19 : decode prog_2_method_4_code 19 = .ok (.ifnonnull 11, 3) := by decide +kernel
theorem dN_append_22 : decode prog_2_method_4_code 22 = .ok (.aload_n 0, 1) := by decide +kernel
theorem dN_append_23 : decode prog_2_method_4_code 23 = .ok (.aload_n 1, 1) := by decide +kernel
theorem dN_append_24 : decode prog_2_method_4_code 24 = .ok (.putfield 38, 3) := by decide +kernel
theorem dN_append_27 : decode prog_2_method_4_code 27 = .ok (.goto 11, 3) := by decide +kernel
theorem dN_append_30 : decode prog_2_method_4_code 30 = .ok (.aload_n 0, 1) := by decide +kernel
theorem dN_append_31 : decode prog_2_method_4_code 31 = .ok (.getfield 41, 3) := by decide +kernel
theorem dN_append_34 : decode prog_2_method_4_code 34 = .ok (.aload_n 1, 1) := by decide +kernel
theorem dN_append_35 : decode prog_2_method_4_code 35 = .ok (.putfield 44, 3) := by decide +kernel
theorem dN_append_38 : decode prog_2_method_4_code 38 = .ok (.aload_n 0, 1) := by decide +kernel
theorem dN_append_39 : decode prog_2_method_4_code 39 = .ok (.aload_n 1, 1) := by decide +kernel
theorem dN_append_40 : decode prog_2_method_4_code 40 = .ok (.putfield 41, 3) := by decide +kernel
theorem dN_append_43 : decode prog_2_method_4_code 43 = .ok (.aload_n 0, 1) := by decide +kernel
theorem dN_append_44 : decode prog_2_method_4_code 44 = .ok (.dup, 1) := by decide +kernel
theorem dN_append_45 : decode prog_2_method_4_code 45 = .ok (.getfield 31, 3) := by decide +kernel
theorem dN_append_48 : decode prog_2_method_4_code 48 = .ok (.iconst 1, 1) := by decide +kernel
theorem dN_append_49 : decode prog_2_method_4_code 49 = .ok (.iadd, 1) := by decide +kernel
theorem dN_append_50 : decode prog_2_method_4_code 50 = .ok (.putfield 31, 3) := by decide +kernel
theorem dN_append_53 : decode prog_2_method_4_code 53 = .ok (.return_, 1) := by decide +kernel
theorem dN_become_0 : decode prog_2_method_2_code 0 = .ok (.aload_n 0, 1) := by decide +kernel
theorem dN_become_1 : decode prog_2_method_2_code 1 = .ok (.iload_n 1, 1) := by decide +kernel
theorem dN_become_2 : decode prog_2_method_2_code 2 = .ok (.putfield 19, 3) := by decide +kernel
theorem dN_become_5 : decode prog_2_method_2_code 5 = .ok (.aload_n 0, 1) := by decide +kernel
theorem dN_become_6 : decode prog_2_method_2_code 6 = .ok (.iload_n 2, 1) := by decide +kernel
theorem dN_become_7 : decode prog_2_method_2_code 7 = .ok (.putfield 22, 3) := by decide +kernel
theorem dN_become_10 : decode prog_2_method_2_code 10 = .ok (.aload_n 0, 1) := by decide +kernel
theorem dN_become_11 : decode prog_2_method_2_code 11 = .ok (.iconst 0, 1) := by decide +kernel
theorem dN_become_12 : decode prog_2_method_2_code 12 = .ok (.putfield 25, 3) := by decide +kernel
theorem dN_become_15 : decode prog_2_method_2_code 15 = .ok (.aload_n 0, 1) := by decide +kernel
theorem dN_become_16 : decode prog_2_method_2_code 16 = .ok (.iconst 0, 1) := by decide +kernel
theorem dN_become_17 : decode prog_2_method_2_code 17 = .ok (.putfield 28, 3) := by decide +kernel
theorem dN_become_20 : decode prog_2_method_2_code 20 = .ok (.aload_n 0, 1) := by decide +kernel
theorem dN_become_21 : decode prog_2_method_2_code 21 = .ok (.iconst 0, 1) := by decide +kernel
theorem dN_become_22 : decode prog_2_method_2_code 22 = .ok (.putfield 31, 3) := by decide +kernel
theorem dN_become_25 : decode prog_2_method_2_code 25 = .ok (.aload_n 0, 1) := by decide +kernel
theorem dN_become_26 : decode prog_2_method_2_code 26 = .ok (.aconst_null, 1) := by decide +kernel
theorem dN_become_27 : decode prog_2_method_2_code 27 = .ok (.putfield 34, 3) := by decide +kernel
theorem dN_become_30 : decode prog_2_method_2_code 30 = .ok (.aload_n 0, 1) := by decide +kernel
theorem dN_become_31 : decode prog_2_method_2_code 31 = .ok (.aconst_null, 1) := by decide +kernel
theorem dN_become_32 : decode prog_2_method_2_code 32 = .ok (.putfield 38, 3) := by decide +kernel
theorem dN_become_35 : decode prog_2_method_2_code 35 = .ok (.aload_n 0, 1) := by decide +kernel
theorem dN_become_36 : decode prog_2_method_2_code 36 = .ok (.aconst_null, 1) := by decide +kernel
theorem dN_become_37 : decode prog_2_method_2_code 37 = .ok (.putfield 41, 3) := by decide +kernel
theorem dN_become_40 : decode prog_2_method_2_code 40 = .ok (.aload_n 0, 1) := by decide +kernel
theorem dN_become_41 : decode prog_2_method_2_code 41 = .ok (.aconst_null, 1) := by decide +kernel
theorem dN_become_42 : decode prog_2_method_2_code 42 = .ok (.putfield 44, 3) := by decide +kernel
theorem dN_become_45 : decode prog_2_method_2_code 45 = .ok (.aload_n 0, 1) := by decide +kernel
theorem dN_become_46 : decode prog_2_method_2_code 46 = .ok (.lconst 0, 1) := by decide +kernel
theorem dN_become_47 : decode prog_2_method_2_code 47 = .ok (.putfield 47, 3) := by decide +kernel
theorem dN_become_50 : decode prog_2_method_2_code 50 = .ok (.aload_n 0, 1) := by decide +kernel
theorem dN_become_51 : decode prog_2_method_2_code 51 = .ok (.lconst 0, 1) := by decide +kernel
theorem dN_become_52 : decode prog_2_method_2_code 52 = .ok (.putfield 51, 3) := by decide +kernel
theorem dN_become_55 : decode prog_2_method_2_code 55 = .ok (.return_, 1) := by decide +kernel
theorem dN_init_0 : decode prog_2_method_1_code 0 = .ok (.aload_n 0, 1) := by decide +kernel
theorem dN_init_1 : decode prog_2_method_1_code 1 = .ok (.invokespecial 3, 3) := by decide +kernel
theorem dN_init_4 : decode prog_2_method_1_code 4 = .ok (.aload_n 0, 1) := by decide +kernel
theorem dN_init_5 : decode prog_2_method_1_code 5 = .ok (.iload_n 1, 1) := by decide +kernel
theorem dN_init_6 : decode prog_2_method_1_code 6 = .ok (.putfield 9, 3) := by decide +kernel
theorem dN_init_9 : decode prog_2_method_1_code 9 = .ok (.aload_n 0, 1) := by decide +kernel
theorem dN_init_10 : decode prog_2_method_1_code 10 = .ok (.bipush 7, 2) := by decide +kernel
theorem dN_init_12 : decode prog_2_method_1_code 12 = .ok (.newarray .int, 2) := by decide +kernel
theorem dN_init_14 : decode prog_2_method_1_code 14 = .ok (.putfield 15, 3) := by decide +kernel
theorem dN_init_17 : decode prog_2_method_1_code 17 = .ok (.return_, 1) := by decide +kernel
theorem dN_isAtom_0 : decode prog_2_method_5_code 0 = .ok (.aload_n 0, 1) := by decide +kernel
theorem dN_isAtom_1 : decode prog_2_method_5_code 1 = .ok (.getfield 19, 3) := by decide +kernel
theorem dN_isAtom_4 : decode prog_2_method_5_code 4 = .ok (.iconst 3, 1) := by decide +kernel
theorem dN_isAtom_5 : decode prog_2_method_5_code 5 = .ok (.if_icmp .le 7, 3) := by decide +kernel
theorem dN_isAtom_8 : decode prog_2_method_5_code 8 = .ok (.iconst 1, 1) := by decide +kernel
theorem dN_isAtom_9 : decode prog_2_method_5_code 9 = .ok (.goto 4, 3) := by decide +kernel
theorem dN_isAtom_12 : decode prog_2_method_5_code 12 = .ok (.iconst 0, 1) := by decide +kernel
theorem dN_isAtom_13 : decode prog_2_method_5_code 13 = .ok (.ireturn, 1) := by decide +kernel
theorem dN_kthDone_0 : decode prog_2_method_8_code 0 = .ok (.aload_n 0, 1) := by decide +kernel
theorem dN_kthDone_1 : decode prog_2_method_8_code 1 = .ok (.getfield 58, 3) := by decide +kernel
theorem dN_kthDone_4 : decode prog_2_method_8_code 4 = .ok (.astore_n 2, 1) := by decide +kernel
theorem dN_kthDone_5 : decode prog_2_method_8_code 5 = .ok (.iconst 0, 1) := by decide +kernel
theorem dN_kthDone_6 : decode prog_2_method_8_code 6 = .ok (.istore_n 3, 1) := by decide +kernel
theorem dN_kthDone_7 : decode prog_2_method_8_code 7 = .ok (.iload_n 3, 1) := by decide +kernel
theorem dN_kthDone_8 : decode prog_2_method_8_code 8 = .ok (.iload_n 1, 1) := by decide +kernel
theorem dN_kthDone_9 : decode prog_2_method_8_code 9 = .ok (.if_icmp .ge 18, 3) := by decide +kernel
theorem dN_kthDone_12 : decode prog_2_method_8_code 12 = .ok (.aload_n 2, 1) := by decide +kernel
theorem dN_kthDone_13 : decode prog_2_method_8_code 13 = .ok (.ifnull 14, 3) := by decide +kernel
theorem dN_kthDone_16 : decode prog_2_method_8_code 16 = .ok (.aload_n 2, 1) := by decide +kernel
theorem dN_kthDone_17 : decode prog_2_method_8_code 17 = .ok (.getfield 61, 3) := by decide +kernel
theorem dN_kthDone_20 : decode prog_2_method_8_code 20 = .ok (.astore_n 2, 1) := by decide +kernel
theorem dN_kthDone_21 : decode prog_2_method_8_code 21 = .ok (.iinc 3 1, 3) := by decide +kernel
theorem dN_kthDone_24 : decode prog_2_method_8_code 24 = .ok (.goto (-17), 3) := by decide +kernel
theorem dN_kthDone_27 : decode prog_2_method_8_code 27 = .ok (.aload_n 2, 1) := by decide +kernel
theorem dN_kthDone_28 : decode prog_2_method_8_code 28 = .ok (.areturn, 1) := by decide +kernel
theorem dN_kthPart_0 : decode prog_2_method_7_code 0 = .ok (.aload_n 0, 1) := by decide +kernel
theorem dN_kthPart_1 : decode prog_2_method_7_code 1 = .ok (.getfield 38, 3) := by decide +kernel
theorem dN_kthPart_4 : decode prog_2_method_7_code 4 = .ok (.astore_n 2, 1) := by decide +kernel
theorem dN_kthPart_5 : decode prog_2_method_7_code 5 = .ok (.iconst 0, 1) := by decide +kernel
theorem dN_kthPart_6 : decode prog_2_method_7_code 6 = .ok (.istore_n 3, 1) := by decide +kernel
theorem dN_kthPart_7 : decode prog_2_method_7_code 7 = .ok (.iload_n 3, 1) := by decide +kernel
theorem dN_kthPart_8 : decode prog_2_method_7_code 8 = .ok (.iload_n 1, 1) := by decide +kernel
theorem dN_kthPart_9 : decode prog_2_method_7_code 9 = .ok (.if_icmp .ge 18, 3) := by decide +kernel
theorem dN_kthPart_12 : decode prog_2_method_7_code 12 = .ok (.aload_n 2, 1) := by decide +kernel
theorem dN_kthPart_13 : decode prog_2_method_7_code 13 = .ok (.ifnull 14, 3) := by decide +kernel
theorem dN_kthPart_16 : decode prog_2_method_7_code 16 = .ok (.aload_n 2, 1) := by decide +kernel
theorem dN_kthPart_17 : decode prog_2_method_7_code 17 = .ok (.getfield 44, 3) := by decide +kernel
theorem dN_kthPart_20 : decode prog_2_method_7_code 20 = .ok (.astore_n 2, 1) := by decide +kernel
theorem dN_kthPart_21 : decode prog_2_method_7_code 21 = .ok (.iinc 3 1, 3) := by decide +kernel
theorem dN_kthPart_24 : decode prog_2_method_7_code 24 = .ok (.goto (-17), 3) := by decide +kernel
theorem dN_kthPart_27 : decode prog_2_method_7_code 27 = .ok (.aload_n 2, 1) := by decide +kernel
theorem dN_kthPart_28 : decode prog_2_method_7_code 28 = .ok (.areturn, 1) := by decide +kernel
theorem dN_meets_0 : decode prog_2_method_11_code 0 = .ok (.iload_n 2, 1) := by decide +kernel
theorem dN_meets_1 : decode prog_2_method_11_code 1 = .ok (.iload_n 1, 1) := by decide +kernel
theorem dN_meets_2 : decode prog_2_method_11_code 2 = .ok (.invokestatic 64, 3) := by decide +kernel
theorem dN_meets_5 : decode prog_2_method_11_code 5 = .ok (.ifCond .ne 5, 3) := by decide +kernel
theorem dN_meets_8 : decode prog_2_method_11_code 8 = .ok (.iconst 0, 1) := by decide +kernel
theorem dN_meets_9 : decode prog_2_method_11_code 9 = .ok (.ireturn, 1) := by decide +kernel
theorem dN_meets_10 : decode prog_2_method_11_code 10 = .ok (.aload_n 0, 1) := by decide +kernel
theorem dN_meets_11 : decode prog_2_method_11_code 11 = .ok (.getfield 68, 3) := by decide +kernel
theorem dN_meets_14 : decode prog_2_method_11_code 14 = .ok (.lstore_n 3, 1) := by decide +kernel
theorem dN_meets_15 : decode prog_2_method_11_code 15 = .ok (.iconst 0, 1) := by decide +kernel
theorem dN_meets_16 : decode prog_2_method_11_code 16 = .ok (.istore 5, 2) := by decide +kernel
theorem dN_meets_18 : decode prog_2_method_11_code 18 = .ok (.iload 5, 2) := by decide +kernel
theorem dN_meets_20 : decode prog_2_method_11_code 20 = .ok (.iload_n 1, 1) := by decide +kernel
theorem dN_meets_21 : decode prog_2_method_11_code 21 = .ok (.if_icmp .ge 18, 3) := by decide +kernel
theorem dN_meets_24 : decode prog_2_method_11_code 24 = .ok (.lload_n 3, 1) := by decide +kernel
theorem dN_meets_25 : decode prog_2_method_11_code 25 = .ok (.aload_n 0, 1) := by decide +kernel
theorem dN_meets_26 : decode prog_2_method_11_code 26 = .ok (.iload 5, 2) := by decide +kernel
theorem dN_meets_28 : decode prog_2_method_11_code 28 = .ok (.invokevirtual 71, 3) := by decide +kernel
theorem dN_meets_31 : decode prog_2_method_11_code 31 = .ok (.lor, 1) := by decide +kernel
theorem dN_meets_32 : decode prog_2_method_11_code 32 = .ok (.lstore_n 3, 1) := by decide +kernel
theorem dN_meets_33 : decode prog_2_method_11_code 33 = .ok (.iinc 5 1, 3) := by decide +kernel
theorem dN_meets_36 : decode prog_2_method_11_code 36 = .ok (.goto (-18), 3) := by decide +kernel
theorem dN_meets_39 : decode prog_2_method_11_code 39 = .ok (.aload_n 0, 1) := by decide +kernel
theorem dN_meets_40 : decode prog_2_method_11_code 40 = .ok (.iload_n 1, 1) := by decide +kernel
theorem dN_meets_41 : decode prog_2_method_11_code 41 = .ok (.invokevirtual 71, 3) := by decide +kernel
theorem dN_meets_44 : decode prog_2_method_11_code 44 = .ok (.lload_n 3, 1) := by decide +kernel
theorem dN_meets_45 : decode prog_2_method_11_code 45 = .ok (.land, 1) := by decide +kernel
theorem dN_meets_46 : decode prog_2_method_11_code 46 = .ok (.lconst 0, 1) := by decide +kernel
theorem dN_meets_47 : decode prog_2_method_11_code 47 = .ok (.lcmp, 1) := by decide +kernel
theorem dN_meets_48 : decode prog_2_method_11_code 48 = .ok (.ifCond .eq 7, 3) := by decide +kernel
theorem dN_meets_51 : decode prog_2_method_11_code 51 = .ok (.iconst 1, 1) := by decide +kernel
theorem dN_meets_52 : decode prog_2_method_11_code 52 = .ok (.goto 4, 3) := by decide +kernel
theorem dN_meets_55 : decode prog_2_method_11_code 55 = .ok (.iconst 0, 1) := by decide +kernel
theorem dN_meets_56 : decode prog_2_method_11_code 56 = .ok (.ireturn, 1) := by decide +kernel
theorem dN_takeVariables_0 : decode prog_2_method_3_code 0 = .ok (.iconst 0, 1) := by decide +kernel
theorem dN_takeVariables_1 : decode prog_2_method_3_code 1 = .ok (.istore_n 3, 1) := by decide +kernel
theorem dN_takeVariables_2 : decode prog_2_method_3_code 2 = .ok (.iload_n 3, 1) := by decide +kernel
theorem dN_takeVariables_3 : decode prog_2_method_3_code 3 = .ok (.iload_n 2, 1) := by decide +kernel
theorem dN_takeVariables_4 : decode prog_2_method_3_code 4 = .ok (.if_icmp .ge 48, 3) := by decide +kernel
theorem dN_takeVariables_7 : decode prog_2_method_3_code 7 = .ok (.iload_n 3, 1) := by decide +kernel
theorem dN_takeVariables_8 : decode prog_2_method_3_code 8 = .ok (.bipush 7, 2) := by decide +kernel
theorem dN_takeVariables_10 : decode prog_2_method_3_code 10 = .ok (.if_icmp .ge 42, 3) := by decide +kernel
theorem dN_takeVariables_13 : decode prog_2_method_3_code 13 = .ok (.aload_n 0, 1) := by decide +kernel
theorem dN_takeVariables_14 : decode prog_2_method_3_code 14 = .ok (.getfield 15, 3) := by decide +kernel
theorem dN_takeVariables_17 : decode prog_2_method_3_code 17 = .ok (.iload_n 3, 1) := by decide +kernel
theorem dN_takeVariables_18 : decode prog_2_method_3_code 18 = .ok (.aload_n 1, 1) := by decide +kernel
theorem dN_takeVariables_19 : decode prog_2_method_3_code 19 = .ok (.iload_n 3, 1) := by decide +kernel
theorem dN_takeVariables_20 : decode prog_2_method_3_code 20 = .ok (.iaload, 1) := by decide +kernel
theorem dN_takeVariables_21 : decode prog_2_method_3_code 21 = .ok (.iastore, 1) := by decide +kernel
theorem dN_takeVariables_22 : decode prog_2_method_3_code 22 = .ok (.aload_n 0, 1) := by decide +kernel
theorem dN_takeVariables_23 : decode prog_2_method_3_code 23 = .ok (.dup, 1) := by decide +kernel
theorem dN_takeVariables_24 : decode prog_2_method_3_code 24 = .ok (.getfield 47, 3) := by decide +kernel
theorem dN_takeVariables_27 : decode prog_2_method_3_code 27 = .ok (.lconst 1, 1) := by decide +kernel
theorem dN_takeVariables_28 : decode prog_2_method_3_code 28 = .ok (.aload_n 1, 1) := by decide +kernel
theorem dN_takeVariables_29 : decode prog_2_method_3_code 29 = .ok (.iload_n 3, 1) := by decide +kernel
theorem dN_takeVariables_30 : decode prog_2_method_3_code 30 = .ok (.iaload, 1) := by decide +kernel
theorem dN_takeVariables_31 : decode prog_2_method_3_code 31 = .ok (.lshl, 1) := by decide +kernel
theorem dN_takeVariables_32 : decode prog_2_method_3_code 32 = .ok (.lor, 1) := by decide +kernel
theorem dN_takeVariables_33 : decode prog_2_method_3_code 33 = .ok (.putfield 47, 3) := by decide +kernel
theorem dN_takeVariables_36 : decode prog_2_method_3_code 36 = .ok (.aload_n 0, 1) := by decide +kernel
theorem dN_takeVariables_37 : decode prog_2_method_3_code 37 = .ok (.dup, 1) := by decide +kernel
theorem dN_takeVariables_38 : decode prog_2_method_3_code 38 = .ok (.getfield 25, 3) := by decide +kernel
theorem dN_takeVariables_41 : decode prog_2_method_3_code 41 = .ok (.iconst 1, 1) := by decide +kernel
theorem dN_takeVariables_42 : decode prog_2_method_3_code 42 = .ok (.iadd, 1) := by decide +kernel
theorem dN_takeVariables_43 : decode prog_2_method_3_code 43 = .ok (.putfield 25, 3) := by decide +kernel
theorem dN_takeVariables_46 : decode prog_2_method_3_code 46 = .ok (.iinc 3 1, 3) := by decide +kernel
theorem dN_takeVariables_49 : decode prog_2_method_3_code 49 = .ok (.goto (-47), 3) := by decide +kernel
theorem dN_takeVariables_52 : decode prog_2_method_3_code 52 = .ok (.return_, 1) := by decide +kernel
theorem dN_takesPart_0 : decode prog_2_method_6_code 0 = .ok (.aload_n 0, 1) := by decide +kernel
theorem dN_takesPart_1 : decode prog_2_method_6_code 1 = .ok (.invokevirtual 54, 3) := by decide +kernel
theorem dN_takesPart_4 : decode prog_2_method_6_code 4 = .ok (.ifCond .ne 12, 3) := by decide +kernel
theorem dN_takesPart_7 : decode prog_2_method_6_code 7 = .ok (.aload_n 0, 1) := by decide +kernel
theorem dN_takesPart_8 : decode prog_2_method_6_code 8 = .ok (.getfield 28, 3) := by decide +kernel
theorem dN_takesPart_11 : decode prog_2_method_6_code 11 = .ok (.bipush 20, 2) := by decide +kernel
theorem dN_takesPart_13 : decode prog_2_method_6_code 13 = .ok (.if_icmp .lt 5, 3) := by decide +kernel
theorem dN_takesPart_16 : decode prog_2_method_6_code 16 = .ok (.iconst 0, 1) := by decide +kernel
theorem dN_takesPart_17 : decode prog_2_method_6_code 17 = .ok (.ireturn, 1) := by decide +kernel
theorem dN_takesPart_18 : decode prog_2_method_6_code 18 = .ok (.aload_n 0, 1) := by decide +kernel
theorem dN_takesPart_19 : decode prog_2_method_6_code 19 = .ok (.getfield 19, 3) := by decide +kernel
theorem dN_takesPart_22 : decode prog_2_method_6_code 22 = .ok (.iconst 2, 1) := by decide +kernel
theorem dN_takesPart_23 : decode prog_2_method_6_code 23 = .ok (.if_icmp .ne 11, 3) := by decide +kernel
theorem dN_takesPart_26 : decode prog_2_method_6_code 26 = .ok (.aload_n 0, 1) := by decide +kernel
theorem dN_takesPart_27 : decode prog_2_method_6_code 27 = .ok (.getfield 31, 3) := by decide +kernel
theorem dN_takesPart_30 : decode prog_2_method_6_code 30 = .ok (.iconst 1, 1) := by decide +kernel
theorem dN_takesPart_31 : decode prog_2_method_6_code 31 = .ok (.if_icmp .ge 23, 3) := by decide +kernel
theorem dN_takesPart_34 : decode prog_2_method_6_code 34 = .ok (.aload_n 0, 1) := by decide +kernel
theorem dN_takesPart_35 : decode prog_2_method_6_code 35 = .ok (.getfield 19, 3) := by decide +kernel
theorem dN_takesPart_38 : decode prog_2_method_6_code 38 = .ok (.iconst 3, 1) := by decide +kernel
theorem dN_takesPart_39 : decode prog_2_method_6_code 39 = .ok (.if_icmp .ne 11, 3) := by decide +kernel
theorem dN_takesPart_42 : decode prog_2_method_6_code 42 = .ok (.aload_n 0, 1) := by decide +kernel
theorem dN_takesPart_43 : decode prog_2_method_6_code 43 = .ok (.getfield 31, 3) := by decide +kernel
theorem dN_takesPart_46 : decode prog_2_method_6_code 46 = .ok (.iconst 3, 1) := by decide +kernel
theorem dN_takesPart_47 : decode prog_2_method_6_code 47 = .ok (.if_icmp .ge 7, 3) := by decide +kernel
theorem dN_takesPart_50 : decode prog_2_method_6_code 50 = .ok (.iconst 1, 1) := by decide +kernel
theorem dN_takesPart_51 : decode prog_2_method_6_code 51 = .ok (.goto 4, 3) := by decide +kernel
theorem dN_takesPart_54 : decode prog_2_method_6_code 54 = .ok (.iconst 0, 1) := by decide +kernel
theorem dN_takesPart_55 : decode prog_2_method_6_code 55 = .ok (.ireturn, 1) := by decide +kernel
theorem dN_variableAt_0 : decode prog_2_method_10_code 0 = .ok (.iload_n 1, 1) := by decide +kernel
theorem dN_variableAt_1 : decode prog_2_method_10_code 1 = .ok (.ifCond .lt 22, 3) := by decide +kernel
theorem dN_variableAt_4 : decode prog_2_method_10_code 4 = .ok (.iload_n 1, 1) := by decide +kernel
theorem dN_variableAt_5 : decode prog_2_method_10_code 5 = .ok (.aload_n 0, 1) := by decide +kernel
theorem dN_variableAt_6 : decode prog_2_method_10_code 6 = .ok (.getfield 25, 3) := by decide +kernel
theorem dN_variableAt_9 : decode prog_2_method_10_code 9 = .ok (.if_icmp .ge 14, 3) := by decide +kernel
theorem dN_variableAt_12 : decode prog_2_method_10_code 12 = .ok (.lconst 1, 1) := by decide +kernel
theorem dN_variableAt_13 : decode prog_2_method_10_code 13 = .ok (.aload_n 0, 1) := by decide +kernel
theorem dN_variableAt_14 : decode prog_2_method_10_code 14 = .ok (.getfield 15, 3) := by decide +kernel
theorem dN_variableAt_17 : decode prog_2_method_10_code 17 = .ok (.iload_n 1, 1) := by decide +kernel
theorem dN_variableAt_18 : decode prog_2_method_10_code 18 = .ok (.iaload, 1) := by decide +kernel
theorem dN_variableAt_19 : decode prog_2_method_10_code 19 = .ok (.lshl, 1) := by decide +kernel
theorem dN_variableAt_20 : decode prog_2_method_10_code 20 = .ok (.goto 4, 3) := by decide +kernel
theorem dN_variableAt_23 : decode prog_2_method_10_code 23 = .ok (.lconst 0, 1) := by decide +kernel
theorem dN_variableAt_24 : decode prog_2_method_10_code 24 = .ok (.lreturn, 1) := by decide +kernel
theorem dN_variablesFrom_0 : decode prog_2_method_9_code 0 = .ok (.lconst 0, 1) := by decide +kernel
theorem dN_variablesFrom_1 : decode prog_2_method_9_code 1 = .ok (.lstore_n 2, 1) := by decide +kernel
theorem dN_variablesFrom_2 : decode prog_2_method_9_code 2 = .ok (.iload_n 1, 1) := by decide +kernel
theorem dN_variablesFrom_3 : decode prog_2_method_9_code 3 = .ok (.istore 4, 2) := by decide +kernel
theorem dN_variablesFrom_5 : decode prog_2_method_9_code 5 = .ok (.iload 4, 2) := by decide +kernel
theorem dN_variablesFrom_7 : decode prog_2_method_9_code 7 = .ok (.aload_n 0, 1) := by decide +kernel
theorem dN_variablesFrom_8 : decode prog_2_method_9_code 8 = .ok (.getfield 25, 3) := by decide +kernel
theorem dN_variablesFrom_11 : decode prog_2_method_9_code 11 = .ok (.if_icmp .ge 21, 3) := by decide +kernel
theorem dN_variablesFrom_14 : decode prog_2_method_9_code 14 = .ok (.lload_n 2, 1) := by decide +kernel
theorem dN_variablesFrom_15 : decode prog_2_method_9_code 15 = .ok (.lconst 1, 1) := by decide +kernel
theorem dN_variablesFrom_16 : decode prog_2_method_9_code 16 = .ok (.aload_n 0, 1) := by decide +kernel
theorem dN_variablesFrom_17 : decode prog_2_method_9_code 17 = .ok (.getfield 15, 3) := by decide +kernel
theorem dN_variablesFrom_20 : decode prog_2_method_9_code 20 = .ok (.iload 4, 2) := by decide +kernel
theorem dN_variablesFrom_22 : decode prog_2_method_9_code 22 = .ok (.iaload, 1) := by decide +kernel
theorem dN_variablesFrom_23 : decode prog_2_method_9_code 23 = .ok (.lshl, 1) := by decide +kernel
theorem dN_variablesFrom_24 : decode prog_2_method_9_code 24 = .ok (.lor, 1) := by decide +kernel
theorem dN_variablesFrom_25 : decode prog_2_method_9_code 25 = .ok (.lstore_n 2, 1) := by decide +kernel
theorem dN_variablesFrom_26 : decode prog_2_method_9_code 26 = .ok (.iinc 4 1, 3) := by decide +kernel
theorem dN_variablesFrom_29 : decode prog_2_method_9_code 29 = .ok (.goto (-24), 3) := by decide +kernel
theorem dN_variablesFrom_32 : decode prog_2_method_9_code 32 = .ok (.lload_n 2, 1) := by decide +kernel
theorem dN_variablesFrom_33 : decode prog_2_method_9_code 33 = .ok (.lreturn, 1) := by decide +kernel
end
section
theorem dP_argumentsOf_0 : decode prog_3_method_5_code 0 = .ok (.aload_n 0, 1) := by decide +kernel
theorem dP_argumentsOf_1 : decode prog_3_method_5_code 1 = .ok (.iload_n 1, 1) := by decide +kernel
theorem dP_argumentsOf_2 : decode prog_3_method_5_code 2 = .ok (.invokevirtual 25, 3) := by decide +kernel
theorem dP_argumentsOf_5 : decode prog_3_method_5_code 5 = .ok (.ifCond .eq 12, 3) := by decide +kernel
theorem dP_argumentsOf_8 : decode prog_3_method_5_code 8 = .ok (.aload_n 0, 1) := by decide +kernel
theorem dP_argumentsOf_9 : decode prog_3_method_5_code 9 = .ok (.getfield 9, 3) := by decide +kernel
theorem dP_argumentsOf_12 : decode prog_3_method_5_code 12 = .ok (.iload_n 1, 1) := by decide +kernel
theorem dP_argumentsOf_13 : decode prog_3_method_5_code 13 = .ok (.iaload, 1) := by decide +kernel
theorem dP_argumentsOf_14 : decode prog_3_method_5_code 14 = .ok (.goto 4, 3) := by decide +kernel
theorem dP_argumentsOf_17 : decode prog_3_method_5_code 17 = .ok (.iconst 0, 1) := by decide +kernel
theorem dP_argumentsOf_18 : decode prog_3_method_5_code 18 = .ok (.ireturn, 1) := by decide +kernel
theorem dP_define_0 : decode prog_3_method_2_code 0 = .ok (.aload_n 0, 1) := by decide +kernel
theorem dP_define_1 : decode prog_3_method_2_code 1 = .ok (.getfield 21, 3) := by decide +kernel
theorem dP_define_4 : decode prog_3_method_2_code 4 = .ok (.bipush 60, 2) := by decide +kernel
theorem dP_define_6 : decode prog_3_method_2_code 6 = .ok (.if_icmp .ge 13, 3) := by decide +kernel
theorem dP_define_9 : decode prog_3_method_2_code 9 = .ok (.iload_n 1, 1) := by decide +kernel
theorem dP_define_10 : decode prog_3_method_2_code 10 = .ok (.ifCond .lt 9, 3) := by decide +kernel
theorem dP_define_13 : decode prog_3_method_2_code 13 = .ok (.iload_n 1, 1) := by decide +kernel
theorem dP_define_14 : decode prog_3_method_2_code 14 = .ok (.bipush 6, 2) := by decide +kernel
theorem dP_define_16 : decode prog_3_method_2_code 16 = .ok (.if_icmp .le 5, 3) := by decide +kernel
theorem dP_define_19 : decode prog_3_method_2_code 19 = .ok (.iconst (-1), 1) := by decide +kernel
theorem dP_define_20 : decode prog_3_method_2_code 20 = .ok (.ireturn, 1) := by decide +kernel
theorem dP_define_21 : decode prog_3_method_2_code 21 = .ok (.aload_n 0, 1) := by decide +kernel
theorem dP_define_22 : decode prog_3_method_2_code 22 = .ok (.getfield 9, 3) := by decide +kernel
theorem dP_define_25 : decode prog_3_method_2_code 25 = .ok (.aload_n 0, 1) := by decide +kernel
theorem dP_define_26 : decode prog_3_method_2_code 26 = .ok (.getfield 21, 3) := by decide +kernel
theorem dP_define_29 : decode prog_3_method_2_code 29 = .ok (.iload_n 1, 1) := by decide +kernel
theorem dP_define_30 : decode prog_3_method_2_code 30 = .ok (.iastore, 1) := by decide +kernel
theorem dP_define_31 : decode prog_3_method_2_code 31 = .ok (.aload_n 0, 1) := by decide +kernel
theorem dP_define_32 : decode prog_3_method_2_code 32 = .ok (.dup, 1) := by decide +kernel
theorem dP_define_33 : decode prog_3_method_2_code 33 = .ok (.getfield 21, 3) := by decide +kernel
theorem dP_define_36 : decode prog_3_method_2_code 36 = .ok (.iconst 1, 1) := by decide +kernel
theorem dP_define_37 : decode prog_3_method_2_code 37 = .ok (.iadd, 1) := by decide +kernel
theorem dP_define_38 : decode prog_3_method_2_code 38 = .ok (.putfield 21, 3) := by decide +kernel
theorem dP_define_41 : decode prog_3_method_2_code 41 = .ok (.aload_n 0, 1) := by decide +kernel
theorem dP_define_42 : decode prog_3_method_2_code 42 = .ok (.getfield 21, 3) := by decide +kernel
theorem dP_define_45 : decode prog_3_method_2_code 45 = .ok (.iconst 1, 1) := by decide +kernel
theorem dP_define_46 : decode prog_3_method_2_code 46 = .ok (.isub, 1) := by decide +kernel
theorem dP_define_47 : decode prog_3_method_2_code 47 = .ok (.ireturn, 1) := by decide +kernel
theorem dP_defineMode_0 : decode prog_3_method_3_code 0 = .ok (.aload_n 0, 1) := by decide +kernel
theorem dP_defineMode_1 : decode prog_3_method_3_code 1 = .ok (.iload_n 1, 1) := by decide +kernel
theorem dP_defineMode_2 : decode prog_3_method_3_code 2 = .ok (.invokevirtual 25, 3) := by decide +kernel
theorem dP_defineMode_5 : decode prog_3_method_3_code 5 = .ok (.ifCond .eq 13, 3) := by decide +kernel
theorem dP_defineMode_8 : decode prog_3_method_3_code 8 = .ok (.aload_n 0, 1) := by decide +kernel
theorem dP_defineMode_9 : decode prog_3_method_3_code 9 = .ok (.getfield 15, 3) := by decide +kernel
theorem dP_defineMode_12 : decode prog_3_method_3_code 12 = .ok (.iload_n 1, 1) := by decide +kernel
theorem dP_defineMode_13 : decode prog_3_method_3_code 13 = .ok (.iaload, 1) := by decide +kernel
theorem dP_defineMode_14 : decode prog_3_method_3_code 14 = .ok (.iconst 4, 1) := by decide +kernel
theorem dP_defineMode_15 : decode prog_3_method_3_code 15 = .ok (.if_icmp .lt 5, 3) := by decide +kernel
theorem dP_defineMode_18 : decode prog_3_method_3_code 18 = .ok (.iconst (-1), 1) := by decide +kernel
theorem dP_defineMode_19 : decode prog_3_method_3_code 19 = .ok (.ireturn, 1) := by decide +kernel
theorem dP_defineMode_20 : decode prog_3_method_3_code 20 = .ok (.aload_n 0, 1) := by decide +kernel
theorem dP_defineMode_21 : decode prog_3_method_3_code 21 = .ok (.getfield 15, 3) := by decide +kernel
theorem dP_defineMode_24 : decode prog_3_method_3_code 24 = .ok (.iload_n 1, 1) := by decide +kernel
theorem dP_defineMode_25 : decode prog_3_method_3_code 25 = .ok (.iaload, 1) := by decide +kernel
theorem dP_defineMode_26 : decode prog_3_method_3_code 26 = .ok (.istore_n 3, 1) := by decide +kernel
theorem dP_defineMode_27 : decode prog_3_method_3_code 27 = .ok (.aload_n 0, 1) := by decide +kernel
theorem dP_defineMode_28 : decode prog_3_method_3_code 28 = .ok (.getfield 18, 3) := by decide +kernel
theorem dP_defineMode_31 : decode prog_3_method_3_code 31 = .ok (.iload_n 1, 1) := by decide +kernel
theorem dP_defineMode_32 : decode prog_3_method_3_code 32 = .ok (.iconst 4, 1) := by decide +kernel
theorem dP_defineMode_33 : decode prog_3_method_3_code 33 = .ok (.imul, 1) := by decide +kernel
theorem dP_defineMode_34 : decode prog_3_method_3_code 34 = .ok (.iload_n 3, 1) := by decide +kernel
theorem dP_defineMode_35 : decode prog_3_method_3_code 35 = .ok (.iadd, 1) := by decide +kernel
theorem dP_defineMode_36 : decode prog_3_method_3_code 36 = .ok (.iload_n 2, 1) := by decide +kernel
theorem dP_defineMode_37 : decode prog_3_method_3_code 37 = .ok (.iastore, 1) := by decide +kernel
theorem dP_defineMode_38 : decode prog_3_method_3_code 38 = .ok (.aload_n 0, 1) := by decide +kernel
theorem dP_defineMode_39 : decode prog_3_method_3_code 39 = .ok (.getfield 15, 3) := by decide +kernel
theorem dP_defineMode_42 : decode prog_3_method_3_code 42 = .ok (.iload_n 1, 1) := by decide +kernel
theorem dP_defineMode_43 : decode prog_3_method_3_code 43 = .ok (.iload_n 3, 1) := by decide +kernel
theorem dP_defineMode_44 : decode prog_3_method_3_code 44 = .ok (.iconst 1, 1) := by decide +kernel
theorem dP_defineMode_45 : decode prog_3_method_3_code 45 = .ok (.iadd, 1) := by decide +kernel
theorem dP_defineMode_46 : decode prog_3_method_3_code 46 = .ok (.iastore, 1) := by decide +kernel
theorem dP_defineMode_47 : decode prog_3_method_3_code 47 = .ok (.iload_n 3, 1) := by decide +kernel
theorem dP_defineMode_48 : decode prog_3_method_3_code 48 = .ok (.ireturn, 1) := by decide +kernel
theorem dP_has_0 : decode prog_3_method_4_code 0 = .ok (.iload_n 1, 1) := by decide +kernel
theorem dP_has_1 : decode prog_3_method_4_code 1 = .ok (.ifCond .lt 15, 3) := by decide +kernel
theorem dP_has_4 : decode prog_3_method_4_code 4 = .ok (.iload_n 1, 1) := by decide +kernel
theorem dP_has_5 : decode prog_3_method_4_code 5 = .ok (.aload_n 0, 1) := by decide +kernel
theorem dP_has_6 : decode prog_3_method_4_code 6 = .ok (.getfield 21, 3) := by decide +kernel
theorem dP_has_9 : decode prog_3_method_4_code 9 = .ok (.if_icmp .ge 7, 3) := by decide +kernel
theorem dP_has_12 : decode prog_3_method_4_code 12 = .ok (.iconst 1, 1) := by decide +kernel
theorem dP_has_13 : decode prog_3_method_4_code 13 = .ok (.goto 4, 3) := by decide +kernel
theorem dP_has_16 : decode prog_3_method_4_code 16 = .ok (.iconst 0, 1) := by decide +kernel
theorem dP_has_17 : decode prog_3_method_4_code 17 = .ok (.ireturn, 1) := by decide +kernel
theorem dP_init_0 : decode prog_3_method_1_code 0 = .ok (.aload_n 0, 1) := by decide +kernel
theorem dP_init_1 : decode prog_3_method_1_code 1 = .ok (.invokespecial 3, 3) := by decide +kernel
theorem dP_init_4 : decode prog_3_method_1_code 4 = .ok (.aload_n 0, 1) := by decide +kernel
theorem dP_init_5 : decode prog_3_method_1_code 5 = .ok (.bipush 60, 2) := by decide +kernel
theorem dP_init_7 : decode prog_3_method_1_code 7 = .ok (.newarray .int, 2) := by decide +kernel
theorem dP_init_9 : decode prog_3_method_1_code 9 = .ok (.putfield 9, 3) := by decide +kernel
theorem dP_init_12 : decode prog_3_method_1_code 12 = .ok (.aload_n 0, 1) := by decide +kernel
theorem dP_init_13 : decode prog_3_method_1_code 13 = .ok (.bipush 60, 2) := by decide +kernel
theorem dP_init_15 : decode prog_3_method_1_code 15 = .ok (.newarray .int, 2) := by decide +kernel
theorem dP_init_17 : decode prog_3_method_1_code 17 = .ok (.putfield 15, 3) := by decide +kernel
theorem dP_init_20 : decode prog_3_method_1_code 20 = .ok (.aload_n 0, 1) := by decide +kernel
theorem dP_init_21 : decode prog_3_method_1_code 21 = .ok (.sipush 240, 3) := by decide +kernel
theorem dP_init_24 : decode prog_3_method_1_code 24 = .ok (.newarray .int, 2) := by decide +kernel
theorem dP_init_26 : decode prog_3_method_1_code 26 = .ok (.putfield 18, 3) := by decide +kernel
theorem dP_init_29 : decode prog_3_method_1_code 29 = .ok (.aload_n 0, 1) := by decide +kernel
theorem dP_init_30 : decode prog_3_method_1_code 30 = .ok (.iconst 0, 1) := by decide +kernel
theorem dP_init_31 : decode prog_3_method_1_code 31 = .ok (.putfield 21, 3) := by decide +kernel
theorem dP_init_34 : decode prog_3_method_1_code 34 = .ok (.return_, 1) := by decide +kernel
theorem dP_modesOf_0 : decode prog_3_method_6_code 0 = .ok (.aload_n 0, 1) := by decide +kernel
theorem dP_modesOf_1 : decode prog_3_method_6_code 1 = .ok (.iload_n 1, 1) := by decide +kernel
theorem dP_modesOf_2 : decode prog_3_method_6_code 2 = .ok (.invokevirtual 25, 3) := by decide +kernel
theorem dP_modesOf_5 : decode prog_3_method_6_code 5 = .ok (.ifCond .eq 12, 3) := by decide +kernel
theorem dP_modesOf_8 : decode prog_3_method_6_code 8 = .ok (.aload_n 0, 1) := by decide +kernel
theorem dP_modesOf_9 : decode prog_3_method_6_code 9 = .ok (.getfield 15, 3) := by decide +kernel
theorem dP_modesOf_12 : decode prog_3_method_6_code 12 = .ok (.iload_n 1, 1) := by decide +kernel
theorem dP_modesOf_13 : decode prog_3_method_6_code 13 = .ok (.iaload, 1) := by decide +kernel
theorem dP_modesOf_14 : decode prog_3_method_6_code 14 = .ok (.goto 4, 3) := by decide +kernel
theorem dP_modesOf_17 : decode prog_3_method_6_code 17 = .ok (.iconst 0, 1) := by decide +kernel
theorem dP_modesOf_18 : decode prog_3_method_6_code 18 = .ok (.ireturn, 1) := by decide +kernel
theorem dP_outsOf_0 : decode prog_3_method_7_code 0 = .ok (.iload_n 2, 1) := by decide +kernel
theorem dP_outsOf_1 : decode prog_3_method_7_code 1 = .ok (.ifCond .lt 25, 3) := by decide +kernel
theorem dP_outsOf_4 : decode prog_3_method_7_code 4 = .ok (.iload_n 2, 1) := by decide +kernel
theorem dP_outsOf_5 : decode prog_3_method_7_code 5 = .ok (.aload_n 0, 1) := by decide +kernel
theorem dP_outsOf_6 : decode prog_3_method_7_code 6 = .ok (.iload_n 1, 1) := by decide +kernel
theorem dP_outsOf_7 : decode prog_3_method_7_code 7 = .ok (.invokevirtual 29, 3) := by decide +kernel
theorem dP_outsOf_10 : decode prog_3_method_7_code 10 = .ok (.if_icmp .ge 16, 3) := by decide +kernel
theorem dP_outsOf_13 : decode prog_3_method_7_code 13 = .ok (.aload_n 0, 1) := by decide +kernel
theorem dP_outsOf_14 : decode prog_3_method_7_code 14 = .ok (.getfield 18, 3) := by decide +kernel
theorem dP_outsOf_17 : decode prog_3_method_7_code 17 = .ok (.iload_n 1, 1) := by decide +kernel
theorem dP_outsOf_18 : decode prog_3_method_7_code 18 = .ok (.iconst 4, 1) := by decide +kernel
theorem dP_outsOf_19 : decode prog_3_method_7_code 19 = .ok (.imul, 1) := by decide +kernel
theorem dP_outsOf_20 : decode prog_3_method_7_code 20 = .ok (.iload_n 2, 1) := by decide +kernel
theorem dP_outsOf_21 : decode prog_3_method_7_code 21 = .ok (.iadd, 1) := by decide +kernel
theorem dP_outsOf_22 : decode prog_3_method_7_code 22 = .ok (.iaload, 1) := by decide +kernel
theorem dP_outsOf_23 : decode prog_3_method_7_code 23 = .ok (.goto 4, 3) := by decide +kernel
theorem dP_outsOf_26 : decode prog_3_method_7_code 26 = .ok (.iconst 0, 1) := by decide +kernel
theorem dP_outsOf_27 : decode prog_3_method_7_code 27 = .ok (.ireturn, 1) := by decide +kernel
theorem dT_find_0 : decode prog_4_method_4_code 0 = .ok (.iload_n 1, 1) := by decide +kernel
theorem dT_find_1 : decode prog_4_method_4_code 1 = .ok (.ifCond .lt 20, 3) := by decide +kernel
theorem dT_find_4 : decode prog_4_method_4_code 4 = .ok (.iload_n 1, 1) := by decide +kernel
theorem dT_find_5 : decode prog_4_method_4_code 5 = .ok (.aload_n 0, 1) := by decide +kernel
theorem dT_find_6 : decode prog_4_method_4_code 6 = .ok (.getfield 31, 3) := by decide +kernel
theorem dT_find_9 : decode prog_4_method_4_code 9 = .ok (.if_icmp .ge 12, 3) := by decide +kernel
theorem dT_find_12 : decode prog_4_method_4_code 12 = .ok (.aload_n 0, 1) := by decide +kernel
theorem dT_find_13 : decode prog_4_method_4_code 13 = .ok (.getfield 20, 3) := by decide +kernel
theorem dT_find_16 : decode prog_4_method_4_code 16 = .ok (.iload_n 1, 1) := by decide +kernel
theorem dT_find_17 : decode prog_4_method_4_code 17 = .ok (.aaload, 1) := by decide +kernel
theorem dT_find_18 : decode prog_4_method_4_code 18 = .ok (.goto 4, 3) := by decide +kernel
theorem dT_find_21 : decode prog_4_method_4_code 21 = .ok (.aconst_null, 1) := by decide +kernel
theorem dT_find_22 : decode prog_4_method_4_code 22 = .ok (.areturn, 1) := by decide +kernel
theorem dT_grow_0 : decode prog_4_method_5_code 0 = .ok (.aload_n 0, 1) := by decide +kernel
theorem dT_grow_1 : decode prog_4_method_5_code 1 = .ok (.invokevirtual 35, 3) := by decide +kernel
theorem dT_grow_4 : decode prog_4_method_5_code 4 = .ok (.ifCond .eq 5, 3) := by decide +kernel
theorem dT_grow_7 : decode prog_4_method_5_code 7 = .ok (.iconst (-1), 1) := by decide +kernel
theorem dT_grow_8 : decode prog_4_method_5_code 8 = .ok (.ireturn, 1) := by decide +kernel
theorem dT_grow_9 : decode prog_4_method_5_code 9 = .ok (.aload_n 0, 1) := by decide +kernel
theorem dT_grow_10 : decode prog_4_method_5_code 10 = .ok (.getfield 20, 3) := by decide +kernel
theorem dT_grow_13 : decode prog_4_method_5_code 13 = .ok (.aload_n 0, 1) := by decide +kernel
theorem dT_grow_14 : decode prog_4_method_5_code 14 = .ok (.getfield 31, 3) := by decide +kernel
theorem dT_grow_17 : decode prog_4_method_5_code 17 = .ok (.aaload, 1) := by decide +kernel
theorem dT_grow_18 : decode prog_4_method_5_code 18 = .ok (.astore 6, 2) := by decide +kernel
theorem dT_grow_20 : decode prog_4_method_5_code 20 = .ok (.aload 6, 2) := by decide +kernel
theorem dT_grow_22 : decode prog_4_method_5_code 22 = .ok (.ifnonnull 27, 3) := by decide +kernel
theorem dT_grow_25 : decode prog_4_method_5_code 25 = .ok (.new 9, 3) := by decide +kernel
theorem dT_grow_28 : decode prog_4_method_5_code 28 = .ok (.dup, 1) := by decide +kernel
theorem dT_grow_29 : decode prog_4_method_5_code 29 = .ok (.aload_n 0, 1) := by decide +kernel
theorem dT_grow_30 : decode prog_4_method_5_code 30 = .ok (.getfield 31, 3) := by decide +kernel
theorem dT_grow_33 : decode prog_4_method_5_code 33 = .ok (.invokespecial 11, 3) := by decide +kernel
theorem dT_grow_36 : decode prog_4_method_5_code 36 = .ok (.astore 6, 2) := by decide +kernel
theorem dT_grow_38 : decode prog_4_method_5_code 38 = .ok (.aload_n 0, 1) := by decide +kernel
theorem dT_grow_39 : decode prog_4_method_5_code 39 = .ok (.getfield 20, 3) := by decide +kernel
theorem dT_grow_42 : decode prog_4_method_5_code 42 = .ok (.aload_n 0, 1) := by decide +kernel
theorem dT_grow_43 : decode prog_4_method_5_code 43 = .ok (.getfield 31, 3) := by decide +kernel
theorem dT_grow_46 : decode prog_4_method_5_code 46 = .ok (.aload 6, 2) := by decide +kernel
theorem dT_grow_48 : decode prog_4_method_5_code 48 = .ok (.aastore, 1) := by decide +kernel
theorem dT_grow_49 : decode prog_4_method_5_code 49 = .ok (.aload 6, 2) := by decide +kernel
theorem dT_grow_51 : decode prog_4_method_5_code 51 = .ok (.iload_n 2, 1) := by decide +kernel
theorem dT_grow_52 : decode prog_4_method_5_code 52 = .ok (.iload_n 3, 1) := by decide +kernel
theorem dT_grow_53 : decode prog_4_method_5_code 53 = .ok (.invokevirtual 27, 3) := by decide +kernel
theorem dT_grow_56 : decode prog_4_method_5_code 56 = .ok (.aload 6, 2) := by decide +kernel
theorem dT_grow_58 : decode prog_4_method_5_code 58 = .ok (.aload_n 0, 1) := by decide +kernel
theorem dT_grow_59 : decode prog_4_method_5_code 59 = .ok (.getfield 14, 3) := by decide +kernel
theorem dT_grow_62 : decode prog_4_method_5_code 62 = .ok (.getfield 39, 3) := by decide +kernel
theorem dT_grow_65 : decode prog_4_method_5_code 65 = .ok (.putfield 43, 3) := by decide +kernel
theorem dT_grow_68 : decode prog_4_method_5_code 68 = .ok (.aload 6, 2) := by decide +kernel
theorem dT_grow_70 : decode prog_4_method_5_code 70 = .ok (.aload 4, 2) := by decide +kernel
theorem dT_grow_72 : decode prog_4_method_5_code 72 = .ok (.iload 5, 2) := by decide +kernel
theorem dT_grow_74 : decode prog_4_method_5_code 74 = .ok (.invokevirtual 46, 3) := by decide +kernel
theorem dT_grow_77 : decode prog_4_method_5_code 77 = .ok (.aload_n 1, 1) := by decide +kernel
theorem dT_grow_78 : decode prog_4_method_5_code 78 = .ok (.aload 6, 2) := by decide +kernel
theorem dT_grow_80 : decode prog_4_method_5_code 80 = .ok (.invokevirtual 50, 3) := by decide +kernel
theorem dT_grow_83 : decode prog_4_method_5_code 83 = .ok (.aload_n 0, 1) := by decide +kernel
theorem dT_grow_84 : decode prog_4_method_5_code 84 = .ok (.dup, 1) := by decide +kernel
theorem dT_grow_85 : decode prog_4_method_5_code 85 = .ok (.getfield 31, 3) := by decide +kernel
theorem dT_grow_88 : decode prog_4_method_5_code 88 = .ok (.iconst 1, 1) := by decide +kernel
theorem dT_grow_89 : decode prog_4_method_5_code 89 = .ok (.iadd, 1) := by decide +kernel
theorem dT_grow_90 : decode prog_4_method_5_code 90 = .ok (.putfield 31, 3) := by decide +kernel
theorem dT_grow_93 : decode prog_4_method_5_code 93 = .ok (.aload_n 0, 1) := by decide +kernel
theorem dT_grow_94 : decode prog_4_method_5_code 94 = .ok (.aload 6, 2) := by decide +kernel
theorem dT_grow_96 : decode prog_4_method_5_code 96 = .ok (.invokevirtual 54, 3) := by decide +kernel
theorem dT_grow_99 : decode prog_4_method_5_code 99 = .ok (.aload 6, 2) := by decide +kernel
theorem dT_grow_101 : decode prog_4_method_5_code 101 = .ok (.getfield 57, 3) := by decide +kernel
theorem dT_grow_104 : decode prog_4_method_5_code 104 = .ok (.ireturn, 1) := by decide +kernel
theorem dT_init_0 : decode prog_4_method_1_code 0 = .ok (.aload_n 0, 1) := by decide +kernel
theorem dT_init_1 : decode prog_4_method_1_code 1 = .ok (.invokespecial 3, 3) := by decide +kernel
theorem dT_init_4 : decode prog_4_method_1_code 4 = .ok (.aload_n 0, 1) := by decide +kernel
theorem dT_init_5 : decode prog_4_method_1_code 5 = .ok (.new 9, 3) := by decide +kernel
theorem dT_init_8 : decode prog_4_method_1_code 8 = .ok (.dup, 1) := by decide +kernel
theorem dT_init_9 : decode prog_4_method_1_code 9 = .ok (.iconst 0, 1) := by decide +kernel
theorem dT_init_10 : decode prog_4_method_1_code 10 = .ok (.invokespecial 11, 3) := by decide +kernel
theorem dT_init_13 : decode prog_4_method_1_code 13 = .ok (.putfield 14, 3) := by decide +kernel
theorem dT_init_16 : decode prog_4_method_1_code 16 = .ok (.aload_n 0, 1) := by decide +kernel
theorem dT_init_17 : decode prog_4_method_1_code 17 = .ok (.sipush 250, 3) := by decide +kernel
theorem dT_init_20 : decode prog_4_method_1_code 20 = .ok (.anewarray 9, 3) := by decide +kernel
theorem dT_init_23 : decode prog_4_method_1_code 23 = .ok (.putfield 20, 3) := by decide +kernel
theorem dT_init_26 : decode prog_4_method_1_code 26 = .ok (.aload_n 0, 1) := by decide +kernel
theorem dT_init_27 : decode prog_4_method_1_code 27 = .ok (.getfield 20, 3) := by decide +kernel
theorem dT_init_30 : decode prog_4_method_1_code 30 = .ok (.iconst 0, 1) := by decide +kernel
theorem dT_init_31 : decode prog_4_method_1_code 31 = .ok (.aload_n 0, 1) := by decide +kernel
theorem dT_init_32 : decode prog_4_method_1_code 32 = .ok (.getfield 14, 3) := by decide +kernel
theorem dT_init_35 : decode prog_4_method_1_code 35 = .ok (.aastore, 1) := by decide +kernel
theorem dT_init_36 : decode prog_4_method_1_code 36 = .ok (.aload_n 0, 1) := by decide +kernel
theorem dT_init_37 : decode prog_4_method_1_code 37 = .ok (.invokevirtual 24, 3) := by decide +kernel
theorem dT_init_40 : decode prog_4_method_1_code 40 = .ok (.return_, 1) := by decide +kernel
theorem dT_isFull_0 : decode prog_4_method_3_code 0 = .ok (.aload_n 0, 1) := by decide +kernel
theorem dT_isFull_1 : decode prog_4_method_3_code 1 = .ok (.getfield 31, 3) := by decide +kernel
theorem dT_isFull_4 : decode prog_4_method_3_code 4 = .ok (.sipush 250, 3) := by decide +kernel
theorem dT_isFull_7 : decode prog_4_method_3_code 7 = .ok (.if_icmp .lt 7, 3) := by decide +kernel
theorem dT_isFull_10 : decode prog_4_method_3_code 10 = .ok (.iconst 1, 1) := by decide +kernel
theorem dT_isFull_11 : decode prog_4_method_3_code 11 = .ok (.goto 4, 3) := by decide +kernel
theorem dT_isFull_14 : decode prog_4_method_3_code 14 = .ok (.iconst 0, 1) := by decide +kernel
theorem dT_isFull_15 : decode prog_4_method_3_code 15 = .ok (.ireturn, 1) := by decide +kernel
theorem dT_reset_0 : decode prog_4_method_2_code 0 = .ok (.aload_n 0, 1) := by decide +kernel
theorem dT_reset_1 : decode prog_4_method_2_code 1 = .ok (.getfield 14, 3) := by decide +kernel
theorem dT_reset_4 : decode prog_4_method_2_code 4 = .ok (.iconst 0, 1) := by decide +kernel
theorem dT_reset_5 : decode prog_4_method_2_code 5 = .ok (.iconst (-1), 1) := by decide +kernel
theorem dT_reset_6 : decode prog_4_method_2_code 6 = .ok (.invokevirtual 27, 3) := by decide +kernel
theorem dT_reset_9 : decode prog_4_method_2_code 9 = .ok (.aload_n 0, 1) := by decide +kernel
theorem dT_reset_10 : decode prog_4_method_2_code 10 = .ok (.iconst 1, 1) := by decide +kernel
theorem dT_reset_11 : decode prog_4_method_2_code 11 = .ok (.putfield 31, 3) := by decide +kernel
theorem dT_reset_14 : decode prog_4_method_2_code 14 = .ok (.return_, 1) := by decide +kernel
theorem dT_spreadVariables_0 : decode prog_4_method_6_code 0 = .ok (.aload_n 1, 1) := by decide +kernel
theorem dT_spreadVariables_1 : decode prog_4_method_6_code 1 = .ok (.getfield 60, 3) := by decide +kernel
theorem dT_spreadVariables_4 : decode prog_4_method_6_code 4 = .ok (.astore_n 2, 1) := by decide +kernel
theorem dT_spreadVariables_5 : decode prog_4_method_6_code 5 = .ok (.aload_n 1, 1) := by decide +kernel
theorem dT_spreadVariables_6 : decode prog_4_method_6_code 6 = .ok (.getfield 57, 3) := by decide +kernel
theorem dT_spreadVariables_9 : decode prog_4_method_6_code 9 = .ok (.iconst 1, 1) := by decide +kernel
theorem dT_spreadVariables_10 : decode prog_4_method_6_code 10 = .ok (.isub, 1) := by decide +kernel
theorem dT_spreadVariables_11 : decode prog_4_method_6_code 11 = .ok (.istore_n 3, 1) := by decide +kernel
theorem dT_spreadVariables_12 : decode prog_4_method_6_code 12 = .ok (.iload_n 3, 1) := by decide +kernel
theorem dT_spreadVariables_13 : decode prog_4_method_6_code 13 = .ok (.ifCond .lt 68, 3) := by decide +kernel
theorem dT_spreadVariables_16 : decode prog_4_method_6_code 16 = .ok (.aload_n 0, 1) := by decide +kernel
theorem dT_spreadVariables_17 : decode prog_4_method_6_code 17 = .ok (.getfield 20, 3) := by decide +kernel
theorem dT_spreadVariables_20 : decode prog_4_method_6_code 20 = .ok (.iload_n 3, 1) := by decide +kernel
theorem dT_spreadVariables_21 : decode prog_4_method_6_code 21 = .ok (.aaload, 1) := by decide +kernel
theorem dT_spreadVariables_22 : decode prog_4_method_6_code 22 = .ok (.astore 4, 2) := by decide +kernel
theorem dT_spreadVariables_24 : decode prog_4_method_6_code 24 = .ok (.aload 4, 2) := by decide +kernel
theorem dT_spreadVariables_26 : decode prog_4_method_6_code 26 = .ok (.ifnonnull 6, 3) := by decide +kernel
theorem dT_spreadVariables_29 : decode prog_4_method_6_code 29 = .ok (.goto 46, 3) := by decide +kernel
theorem dT_spreadVariables_32 : decode prog_4_method_6_code 32 = .ok (.aload 4, 2) := by decide +kernel
theorem dT_spreadVariables_34 : decode prog_4_method_6_code 34 = .ok (.aload_n 2, 1) := by decide +kernel
theorem dT_spreadVariables_35 : decode prog_4_method_6_code 35 = .ok (.if_acmp .ne 26, 3) := by decide +kernel
theorem dT_spreadVariables_38 : decode prog_4_method_6_code 38 = .ok (.aload 4, 2) := by decide +kernel
theorem dT_spreadVariables_40 : decode prog_4_method_6_code 40 = .ok (.dup, 1) := by decide +kernel
theorem dT_spreadVariables_41 : decode prog_4_method_6_code 41 = .ok (.getfield 39, 3) := by decide +kernel
theorem dT_spreadVariables_44 : decode prog_4_method_6_code 44 = .ok (.aload_n 1, 1) := by decide +kernel
theorem dT_spreadVariables_45 : decode prog_4_method_6_code 45 = .ok (.getfield 39, 3) := by decide +kernel
theorem dT_spreadVariables_48 : decode prog_4_method_6_code 48 = .ok (.lor, 1) := by decide +kernel
theorem dT_spreadVariables_49 : decode prog_4_method_6_code 49 = .ok (.putfield 39, 3) := by decide +kernel
theorem dT_spreadVariables_52 : decode prog_4_method_6_code 52 = .ok (.aload 4, 2) := by decide +kernel
theorem dT_spreadVariables_54 : decode prog_4_method_6_code 54 = .ok (.getfield 60, 3) := by decide +kernel
theorem dT_spreadVariables_57 : decode prog_4_method_6_code 57 = .ok (.astore_n 2, 1) := by decide +kernel
theorem dT_spreadVariables_58 : decode prog_4_method_6_code 58 = .ok (.goto 17, 3) := by decide +kernel
theorem dT_spreadVariables_61 : decode prog_4_method_6_code 61 = .ok (.aload 4, 2) := by decide +kernel
theorem dT_spreadVariables_63 : decode prog_4_method_6_code 63 = .ok (.dup, 1) := by decide +kernel
theorem dT_spreadVariables_64 : decode prog_4_method_6_code 64 = .ok (.getfield 43, 3) := by decide +kernel
theorem dT_spreadVariables_67 : decode prog_4_method_6_code 67 = .ok (.aload_n 1, 1) := by decide +kernel
theorem dT_spreadVariables_68 : decode prog_4_method_6_code 68 = .ok (.getfield 39, 3) := by decide +kernel
theorem dT_spreadVariables_71 : decode prog_4_method_6_code 71 = .ok (.lor, 1) := by decide +kernel
theorem dT_spreadVariables_72 : decode prog_4_method_6_code 72 = .ok (.putfield 43, 3) := by decide +kernel
theorem dT_spreadVariables_75 : decode prog_4_method_6_code 75 = .ok (.iinc 3 (-1), 3) := by decide +kernel
theorem dT_spreadVariables_78 : decode prog_4_method_6_code 78 = .ok (.goto (-66), 3) := by decide +kernel
theorem dT_spreadVariables_81 : decode prog_4_method_6_code 81 = .ok (.return_, 1) := by decide +kernel
end
section
theorem dR_canDo_0 : decode prog_5_method_3_code 0 = .ok (.aload_n 0, 1) := by decide +kernel
theorem dR_canDo_1 : decode prog_5_method_3_code 1 = .ok (.getfield 19, 3) := by decide +kernel
theorem dR_canDo_4 : decode prog_5_method_3_code 4 = .ok (.sipush 20000, 3) := by decide +kernel
theorem dR_canDo_7 : decode prog_5_method_3_code 7 = .ok (.if_icmp .lt 10, 3) := by decide +kernel
theorem dR_canDo_10 : decode prog_5_method_3_code 10 = .ok (.aload_n 0, 1) := by decide +kernel
theorem dR_canDo_11 : decode prog_5_method_3_code 11 = .ok (.iconst 1, 1) := by decide +kernel
theorem dR_canDo_12 : decode prog_5_method_3_code 12 = .ok (.putfield 23, 3) := by decide +kernel
theorem dR_canDo_15 : decode prog_5_method_3_code 15 = .ok (.iconst 0, 1) := by decide +kernel
theorem dR_canDo_16 : decode prog_5_method_3_code 16 = .ok (.ireturn, 1) := by decide +kernel
theorem dR_canDo_17 : decode prog_5_method_3_code 17 = .ok (.aload_n 0, 1) := by decide +kernel
theorem dR_canDo_18 : decode prog_5_method_3_code 18 = .ok (.dup, 1) := by decide +kernel
theorem dR_canDo_19 : decode prog_5_method_3_code 19 = .ok (.getfield 19, 3) := by decide +kernel
theorem dR_canDo_22 : decode prog_5_method_3_code 22 = .ok (.iconst 1, 1) := by decide +kernel
theorem dR_canDo_23 : decode prog_5_method_3_code 23 = .ok (.iadd, 1) := by decide +kernel
theorem dR_canDo_24 : decode prog_5_method_3_code 24 = .ok (.putfield 19, 3) := by decide +kernel
theorem dR_canDo_27 : decode prog_5_method_3_code 27 = .ok (.aload_n 1, 1) := by decide +kernel
theorem dR_canDo_28 : decode prog_5_method_3_code 28 = .ok (.lload_n 2, 1) := by decide +kernel
theorem dR_canDo_29 : decode prog_5_method_3_code 29 = .ok (.putfield 31, 3) := by decide +kernel
theorem dR_canDo_32 : decode prog_5_method_3_code 32 = .ok (.aload_n 1, 1) := by decide +kernel
theorem dR_canDo_33 : decode prog_5_method_3_code 33 = .ok (.lload_n 2, 1) := by decide +kernel
theorem dR_canDo_34 : decode prog_5_method_3_code 34 = .ok (.putfield 36, 3) := by decide +kernel
theorem dR_canDo_37 : decode prog_5_method_3_code 37 = .ok (.aload_n 1, 1) := by decide +kernel
theorem dR_canDo_38 : decode prog_5_method_3_code 38 = .ok (.aload_n 1, 1) := by decide +kernel
theorem dR_canDo_39 : decode prog_5_method_3_code 39 = .ok (.getfield 39, 3) := by decide +kernel
theorem dR_canDo_42 : decode prog_5_method_3_code 42 = .ok (.putfield 42, 3) := by decide +kernel
theorem dR_canDo_45 : decode prog_5_method_3_code 45 = .ok (.aload_n 1, 1) := by decide +kernel
theorem dR_canDo_46 : decode prog_5_method_3_code 46 = .ok (.getfield 45, 3) := by decide +kernel
theorem dR_canDo_49 : decode prog_5_method_3_code 49 = .ok (.tableswitch 55 0 3 #[31, 37, 43, 49], 31) := by decide +kernel
theorem dR_canDo_80 : decode prog_5_method_3_code 80 = .ok (.aload_n 0, 1) := by decide +kernel
theorem dR_canDo_81 : decode prog_5_method_3_code 81 = .ok (.aload_n 1, 1) := by decide +kernel
theorem dR_canDo_82 : decode prog_5_method_3_code 82 = .ok (.invokevirtual 48, 3) := by decide +kernel
theorem dR_canDo_85 : decode prog_5_method_3_code 85 = .ok (.ireturn, 1) := by decide +kernel
theorem dR_canDo_86 : decode prog_5_method_3_code 86 = .ok (.aload_n 0, 1) := by decide +kernel
theorem dR_canDo_87 : decode prog_5_method_3_code 87 = .ok (.aload_n 1, 1) := by decide +kernel
theorem dR_canDo_88 : decode prog_5_method_3_code 88 = .ok (.invokevirtual 52, 3) := by decide +kernel
theorem dR_canDo_91 : decode prog_5_method_3_code 91 = .ok (.ireturn, 1) := by decide +kernel
theorem dR_canDo_92 : decode prog_5_method_3_code 92 = .ok (.aload_n 0, 1) := by decide +kernel
theorem dR_canDo_93 : decode prog_5_method_3_code 93 = .ok (.aload_n 1, 1) := by decide +kernel
theorem dR_canDo_94 : decode prog_5_method_3_code 94 = .ok (.invokevirtual 55, 3) := by decide +kernel
theorem dR_canDo_97 : decode prog_5_method_3_code 97 = .ok (.ireturn, 1) := by decide +kernel
theorem dR_canDo_98 : decode prog_5_method_3_code 98 = .ok (.aload_n 0, 1) := by decide +kernel
theorem dR_canDo_99 : decode prog_5_method_3_code 99 = .ok (.aload_n 1, 1) := by decide +kernel
theorem dR_canDo_100 : decode prog_5_method_3_code 100 = .ok (.invokevirtual 58, 3) := by decide +kernel
theorem dR_canDo_103 : decode prog_5_method_3_code 103 = .ok (.ireturn, 1) := by decide +kernel
theorem dR_canDo_104 : decode prog_5_method_3_code 104 = .ok (.aload_n 0, 1) := by decide +kernel
theorem dR_canDo_105 : decode prog_5_method_3_code 105 = .ok (.aload_n 1, 1) := by decide +kernel
theorem dR_canDo_106 : decode prog_5_method_3_code 106 = .ok (.invokevirtual 61, 3) := by decide +kernel
theorem dR_canDo_109 : decode prog_5_method_3_code 109 = .ok (.ireturn, 1) := by decide +kernel
theorem dR_canDoAtom_0 : decode prog_5_method_14_code 0 = .ok (.aload_n 1, 1) := by decide +kernel
theorem dR_canDoAtom_1 : decode prog_5_method_14_code 1 = .ok (.getfield 45, 3) := by decide +kernel
theorem dR_canDoAtom_4 : decode prog_5_method_14_code 4 = .ok (.tableswitch 91 6 12 #[44, 49, 75, 80, 80, 49, 85], 44) := by decide +kernel
theorem dR_canDoAtom_48 : decode prog_5_method_14_code 48 = .ok (.aload_n 1, 1) := by decide +kernel
theorem dR_canDoAtom_49 : decode prog_5_method_14_code 49 = .ok (.invokestatic 118, 3) := by decide +kernel
theorem dR_canDoAtom_52 : decode prog_5_method_14_code 52 = .ok (.ireturn, 1) := by decide +kernel
theorem dR_canDoAtom_53 : decode prog_5_method_14_code 53 = .ok (.aload_n 1, 1) := by decide +kernel
theorem dR_canDoAtom_54 : decode prog_5_method_14_code 54 = .ok (.aload_n 1, 1) := by decide +kernel
theorem dR_canDoAtom_55 : decode prog_5_method_14_code 55 = .ok (.getfield 112, 3) := by decide +kernel
theorem dR_canDoAtom_58 : decode prog_5_method_14_code 58 = .ok (.invokestatic 121, 3) := by decide +kernel
theorem dR_canDoAtom_61 : decode prog_5_method_14_code 61 = .ok (.ifCond .eq 16, 3) := by decide +kernel
theorem dR_canDoAtom_64 : decode prog_5_method_14_code 64 = .ok (.aload_n 1, 1) := by decide +kernel
theorem dR_canDoAtom_65 : decode prog_5_method_14_code 65 = .ok (.iconst 1, 1) := by decide +kernel
theorem dR_canDoAtom_66 : decode prog_5_method_14_code 66 = .ok (.lconst 0, 1) := by decide +kernel
theorem dR_canDoAtom_67 : decode prog_5_method_14_code 67 = .ok (.invokestatic 124, 3) := by decide +kernel
theorem dR_canDoAtom_70 : decode prog_5_method_14_code 70 = .ok (.ifCond .eq 7, 3) := by decide +kernel
theorem dR_canDoAtom_73 : decode prog_5_method_14_code 73 = .ok (.iconst 1, 1) := by decide +kernel
theorem dR_canDoAtom_74 : decode prog_5_method_14_code 74 = .ok (.goto 4, 3) := by decide +kernel
theorem dR_canDoAtom_77 : decode prog_5_method_14_code 77 = .ok (.iconst 0, 1) := by decide +kernel
theorem dR_canDoAtom_78 : decode prog_5_method_14_code 78 = .ok (.ireturn, 1) := by decide +kernel
theorem dR_canDoAtom_79 : decode prog_5_method_14_code 79 = .ok (.aload_n 1, 1) := by decide +kernel
theorem dR_canDoAtom_80 : decode prog_5_method_14_code 80 = .ok (.invokestatic 128, 3) := by decide +kernel
theorem dR_canDoAtom_83 : decode prog_5_method_14_code 83 = .ok (.ireturn, 1) := by decide +kernel
theorem dR_canDoAtom_84 : decode prog_5_method_14_code 84 = .ok (.aload_n 1, 1) := by decide +kernel
theorem dR_canDoAtom_85 : decode prog_5_method_14_code 85 = .ok (.invokestatic 131, 3) := by decide +kernel
theorem dR_canDoAtom_88 : decode prog_5_method_14_code 88 = .ok (.ireturn, 1) := by decide +kernel
theorem dR_canDoAtom_89 : decode prog_5_method_14_code 89 = .ok (.aload_n 0, 1) := by decide +kernel
theorem dR_canDoAtom_90 : decode prog_5_method_14_code 90 = .ok (.aload_n 1, 1) := by decide +kernel
theorem dR_canDoAtom_91 : decode prog_5_method_14_code 91 = .ok (.invokevirtual 134, 3) := by decide +kernel
theorem dR_canDoAtom_94 : decode prog_5_method_14_code 94 = .ok (.ireturn, 1) := by decide +kernel
theorem dR_canDoAtom_95 : decode prog_5_method_14_code 95 = .ok (.aload_n 1, 1) := by decide +kernel
theorem dR_canDoAtom_96 : decode prog_5_method_14_code 96 = .ok (.iconst 0, 1) := by decide +kernel
theorem dR_canDoAtom_97 : decode prog_5_method_14_code 97 = .ok (.lconst 0, 1) := by decide +kernel
theorem dR_canDoAtom_98 : decode prog_5_method_14_code 98 = .ok (.invokestatic 124, 3) := by decide +kernel
theorem dR_canDoAtom_101 : decode prog_5_method_14_code 101 = .ok (.ireturn, 1) := by decide +kernel
theorem dR_canDoCall_0 : decode prog_5_method_18_code 0 = .ok (.aload_n 0, 1) := by decide +kernel
theorem dR_canDoCall_1 : decode prog_5_method_18_code 1 = .ok (.getfield 9, 3) := by decide +kernel
theorem dR_canDoCall_4 : decode prog_5_method_18_code 4 = .ok (.aload_n 1, 1) := by decide +kernel
theorem dR_canDoCall_5 : decode prog_5_method_18_code 5 = .ok (.getfield 144, 3) := by decide +kernel
theorem dR_canDoCall_8 : decode prog_5_method_18_code 8 = .ok (.invokevirtual 147, 3) := by decide +kernel
theorem dR_canDoCall_11 : decode prog_5_method_18_code 11 = .ok (.istore_n 2, 1) := by decide +kernel
theorem dR_canDoCall_12 : decode prog_5_method_18_code 12 = .ok (.iconst 0, 1) := by decide +kernel
theorem dR_canDoCall_13 : decode prog_5_method_18_code 13 = .ok (.istore_n 3, 1) := by decide +kernel
theorem dR_canDoCall_14 : decode prog_5_method_18_code 14 = .ok (.iload_n 3, 1) := by decide +kernel
theorem dR_canDoCall_15 : decode prog_5_method_18_code 15 = .ok (.iload_n 2, 1) := by decide +kernel
theorem dR_canDoCall_16 : decode prog_5_method_18_code 16 = .ok (.if_icmp .ge 42, 3) := by decide +kernel
theorem dR_canDoCall_19 : decode prog_5_method_18_code 19 = .ok (.aload_n 1, 1) := by decide +kernel
theorem dR_canDoCall_20 : decode prog_5_method_18_code 20 = .ok (.aload_n 1, 1) := by decide +kernel
theorem dR_canDoCall_21 : decode prog_5_method_18_code 21 = .ok (.aload_n 0, 1) := by decide +kernel
theorem dR_canDoCall_22 : decode prog_5_method_18_code 22 = .ok (.getfield 9, 3) := by decide +kernel
theorem dR_canDoCall_25 : decode prog_5_method_18_code 25 = .ok (.aload_n 1, 1) := by decide +kernel
theorem dR_canDoCall_26 : decode prog_5_method_18_code 26 = .ok (.getfield 144, 3) := by decide +kernel
theorem dR_canDoCall_29 : decode prog_5_method_18_code 29 = .ok (.iload_n 3, 1) := by decide +kernel
theorem dR_canDoCall_30 : decode prog_5_method_18_code 30 = .ok (.invokevirtual 153, 3) := by decide +kernel
theorem dR_canDoCall_33 : decode prog_5_method_18_code 33 = .ok (.invokestatic 157, 3) := by decide +kernel
theorem dR_canDoCall_36 : decode prog_5_method_18_code 36 = .ok (.invokestatic 121, 3) := by decide +kernel
theorem dR_canDoCall_39 : decode prog_5_method_18_code 39 = .ok (.ifCond .eq 13, 3) := by decide +kernel
theorem dR_canDoCall_42 : decode prog_5_method_18_code 42 = .ok (.aload_n 1, 1) := by decide +kernel
theorem dR_canDoCall_43 : decode prog_5_method_18_code 43 = .ok (.iload_n 3, 1) := by decide +kernel
theorem dR_canDoCall_44 : decode prog_5_method_18_code 44 = .ok (.aload_n 1, 1) := by decide +kernel
theorem dR_canDoCall_45 : decode prog_5_method_18_code 45 = .ok (.getfield 112, 3) := by decide +kernel
theorem dR_canDoCall_48 : decode prog_5_method_18_code 48 = .ok (.invokestatic 124, 3) := by decide +kernel
theorem dR_canDoCall_51 : decode prog_5_method_18_code 51 = .ok (.ireturn, 1) := by decide +kernel
theorem dR_canDoCall_52 : decode prog_5_method_18_code 52 = .ok (.iinc 3 1, 3) := by decide +kernel
theorem dR_canDoCall_55 : decode prog_5_method_18_code 55 = .ok (.goto (-41), 3) := by decide +kernel
theorem dR_canDoCall_58 : decode prog_5_method_18_code 58 = .ok (.iconst 0, 1) := by decide +kernel
theorem dR_canDoCall_59 : decode prog_5_method_18_code 59 = .ok (.ireturn, 1) := by decide +kernel
theorem dR_canDoChoice_0 : decode prog_5_method_7_code 0 = .ok (.ldc2_w 91, 3) := by decide +kernel
theorem dR_canDoChoice_3 : decode prog_5_method_7_code 3 = .ok (.lstore_n 2, 1) := by decide +kernel
theorem dR_canDoChoice_4 : decode prog_5_method_7_code 4 = .ok (.lconst 0, 1) := by decide +kernel
theorem dR_canDoChoice_5 : decode prog_5_method_7_code 5 = .ok (.lstore 4, 2) := by decide +kernel
theorem dR_canDoChoice_7 : decode prog_5_method_7_code 7 = .ok (.aload_n 1, 1) := by decide +kernel
theorem dR_canDoChoice_8 : decode prog_5_method_7_code 8 = .ok (.getfield 64, 3) := by decide +kernel
theorem dR_canDoChoice_11 : decode prog_5_method_7_code 11 = .ok (.astore 6, 2) := by decide +kernel
theorem dR_canDoChoice_13 : decode prog_5_method_7_code 13 = .ok (.aload 6, 2) := by decide +kernel
theorem dR_canDoChoice_15 : decode prog_5_method_7_code 15 = .ok (.ifnull 47, 3) := by decide +kernel
theorem dR_canDoChoice_18 : decode prog_5_method_7_code 18 = .ok (.aload_n 0, 1) := by decide +kernel
theorem dR_canDoChoice_19 : decode prog_5_method_7_code 19 = .ok (.aload_n 1, 1) := by decide +kernel
theorem dR_canDoChoice_20 : decode prog_5_method_7_code 20 = .ok (.aload 6, 2) := by decide +kernel
theorem dR_canDoChoice_22 : decode prog_5_method_7_code 22 = .ok (.aload_n 1, 1) := by decide +kernel
theorem dR_canDoChoice_23 : decode prog_5_method_7_code 23 = .ok (.getfield 31, 3) := by decide +kernel
theorem dR_canDoChoice_26 : decode prog_5_method_7_code 26 = .ok (.invokevirtual 93, 3) := by decide +kernel
theorem dR_canDoChoice_29 : decode prog_5_method_7_code 29 = .ok (.ifCond .ne 5, 3) := by decide +kernel
theorem dR_canDoChoice_32 : decode prog_5_method_7_code 32 = .ok (.iconst 0, 1) := by decide +kernel
theorem dR_canDoChoice_33 : decode prog_5_method_7_code 33 = .ok (.ireturn, 1) := by decide +kernel
theorem dR_canDoChoice_34 : decode prog_5_method_7_code 34 = .ok (.lload_n 2, 1) := by decide +kernel
theorem dR_canDoChoice_35 : decode prog_5_method_7_code 35 = .ok (.aload 6, 2) := by decide +kernel
theorem dR_canDoChoice_37 : decode prog_5_method_7_code 37 = .ok (.getfield 36, 3) := by decide +kernel
theorem dR_canDoChoice_40 : decode prog_5_method_7_code 40 = .ok (.land, 1) := by decide +kernel
theorem dR_canDoChoice_41 : decode prog_5_method_7_code 41 = .ok (.lstore_n 2, 1) := by decide +kernel
theorem dR_canDoChoice_42 : decode prog_5_method_7_code 42 = .ok (.lload 4, 2) := by decide +kernel
theorem dR_canDoChoice_44 : decode prog_5_method_7_code 44 = .ok (.aload 6, 2) := by decide +kernel
theorem dR_canDoChoice_46 : decode prog_5_method_7_code 46 = .ok (.getfield 36, 3) := by decide +kernel
theorem dR_canDoChoice_49 : decode prog_5_method_7_code 49 = .ok (.lor, 1) := by decide +kernel
theorem dR_canDoChoice_50 : decode prog_5_method_7_code 50 = .ok (.lstore 4, 2) := by decide +kernel
theorem dR_canDoChoice_52 : decode prog_5_method_7_code 52 = .ok (.aload 6, 2) := by decide +kernel
theorem dR_canDoChoice_54 : decode prog_5_method_7_code 54 = .ok (.getfield 74, 3) := by decide +kernel
theorem dR_canDoChoice_57 : decode prog_5_method_7_code 57 = .ok (.astore 6, 2) := by decide +kernel
theorem dR_canDoChoice_59 : decode prog_5_method_7_code 59 = .ok (.goto (-46), 3) := by decide +kernel
theorem dR_canDoChoice_62 : decode prog_5_method_7_code 62 = .ok (.aload_n 0, 1) := by decide +kernel
theorem dR_canDoChoice_63 : decode prog_5_method_7_code 63 = .ok (.aload_n 1, 1) := by decide +kernel
theorem dR_canDoChoice_64 : decode prog_5_method_7_code 64 = .ok (.lload_n 2, 1) := by decide +kernel
theorem dR_canDoChoice_65 : decode prog_5_method_7_code 65 = .ok (.lload 4, 2) := by decide +kernel
theorem dR_canDoChoice_67 : decode prog_5_method_7_code 67 = .ok (.invokevirtual 97, 3) := by decide +kernel
theorem dR_canDoChoice_70 : decode prog_5_method_7_code 70 = .ok (.ireturn, 1) := by decide +kernel
theorem dR_canDoForm_0 : decode prog_5_method_16_code 0 = .ok (.aload_n 0, 1) := by decide +kernel
theorem dR_canDoForm_1 : decode prog_5_method_16_code 1 = .ok (.iconst 0, 1) := by decide +kernel
theorem dR_canDoForm_2 : decode prog_5_method_16_code 2 = .ok (.invokevirtual 137, 3) := by decide +kernel
theorem dR_canDoForm_5 : decode prog_5_method_16_code 5 = .ok (.lstore_n 1, 1) := by decide +kernel
theorem dR_canDoForm_6 : decode prog_5_method_16_code 6 = .ok (.aload_n 0, 1) := by decide +kernel
theorem dR_canDoForm_7 : decode prog_5_method_16_code 7 = .ok (.iconst 1, 1) := by decide +kernel
theorem dR_canDoForm_8 : decode prog_5_method_16_code 8 = .ok (.invokevirtual 141, 3) := by decide +kernel
theorem dR_canDoForm_11 : decode prog_5_method_16_code 11 = .ok (.lstore_n 3, 1) := by decide +kernel
theorem dR_canDoForm_12 : decode prog_5_method_16_code 12 = .ok (.aload_n 0, 1) := by decide +kernel
theorem dR_canDoForm_13 : decode prog_5_method_16_code 13 = .ok (.lload_n 1, 1) := by decide +kernel
theorem dR_canDoForm_14 : decode prog_5_method_16_code 14 = .ok (.invokestatic 121, 3) := by decide +kernel
theorem dR_canDoForm_17 : decode prog_5_method_16_code 17 = .ok (.ifCond .eq 10, 3) := by decide +kernel
theorem dR_canDoForm_20 : decode prog_5_method_16_code 20 = .ok (.aload_n 0, 1) := by decide +kernel
theorem dR_canDoForm_21 : decode prog_5_method_16_code 21 = .ok (.iconst 1, 1) := by decide +kernel
theorem dR_canDoForm_22 : decode prog_5_method_16_code 22 = .ok (.lload_n 3, 1) := by decide +kernel
theorem dR_canDoForm_23 : decode prog_5_method_16_code 23 = .ok (.invokestatic 124, 3) := by decide +kernel
theorem dR_canDoForm_26 : decode prog_5_method_16_code 26 = .ok (.ireturn, 1) := by decide +kernel
theorem dR_canDoForm_27 : decode prog_5_method_16_code 27 = .ok (.aload_n 0, 1) := by decide +kernel
theorem dR_canDoForm_28 : decode prog_5_method_16_code 28 = .ok (.lload_n 3, 1) := by decide +kernel
theorem dR_canDoForm_29 : decode prog_5_method_16_code 29 = .ok (.invokestatic 121, 3) := by decide +kernel
theorem dR_canDoForm_32 : decode prog_5_method_16_code 32 = .ok (.ifCond .eq 16, 3) := by decide +kernel
theorem dR_canDoForm_35 : decode prog_5_method_16_code 35 = .ok (.aload_n 0, 1) := by decide +kernel
theorem dR_canDoForm_36 : decode prog_5_method_16_code 36 = .ok (.iconst 2, 1) := by decide +kernel
theorem dR_canDoForm_37 : decode prog_5_method_16_code 37 = .ok (.lload_n 1, 1) := by decide +kernel
theorem dR_canDoForm_38 : decode prog_5_method_16_code 38 = .ok (.invokestatic 124, 3) := by decide +kernel
theorem dR_canDoForm_41 : decode prog_5_method_16_code 41 = .ok (.ifCond .eq 7, 3) := by decide +kernel
theorem dR_canDoForm_44 : decode prog_5_method_16_code 44 = .ok (.iconst 1, 1) := by decide +kernel
theorem dR_canDoForm_45 : decode prog_5_method_16_code 45 = .ok (.goto 4, 3) := by decide +kernel
theorem dR_canDoForm_48 : decode prog_5_method_16_code 48 = .ok (.iconst 0, 1) := by decide +kernel
theorem dR_canDoForm_49 : decode prog_5_method_16_code 49 = .ok (.ireturn, 1) := by decide +kernel
theorem dR_canDoNot_0 : decode prog_5_method_8_code 0 = .ok (.aload_n 1, 1) := by decide +kernel
theorem dR_canDoNot_1 : decode prog_5_method_8_code 1 = .ok (.getfield 64, 3) := by decide +kernel
theorem dR_canDoNot_4 : decode prog_5_method_8_code 4 = .ok (.astore_n 2, 1) := by decide +kernel
theorem dR_canDoNot_5 : decode prog_5_method_8_code 5 = .ok (.aload_n 2, 1) := by decide +kernel
theorem dR_canDoNot_6 : decode prog_5_method_8_code 6 = .ok (.ifnull 16, 3) := by decide +kernel
theorem dR_canDoNot_9 : decode prog_5_method_8_code 9 = .ok (.aload_n 0, 1) := by decide +kernel
theorem dR_canDoNot_10 : decode prog_5_method_8_code 10 = .ok (.aload_n 1, 1) := by decide +kernel
theorem dR_canDoNot_11 : decode prog_5_method_8_code 11 = .ok (.aload_n 2, 1) := by decide +kernel
theorem dR_canDoNot_12 : decode prog_5_method_8_code 12 = .ok (.aload_n 1, 1) := by decide +kernel
theorem dR_canDoNot_13 : decode prog_5_method_8_code 13 = .ok (.getfield 31, 3) := by decide +kernel
theorem dR_canDoNot_16 : decode prog_5_method_8_code 16 = .ok (.invokevirtual 93, 3) := by decide +kernel
theorem dR_canDoNot_19 : decode prog_5_method_8_code 19 = .ok (.ifCond .ne 5, 3) := by decide +kernel
theorem dR_canDoNot_22 : decode prog_5_method_8_code 22 = .ok (.iconst 0, 1) := by decide +kernel
theorem dR_canDoNot_23 : decode prog_5_method_8_code 23 = .ok (.ireturn, 1) := by decide +kernel
theorem dR_canDoNot_24 : decode prog_5_method_8_code 24 = .ok (.aload_n 2, 1) := by decide +kernel
theorem dR_canDoNot_25 : decode prog_5_method_8_code 25 = .ok (.invokestatic 101, 3) := by decide +kernel
theorem dR_canDoNot_28 : decode prog_5_method_8_code 28 = .ok (.aload_n 0, 1) := by decide +kernel
theorem dR_canDoNot_29 : decode prog_5_method_8_code 29 = .ok (.aload_n 1, 1) := by decide +kernel
theorem dR_canDoNot_30 : decode prog_5_method_8_code 30 = .ok (.invokevirtual 105, 3) := by decide +kernel
theorem dR_canDoNot_33 : decode prog_5_method_8_code 33 = .ok (.land, 1) := by decide +kernel
theorem dR_canDoNot_34 : decode prog_5_method_8_code 34 = .ok (.lconst 0, 1) := by decide +kernel
theorem dR_canDoNot_35 : decode prog_5_method_8_code 35 = .ok (.lcmp, 1) := by decide +kernel
theorem dR_canDoNot_36 : decode prog_5_method_8_code 36 = .ok (.ifCond .ne 7, 3) := by decide +kernel
theorem dR_canDoNot_39 : decode prog_5_method_8_code 39 = .ok (.iconst 1, 1) := by decide +kernel
theorem dR_canDoNot_40 : decode prog_5_method_8_code 40 = .ok (.goto 4, 3) := by decide +kernel
theorem dR_canDoNot_43 : decode prog_5_method_8_code 43 = .ok (.iconst 0, 1) := by decide +kernel
theorem dR_canDoNot_44 : decode prog_5_method_8_code 44 = .ok (.ireturn, 1) := by decide +kernel
theorem dR_canDoPart_0 : decode prog_5_method_10_code 0 = .ok (.aload_n 0, 1) := by decide +kernel
theorem dR_canDoPart_1 : decode prog_5_method_10_code 1 = .ok (.aload_n 2, 1) := by decide +kernel
theorem dR_canDoPart_2 : decode prog_5_method_10_code 2 = .ok (.lload_n 3, 1) := by decide +kernel
theorem dR_canDoPart_3 : decode prog_5_method_10_code 3 = .ok (.invokevirtual 27, 3) := by decide +kernel
theorem dR_canDoPart_6 : decode prog_5_method_10_code 6 = .ok (.ifCond .eq 5, 3) := by decide +kernel
theorem dR_canDoPart_9 : decode prog_5_method_10_code 9 = .ok (.iconst 1, 1) := by decide +kernel
theorem dR_canDoPart_10 : decode prog_5_method_10_code 10 = .ok (.ireturn, 1) := by decide +kernel
theorem dR_canDoPart_11 : decode prog_5_method_10_code 11 = .ok (.aload_n 1, 1) := by decide +kernel
theorem dR_canDoPart_12 : decode prog_5_method_10_code 12 = .ok (.aload_n 2, 1) := by decide +kernel
theorem dR_canDoPart_13 : decode prog_5_method_10_code 13 = .ok (.getfield 42, 3) := by decide +kernel
theorem dR_canDoPart_16 : decode prog_5_method_10_code 16 = .ok (.putfield 42, 3) := by decide +kernel
theorem dR_canDoPart_19 : decode prog_5_method_10_code 19 = .ok (.iconst 0, 1) := by decide +kernel
theorem dR_canDoPart_20 : decode prog_5_method_10_code 20 = .ok (.ireturn, 1) := by decide +kernel
theorem dR_canDoRow_0 : decode prog_5_method_4_code 0 = .ok (.aload_n 1, 1) := by decide +kernel
theorem dR_canDoRow_1 : decode prog_5_method_4_code 1 = .ok (.getfield 64, 3) := by decide +kernel
theorem dR_canDoRow_4 : decode prog_5_method_4_code 4 = .ok (.astore_n 2, 1) := by decide +kernel
theorem dR_canDoRow_5 : decode prog_5_method_4_code 5 = .ok (.aload_n 2, 1) := by decide +kernel
theorem dR_canDoRow_6 : decode prog_5_method_4_code 6 = .ok (.ifnull 21, 3) := by decide +kernel
theorem dR_canDoRow_9 : decode prog_5_method_4_code 9 = .ok (.aload_n 2, 1) := by decide +kernel
theorem dR_canDoRow_10 : decode prog_5_method_4_code 10 = .ok (.iconst 0, 1) := by decide +kernel
theorem dR_canDoRow_11 : decode prog_5_method_4_code 11 = .ok (.putfield 68, 3) := by decide +kernel
theorem dR_canDoRow_14 : decode prog_5_method_4_code 14 = .ok (.aload_n 2, 1) := by decide +kernel
theorem dR_canDoRow_15 : decode prog_5_method_4_code 15 = .ok (.aconst_null, 1) := by decide +kernel
theorem dR_canDoRow_16 : decode prog_5_method_4_code 16 = .ok (.putfield 71, 3) := by decide +kernel
theorem dR_canDoRow_19 : decode prog_5_method_4_code 19 = .ok (.aload_n 2, 1) := by decide +kernel
theorem dR_canDoRow_20 : decode prog_5_method_4_code 20 = .ok (.getfield 74, 3) := by decide +kernel
theorem dR_canDoRow_23 : decode prog_5_method_4_code 23 = .ok (.astore_n 2, 1) := by decide +kernel
theorem dR_canDoRow_24 : decode prog_5_method_4_code 24 = .ok (.goto (-19), 3) := by decide +kernel
theorem dR_canDoRow_27 : decode prog_5_method_4_code 27 = .ok (.aload_n 1, 1) := by decide +kernel
theorem dR_canDoRow_28 : decode prog_5_method_4_code 28 = .ok (.aconst_null, 1) := by decide +kernel
theorem dR_canDoRow_29 : decode prog_5_method_4_code 29 = .ok (.putfield 77, 3) := by decide +kernel
theorem dR_canDoRow_32 : decode prog_5_method_4_code 32 = .ok (.aconst_null, 1) := by decide +kernel
theorem dR_canDoRow_33 : decode prog_5_method_4_code 33 = .ok (.astore_n 2, 1) := by decide +kernel
theorem dR_canDoRow_34 : decode prog_5_method_4_code 34 = .ok (.iconst 0, 1) := by decide +kernel
theorem dR_canDoRow_35 : decode prog_5_method_4_code 35 = .ok (.istore_n 3, 1) := by decide +kernel
theorem dR_canDoRow_36 : decode prog_5_method_4_code 36 = .ok (.iload_n 3, 1) := by decide +kernel
theorem dR_canDoRow_37 : decode prog_5_method_4_code 37 = .ok (.aload_n 1, 1) := by decide +kernel
theorem dR_canDoRow_38 : decode prog_5_method_4_code 38 = .ok (.getfield 80, 3) := by decide +kernel
theorem dR_canDoRow_41 : decode prog_5_method_4_code 41 = .ok (.if_icmp .ge 53, 3) := by decide +kernel
theorem dR_canDoRow_44 : decode prog_5_method_4_code 44 = .ok (.aload_n 0, 1) := by decide +kernel
theorem dR_canDoRow_45 : decode prog_5_method_4_code 45 = .ok (.aload_n 1, 1) := by decide +kernel
theorem dR_canDoRow_46 : decode prog_5_method_4_code 46 = .ok (.invokevirtual 83, 3) := by decide +kernel
theorem dR_canDoRow_49 : decode prog_5_method_4_code 49 = .ok (.astore 4, 2) := by decide +kernel
theorem dR_canDoRow_51 : decode prog_5_method_4_code 51 = .ok (.aload 4, 2) := by decide +kernel
theorem dR_canDoRow_53 : decode prog_5_method_4_code 53 = .ok (.ifnonnull 13, 3) := by decide +kernel
theorem dR_canDoRow_56 : decode prog_5_method_4_code 56 = .ok (.aload_n 1, 1) := by decide +kernel
theorem dR_canDoRow_57 : decode prog_5_method_4_code 57 = .ok (.aload_n 1, 1) := by decide +kernel
theorem dR_canDoRow_58 : decode prog_5_method_4_code 58 = .ok (.invokestatic 87, 3) := by decide +kernel
theorem dR_canDoRow_61 : decode prog_5_method_4_code 61 = .ok (.putfield 42, 3) := by decide +kernel
theorem dR_canDoRow_64 : decode prog_5_method_4_code 64 = .ok (.iconst 0, 1) := by decide +kernel
theorem dR_canDoRow_65 : decode prog_5_method_4_code 65 = .ok (.ireturn, 1) := by decide +kernel
theorem dR_canDoRow_66 : decode prog_5_method_4_code 66 = .ok (.aload_n 2, 1) := by decide +kernel
theorem dR_canDoRow_67 : decode prog_5_method_4_code 67 = .ok (.ifnonnull 12, 3) := by decide +kernel
theorem dR_canDoRow_70 : decode prog_5_method_4_code 70 = .ok (.aload_n 1, 1) := by decide +kernel
theorem dR_canDoRow_71 : decode prog_5_method_4_code 71 = .ok (.aload 4, 2) := by decide +kernel
theorem dR_canDoRow_73 : decode prog_5_method_4_code 73 = .ok (.putfield 77, 3) := by decide +kernel
theorem dR_canDoRow_76 : decode prog_5_method_4_code 76 = .ok (.goto 9, 3) := by decide +kernel
theorem dR_canDoRow_79 : decode prog_5_method_4_code 79 = .ok (.aload_n 2, 1) := by decide +kernel
theorem dR_canDoRow_80 : decode prog_5_method_4_code 80 = .ok (.aload 4, 2) := by decide +kernel
theorem dR_canDoRow_82 : decode prog_5_method_4_code 82 = .ok (.putfield 71, 3) := by decide +kernel
theorem dR_canDoRow_85 : decode prog_5_method_4_code 85 = .ok (.aload 4, 2) := by decide +kernel
theorem dR_canDoRow_87 : decode prog_5_method_4_code 87 = .ok (.astore_n 2, 1) := by decide +kernel
theorem dR_canDoRow_88 : decode prog_5_method_4_code 88 = .ok (.iinc 3 1, 3) := by decide +kernel
theorem dR_canDoRow_91 : decode prog_5_method_4_code 91 = .ok (.goto (-55), 3) := by decide +kernel
theorem dR_canDoRow_94 : decode prog_5_method_4_code 94 = .ok (.iconst 1, 1) := by decide +kernel
theorem dR_canDoRow_95 : decode prog_5_method_4_code 95 = .ok (.ireturn, 1) := by decide +kernel
theorem dR_canDoSame_0 : decode prog_5_method_15_code 0 = .ok (.aload_n 0, 1) := by decide +kernel
theorem dR_canDoSame_1 : decode prog_5_method_15_code 1 = .ok (.iconst 0, 1) := by decide +kernel
theorem dR_canDoSame_2 : decode prog_5_method_15_code 2 = .ok (.invokevirtual 137, 3) := by decide +kernel
theorem dR_canDoSame_5 : decode prog_5_method_15_code 5 = .ok (.lstore_n 1, 1) := by decide +kernel
theorem dR_canDoSame_6 : decode prog_5_method_15_code 6 = .ok (.aload_n 0, 1) := by decide +kernel
theorem dR_canDoSame_7 : decode prog_5_method_15_code 7 = .ok (.iconst 1, 1) := by decide +kernel
theorem dR_canDoSame_8 : decode prog_5_method_15_code 8 = .ok (.invokevirtual 137, 3) := by decide +kernel
theorem dR_canDoSame_11 : decode prog_5_method_15_code 11 = .ok (.lstore_n 3, 1) := by decide +kernel
theorem dR_canDoSame_12 : decode prog_5_method_15_code 12 = .ok (.aload_n 0, 1) := by decide +kernel
theorem dR_canDoSame_13 : decode prog_5_method_15_code 13 = .ok (.lload_n 1, 1) := by decide +kernel
theorem dR_canDoSame_14 : decode prog_5_method_15_code 14 = .ok (.lload_n 3, 1) := by decide +kernel
theorem dR_canDoSame_15 : decode prog_5_method_15_code 15 = .ok (.lor, 1) := by decide +kernel
theorem dR_canDoSame_16 : decode prog_5_method_15_code 16 = .ok (.invokestatic 121, 3) := by decide +kernel
theorem dR_canDoSame_19 : decode prog_5_method_15_code 19 = .ok (.ifCond .eq 10, 3) := by decide +kernel
theorem dR_canDoSame_22 : decode prog_5_method_15_code 22 = .ok (.aload_n 0, 1) := by decide +kernel
theorem dR_canDoSame_23 : decode prog_5_method_15_code 23 = .ok (.iconst 1, 1) := by decide +kernel
theorem dR_canDoSame_24 : decode prog_5_method_15_code 24 = .ok (.lconst 0, 1) := by decide +kernel
theorem dR_canDoSame_25 : decode prog_5_method_15_code 25 = .ok (.invokestatic 124, 3) := by decide +kernel
theorem dR_canDoSame_28 : decode prog_5_method_15_code 28 = .ok (.ireturn, 1) := by decide +kernel
theorem dR_canDoSame_29 : decode prog_5_method_15_code 29 = .ok (.aload_n 0, 1) := by decide +kernel
theorem dR_canDoSame_30 : decode prog_5_method_15_code 30 = .ok (.lload_n 1, 1) := by decide +kernel
theorem dR_canDoSame_31 : decode prog_5_method_15_code 31 = .ok (.invokestatic 121, 3) := by decide +kernel
theorem dR_canDoSame_34 : decode prog_5_method_15_code 34 = .ok (.ifCond .eq 10, 3) := by decide +kernel
theorem dR_canDoSame_37 : decode prog_5_method_15_code 37 = .ok (.aload_n 0, 1) := by decide +kernel
theorem dR_canDoSame_38 : decode prog_5_method_15_code 38 = .ok (.iconst 2, 1) := by decide +kernel
theorem dR_canDoSame_39 : decode prog_5_method_15_code 39 = .ok (.lload_n 3, 1) := by decide +kernel
theorem dR_canDoSame_40 : decode prog_5_method_15_code 40 = .ok (.invokestatic 124, 3) := by decide +kernel
theorem dR_canDoSame_43 : decode prog_5_method_15_code 43 = .ok (.ireturn, 1) := by decide +kernel
theorem dR_canDoSame_44 : decode prog_5_method_15_code 44 = .ok (.aload_n 0, 1) := by decide +kernel
theorem dR_canDoSame_45 : decode prog_5_method_15_code 45 = .ok (.lload_n 3, 1) := by decide +kernel
theorem dR_canDoSame_46 : decode prog_5_method_15_code 46 = .ok (.invokestatic 121, 3) := by decide +kernel
theorem dR_canDoSame_49 : decode prog_5_method_15_code 49 = .ok (.ifCond .eq 16, 3) := by decide +kernel
theorem dR_canDoSame_52 : decode prog_5_method_15_code 52 = .ok (.aload_n 0, 1) := by decide +kernel
theorem dR_canDoSame_53 : decode prog_5_method_15_code 53 = .ok (.iconst 3, 1) := by decide +kernel
theorem dR_canDoSame_54 : decode prog_5_method_15_code 54 = .ok (.lload_n 1, 1) := by decide +kernel
theorem dR_canDoSame_55 : decode prog_5_method_15_code 55 = .ok (.invokestatic 124, 3) := by decide +kernel
theorem dR_canDoSame_58 : decode prog_5_method_15_code 58 = .ok (.ifCond .eq 7, 3) := by decide +kernel
theorem dR_canDoSame_61 : decode prog_5_method_15_code 61 = .ok (.iconst 1, 1) := by decide +kernel
theorem dR_canDoSame_62 : decode prog_5_method_15_code 62 = .ok (.goto 4, 3) := by decide +kernel
theorem dR_canDoSame_65 : decode prog_5_method_15_code 65 = .ok (.iconst 0, 1) := by decide +kernel
theorem dR_canDoSame_66 : decode prog_5_method_15_code 66 = .ok (.ireturn, 1) := by decide +kernel
theorem dR_canDoSum_0 : decode prog_5_method_17_code 0 = .ok (.aload_n 0, 1) := by decide +kernel
theorem dR_canDoSum_1 : decode prog_5_method_17_code 1 = .ok (.iconst 0, 1) := by decide +kernel
theorem dR_canDoSum_2 : decode prog_5_method_17_code 2 = .ok (.invokevirtual 137, 3) := by decide +kernel
theorem dR_canDoSum_5 : decode prog_5_method_17_code 5 = .ok (.lstore_n 1, 1) := by decide +kernel
theorem dR_canDoSum_6 : decode prog_5_method_17_code 6 = .ok (.aload_n 0, 1) := by decide +kernel
theorem dR_canDoSum_7 : decode prog_5_method_17_code 7 = .ok (.aload_n 0, 1) := by decide +kernel
theorem dR_canDoSum_8 : decode prog_5_method_17_code 8 = .ok (.iconst 1, 1) := by decide +kernel
theorem dR_canDoSum_9 : decode prog_5_method_17_code 9 = .ok (.invokevirtual 141, 3) := by decide +kernel
theorem dR_canDoSum_12 : decode prog_5_method_17_code 12 = .ok (.invokestatic 121, 3) := by decide +kernel
theorem dR_canDoSum_15 : decode prog_5_method_17_code 15 = .ok (.ifCond .ne 5, 3) := by decide +kernel
theorem dR_canDoSum_18 : decode prog_5_method_17_code 18 = .ok (.iconst 0, 1) := by decide +kernel
theorem dR_canDoSum_19 : decode prog_5_method_17_code 19 = .ok (.ireturn, 1) := by decide +kernel
theorem dR_canDoSum_20 : decode prog_5_method_17_code 20 = .ok (.aload_n 0, 1) := by decide +kernel
theorem dR_canDoSum_21 : decode prog_5_method_17_code 21 = .ok (.aload_n 0, 1) := by decide +kernel
theorem dR_canDoSum_22 : decode prog_5_method_17_code 22 = .ok (.lload_n 1, 1) := by decide +kernel
theorem dR_canDoSum_23 : decode prog_5_method_17_code 23 = .ok (.invokestatic 121, 3) := by decide +kernel
theorem dR_canDoSum_26 : decode prog_5_method_17_code 26 = .ok (.ifCond .eq 7, 3) := by decide +kernel
theorem dR_canDoSum_29 : decode prog_5_method_17_code 29 = .ok (.iconst 1, 1) := by decide +kernel
theorem dR_canDoSum_30 : decode prog_5_method_17_code 30 = .ok (.goto 4, 3) := by decide +kernel
theorem dR_canDoSum_33 : decode prog_5_method_17_code 33 = .ok (.iconst 2, 1) := by decide +kernel
theorem dR_canDoSum_34 : decode prog_5_method_17_code 34 = .ok (.lload_n 1, 1) := by decide +kernel
theorem dR_canDoSum_35 : decode prog_5_method_17_code 35 = .ok (.invokestatic 124, 3) := by decide +kernel
theorem dR_canDoSum_38 : decode prog_5_method_17_code 38 = .ok (.ireturn, 1) := by decide +kernel
theorem dR_canDoTest_0 : decode prog_5_method_9_code 0 = .ok (.aload_n 1, 1) := by decide +kernel
theorem dR_canDoTest_1 : decode prog_5_method_9_code 1 = .ok (.iconst 0, 1) := by decide +kernel
theorem dR_canDoTest_2 : decode prog_5_method_9_code 2 = .ok (.invokevirtual 108, 3) := by decide +kernel
theorem dR_canDoTest_5 : decode prog_5_method_9_code 5 = .ok (.astore_n 2, 1) := by decide +kernel
theorem dR_canDoTest_6 : decode prog_5_method_9_code 6 = .ok (.aload_n 1, 1) := by decide +kernel
theorem dR_canDoTest_7 : decode prog_5_method_9_code 7 = .ok (.iconst 1, 1) := by decide +kernel
theorem dR_canDoTest_8 : decode prog_5_method_9_code 8 = .ok (.invokevirtual 108, 3) := by decide +kernel
theorem dR_canDoTest_11 : decode prog_5_method_9_code 11 = .ok (.astore_n 3, 1) := by decide +kernel
theorem dR_canDoTest_12 : decode prog_5_method_9_code 12 = .ok (.aload_n 1, 1) := by decide +kernel
theorem dR_canDoTest_13 : decode prog_5_method_9_code 13 = .ok (.iconst 2, 1) := by decide +kernel
theorem dR_canDoTest_14 : decode prog_5_method_9_code 14 = .ok (.invokevirtual 108, 3) := by decide +kernel
theorem dR_canDoTest_17 : decode prog_5_method_9_code 17 = .ok (.astore 4, 2) := by decide +kernel
theorem dR_canDoTest_19 : decode prog_5_method_9_code 19 = .ok (.aload_n 2, 1) := by decide +kernel
theorem dR_canDoTest_20 : decode prog_5_method_9_code 20 = .ok (.ifnull 12, 3) := by decide +kernel
theorem dR_canDoTest_23 : decode prog_5_method_9_code 23 = .ok (.aload_n 3, 1) := by decide +kernel
theorem dR_canDoTest_24 : decode prog_5_method_9_code 24 = .ok (.ifnull 8, 3) := by decide +kernel
theorem dR_canDoTest_27 : decode prog_5_method_9_code 27 = .ok (.aload 4, 2) := by decide +kernel
theorem dR_canDoTest_29 : decode prog_5_method_9_code 29 = .ok (.ifnonnull 5, 3) := by decide +kernel
theorem dR_canDoTest_32 : decode prog_5_method_9_code 32 = .ok (.iconst 0, 1) := by decide +kernel
theorem dR_canDoTest_33 : decode prog_5_method_9_code 33 = .ok (.ireturn, 1) := by decide +kernel
theorem dR_canDoTest_34 : decode prog_5_method_9_code 34 = .ok (.aload_n 0, 1) := by decide +kernel
theorem dR_canDoTest_35 : decode prog_5_method_9_code 35 = .ok (.aload_n 1, 1) := by decide +kernel
theorem dR_canDoTest_36 : decode prog_5_method_9_code 36 = .ok (.aload_n 2, 1) := by decide +kernel
theorem dR_canDoTest_37 : decode prog_5_method_9_code 37 = .ok (.aload_n 1, 1) := by decide +kernel
theorem dR_canDoTest_38 : decode prog_5_method_9_code 38 = .ok (.getfield 31, 3) := by decide +kernel
theorem dR_canDoTest_41 : decode prog_5_method_9_code 41 = .ok (.invokevirtual 93, 3) := by decide +kernel
theorem dR_canDoTest_44 : decode prog_5_method_9_code 44 = .ok (.ifCond .ne 5, 3) := by decide +kernel
theorem dR_canDoTest_47 : decode prog_5_method_9_code 47 = .ok (.iconst 0, 1) := by decide +kernel
theorem dR_canDoTest_48 : decode prog_5_method_9_code 48 = .ok (.ireturn, 1) := by decide +kernel
theorem dR_canDoTest_49 : decode prog_5_method_9_code 49 = .ok (.aload_n 2, 1) := by decide +kernel
theorem dR_canDoTest_50 : decode prog_5_method_9_code 50 = .ok (.invokestatic 101, 3) := by decide +kernel
theorem dR_canDoTest_53 : decode prog_5_method_9_code 53 = .ok (.aload_n 0, 1) := by decide +kernel
theorem dR_canDoTest_54 : decode prog_5_method_9_code 54 = .ok (.aload_n 1, 1) := by decide +kernel
theorem dR_canDoTest_55 : decode prog_5_method_9_code 55 = .ok (.invokevirtual 105, 3) := by decide +kernel
theorem dR_canDoTest_58 : decode prog_5_method_9_code 58 = .ok (.aload 4, 2) := by decide +kernel
theorem dR_canDoTest_60 : decode prog_5_method_9_code 60 = .ok (.getfield 112, 3) := by decide +kernel
theorem dR_canDoTest_63 : decode prog_5_method_9_code 63 = .ok (.lor, 1) := by decide +kernel
theorem dR_canDoTest_64 : decode prog_5_method_9_code 64 = .ok (.land, 1) := by decide +kernel
theorem dR_canDoTest_65 : decode prog_5_method_9_code 65 = .ok (.lconst 0, 1) := by decide +kernel
theorem dR_canDoTest_66 : decode prog_5_method_9_code 66 = .ok (.lcmp, 1) := by decide +kernel
theorem dR_canDoTest_67 : decode prog_5_method_9_code 67 = .ok (.ifCond .eq 5, 3) := by decide +kernel
theorem dR_canDoTest_70 : decode prog_5_method_9_code 70 = .ok (.iconst 0, 1) := by decide +kernel
theorem dR_canDoTest_71 : decode prog_5_method_9_code 71 = .ok (.ireturn, 1) := by decide +kernel
theorem dR_canDoTest_72 : decode prog_5_method_9_code 72 = .ok (.aload_n 0, 1) := by decide +kernel
theorem dR_canDoTest_73 : decode prog_5_method_9_code 73 = .ok (.aload_n 1, 1) := by decide +kernel
theorem dR_canDoTest_74 : decode prog_5_method_9_code 74 = .ok (.aload_n 3, 1) := by decide +kernel
theorem dR_canDoTest_75 : decode prog_5_method_9_code 75 = .ok (.aload_n 2, 1) := by decide +kernel
theorem dR_canDoTest_76 : decode prog_5_method_9_code 76 = .ok (.getfield 36, 3) := by decide +kernel
theorem dR_canDoTest_79 : decode prog_5_method_9_code 79 = .ok (.invokevirtual 93, 3) := by decide +kernel
theorem dR_canDoTest_82 : decode prog_5_method_9_code 82 = .ok (.ifCond .eq 17, 3) := by decide +kernel
theorem dR_canDoTest_85 : decode prog_5_method_9_code 85 = .ok (.aload_n 0, 1) := by decide +kernel
theorem dR_canDoTest_86 : decode prog_5_method_9_code 86 = .ok (.aload_n 1, 1) := by decide +kernel
theorem dR_canDoTest_87 : decode prog_5_method_9_code 87 = .ok (.aload 4, 2) := by decide +kernel
theorem dR_canDoTest_89 : decode prog_5_method_9_code 89 = .ok (.aload_n 1, 1) := by decide +kernel
theorem dR_canDoTest_90 : decode prog_5_method_9_code 90 = .ok (.getfield 31, 3) := by decide +kernel
theorem dR_canDoTest_93 : decode prog_5_method_9_code 93 = .ok (.invokevirtual 93, 3) := by decide +kernel
theorem dR_canDoTest_96 : decode prog_5_method_9_code 96 = .ok (.ifCond .ne 5, 3) := by decide +kernel
theorem dR_canDoTest_99 : decode prog_5_method_9_code 99 = .ok (.iconst 0, 1) := by decide +kernel
theorem dR_canDoTest_100 : decode prog_5_method_9_code 100 = .ok (.ireturn, 1) := by decide +kernel
theorem dR_canDoTest_101 : decode prog_5_method_9_code 101 = .ok (.aload_n 0, 1) := by decide +kernel
theorem dR_canDoTest_102 : decode prog_5_method_9_code 102 = .ok (.aload_n 1, 1) := by decide +kernel
theorem dR_canDoTest_103 : decode prog_5_method_9_code 103 = .ok (.aload_n 3, 1) := by decide +kernel
theorem dR_canDoTest_104 : decode prog_5_method_9_code 104 = .ok (.getfield 36, 3) := by decide +kernel
theorem dR_canDoTest_107 : decode prog_5_method_9_code 107 = .ok (.aload 4, 2) := by decide +kernel
theorem dR_canDoTest_109 : decode prog_5_method_9_code 109 = .ok (.getfield 36, 3) := by decide +kernel
theorem dR_canDoTest_112 : decode prog_5_method_9_code 112 = .ok (.land, 1) := by decide +kernel
theorem dR_canDoTest_113 : decode prog_5_method_9_code 113 = .ok (.aload_n 3, 1) := by decide +kernel
theorem dR_canDoTest_114 : decode prog_5_method_9_code 114 = .ok (.getfield 36, 3) := by decide +kernel
theorem dR_canDoTest_117 : decode prog_5_method_9_code 117 = .ok (.aload 4, 2) := by decide +kernel
theorem dR_canDoTest_119 : decode prog_5_method_9_code 119 = .ok (.getfield 36, 3) := by decide +kernel
theorem dR_canDoTest_122 : decode prog_5_method_9_code 122 = .ok (.lor, 1) := by decide +kernel
theorem dR_canDoTest_123 : decode prog_5_method_9_code 123 = .ok (.invokevirtual 97, 3) := by decide +kernel
theorem dR_canDoTest_126 : decode prog_5_method_9_code 126 = .ok (.ireturn, 1) := by decide +kernel
theorem dR_canJoin_0 : decode prog_5_method_11_code 0 = .ok (.aload_n 0, 1) := by decide +kernel
theorem dR_canJoin_1 : decode prog_5_method_11_code 1 = .ok (.aload_n 1, 1) := by decide +kernel
theorem dR_canJoin_2 : decode prog_5_method_11_code 2 = .ok (.invokevirtual 105, 3) := by decide +kernel
theorem dR_canJoin_5 : decode prog_5_method_11_code 5 = .ok (.aload_n 1, 1) := by decide +kernel
theorem dR_canJoin_6 : decode prog_5_method_11_code 6 = .ok (.getfield 31, 3) := by decide +kernel
theorem dR_canJoin_9 : decode prog_5_method_11_code 9 = .ok (.ldc2_w 91, 3) := by decide +kernel
theorem dR_canJoin_12 : decode prog_5_method_11_code 12 = .ok (.lxor, 1) := by decide +kernel
theorem dR_canJoin_13 : decode prog_5_method_11_code 13 = .ok (.land, 1) := by decide +kernel
theorem dR_canJoin_14 : decode prog_5_method_11_code 14 = .ok (.lstore 6, 2) := by decide +kernel
theorem dR_canJoin_16 : decode prog_5_method_11_code 16 = .ok (.lload 6, 2) := by decide +kernel
theorem dR_canJoin_18 : decode prog_5_method_11_code 18 = .ok (.lload 4, 2) := by decide +kernel
theorem dR_canJoin_20 : decode prog_5_method_11_code 20 = .ok (.land, 1) := by decide +kernel
theorem dR_canJoin_21 : decode prog_5_method_11_code 21 = .ok (.lload_n 2, 1) := by decide +kernel
theorem dR_canJoin_22 : decode prog_5_method_11_code 22 = .ok (.ldc2_w 91, 3) := by decide +kernel
theorem dR_canJoin_25 : decode prog_5_method_11_code 25 = .ok (.lxor, 1) := by decide +kernel
theorem dR_canJoin_26 : decode prog_5_method_11_code 26 = .ok (.land, 1) := by decide +kernel
theorem dR_canJoin_27 : decode prog_5_method_11_code 27 = .ok (.lconst 0, 1) := by decide +kernel
theorem dR_canJoin_28 : decode prog_5_method_11_code 28 = .ok (.lcmp, 1) := by decide +kernel
theorem dR_canJoin_29 : decode prog_5_method_11_code 29 = .ok (.ifCond .eq 5, 3) := by decide +kernel
theorem dR_canJoin_32 : decode prog_5_method_11_code 32 = .ok (.iconst 0, 1) := by decide +kernel
theorem dR_canJoin_33 : decode prog_5_method_11_code 33 = .ok (.ireturn, 1) := by decide +kernel
theorem dR_canJoin_34 : decode prog_5_method_11_code 34 = .ok (.aload_n 1, 1) := by decide +kernel
theorem dR_canJoin_35 : decode prog_5_method_11_code 35 = .ok (.aload_n 1, 1) := by decide +kernel
theorem dR_canJoin_36 : decode prog_5_method_11_code 36 = .ok (.getfield 31, 3) := by decide +kernel
theorem dR_canJoin_39 : decode prog_5_method_11_code 39 = .ok (.lload 6, 2) := by decide +kernel
theorem dR_canJoin_41 : decode prog_5_method_11_code 41 = .ok (.lload 4, 2) := by decide +kernel
theorem dR_canJoin_43 : decode prog_5_method_11_code 43 = .ok (.land, 1) := by decide +kernel
theorem dR_canJoin_44 : decode prog_5_method_11_code 44 = .ok (.lor, 1) := by decide +kernel
theorem dR_canJoin_45 : decode prog_5_method_11_code 45 = .ok (.putfield 36, 3) := by decide +kernel
theorem dR_canJoin_48 : decode prog_5_method_11_code 48 = .ok (.iconst 1, 1) := by decide +kernel
theorem dR_canJoin_49 : decode prog_5_method_11_code 49 = .ok (.ireturn, 1) := by decide +kernel
theorem dR_doLeftmost_0 : decode prog_5_method_5_code 0 = .ok (.aload_n 1, 1) := by decide +kernel
theorem dR_doLeftmost_1 : decode prog_5_method_5_code 1 = .ok (.getfield 64, 3) := by decide +kernel
theorem dR_doLeftmost_4 : decode prog_5_method_5_code 4 = .ok (.astore_n 2, 1) := by decide +kernel
theorem dR_doLeftmost_5 : decode prog_5_method_5_code 5 = .ok (.aload_n 2, 1) := by decide +kernel
theorem dR_doLeftmost_6 : decode prog_5_method_5_code 6 = .ok (.ifnull 45, 3) := by decide +kernel
theorem dR_doLeftmost_9 : decode prog_5_method_5_code 9 = .ok (.aload_n 2, 1) := by decide +kernel
theorem dR_doLeftmost_10 : decode prog_5_method_5_code 10 = .ok (.getfield 68, 3) := by decide +kernel
theorem dR_doLeftmost_13 : decode prog_5_method_5_code 13 = .ok (.ifCond .ne 30, 3) := by decide +kernel
theorem dR_doLeftmost_16 : decode prog_5_method_5_code 16 = .ok (.aload_n 0, 1) := by decide +kernel
theorem dR_doLeftmost_17 : decode prog_5_method_5_code 17 = .ok (.aload_n 2, 1) := by decide +kernel
theorem dR_doLeftmost_18 : decode prog_5_method_5_code 18 = .ok (.aload_n 1, 1) := by decide +kernel
theorem dR_doLeftmost_19 : decode prog_5_method_5_code 19 = .ok (.getfield 36, 3) := by decide +kernel
theorem dR_doLeftmost_22 : decode prog_5_method_5_code 22 = .ok (.invokevirtual 27, 3) := by decide +kernel
theorem dR_doLeftmost_25 : decode prog_5_method_5_code 25 = .ok (.ifCond .eq 18, 3) := by decide +kernel
theorem dR_doLeftmost_28 : decode prog_5_method_5_code 28 = .ok (.aload_n 2, 1) := by decide +kernel
theorem dR_doLeftmost_29 : decode prog_5_method_5_code 29 = .ok (.iconst 1, 1) := by decide +kernel
theorem dR_doLeftmost_30 : decode prog_5_method_5_code 30 = .ok (.putfield 68, 3) := by decide +kernel
theorem dR_doLeftmost_33 : decode prog_5_method_5_code 33 = .ok (.aload_n 1, 1) := by decide +kernel
theorem dR_doLeftmost_34 : decode prog_5_method_5_code 34 = .ok (.aload_n 2, 1) := by decide +kernel
theorem dR_doLeftmost_35 : decode prog_5_method_5_code 35 = .ok (.getfield 36, 3) := by decide +kernel
theorem dR_doLeftmost_38 : decode prog_5_method_5_code 38 = .ok (.putfield 36, 3) := by decide +kernel
theorem dR_doLeftmost_41 : decode prog_5_method_5_code 41 = .ok (.aload_n 2, 1) := by decide +kernel
theorem dR_doLeftmost_42 : decode prog_5_method_5_code 42 = .ok (.areturn, 1) := by decide +kernel
theorem dR_doLeftmost_43 : decode prog_5_method_5_code 43 = .ok (.aload_n 2, 1) := by decide +kernel
theorem dR_doLeftmost_44 : decode prog_5_method_5_code 44 = .ok (.getfield 74, 3) := by decide +kernel
theorem dR_doLeftmost_47 : decode prog_5_method_5_code 47 = .ok (.astore_n 2, 1) := by decide +kernel
theorem dR_doLeftmost_48 : decode prog_5_method_5_code 48 = .ok (.goto (-43), 3) := by decide +kernel
theorem dR_doLeftmost_51 : decode prog_5_method_5_code 51 = .ok (.aconst_null, 1) := by decide +kernel
theorem dR_doLeftmost_52 : decode prog_5_method_5_code 52 = .ok (.areturn, 1) := by decide +kernel
theorem dR_init_0 : decode prog_5_method_1_code 0 = .ok (.aload_n 0, 1) := by decide +kernel
theorem dR_init_1 : decode prog_5_method_1_code 1 = .ok (.invokespecial 3, 3) := by decide +kernel
theorem dR_init_4 : decode prog_5_method_1_code 4 = .ok (.aload_n 0, 1) := by decide +kernel
theorem dR_init_5 : decode prog_5_method_1_code 5 = .ok (.aload_n 1, 1) := by decide +kernel
theorem dR_init_6 : decode prog_5_method_1_code 6 = .ok (.putfield 9, 3) := by decide +kernel
theorem dR_init_9 : decode prog_5_method_1_code 9 = .ok (.return_, 1) := by decide +kernel
theorem dR_insOf_0 : decode prog_5_method_19_code 0 = .ok (.lconst 0, 1) := by decide +kernel
theorem dR_insOf_1 : decode prog_5_method_19_code 1 = .ok (.lstore_n 2, 1) := by decide +kernel
theorem dR_insOf_2 : decode prog_5_method_19_code 2 = .ok (.iconst 0, 1) := by decide +kernel
theorem dR_insOf_3 : decode prog_5_method_19_code 3 = .ok (.istore 4, 2) := by decide +kernel
theorem dR_insOf_5 : decode prog_5_method_19_code 5 = .ok (.iload 4, 2) := by decide +kernel
theorem dR_insOf_7 : decode prog_5_method_19_code 7 = .ok (.aload_n 0, 1) := by decide +kernel
theorem dR_insOf_8 : decode prog_5_method_19_code 8 = .ok (.getfield 161, 3) := by decide +kernel
theorem dR_insOf_11 : decode prog_5_method_19_code 11 = .ok (.if_icmp .ge 27, 3) := by decide +kernel
theorem dR_insOf_14 : decode prog_5_method_19_code 14 = .ok (.iload_n 1, 1) := by decide +kernel
theorem dR_insOf_15 : decode prog_5_method_19_code 15 = .ok (.iload 4, 2) := by decide +kernel
theorem dR_insOf_17 : decode prog_5_method_19_code 17 = .ok (.invokestatic 164, 3) := by decide +kernel
theorem dR_insOf_20 : decode prog_5_method_19_code 20 = .ok (.ifCond .ne 12, 3) := by decide +kernel
theorem dR_insOf_23 : decode prog_5_method_19_code 23 = .ok (.lload_n 2, 1) := by decide +kernel
theorem dR_insOf_24 : decode prog_5_method_19_code 24 = .ok (.aload_n 0, 1) := by decide +kernel
theorem dR_insOf_25 : decode prog_5_method_19_code 25 = .ok (.iload 4, 2) := by decide +kernel
theorem dR_insOf_27 : decode prog_5_method_19_code 27 = .ok (.invokevirtual 137, 3) := by decide +kernel
theorem dR_insOf_30 : decode prog_5_method_19_code 30 = .ok (.lor, 1) := by decide +kernel
theorem dR_insOf_31 : decode prog_5_method_19_code 31 = .ok (.lstore_n 2, 1) := by decide +kernel
theorem dR_insOf_32 : decode prog_5_method_19_code 32 = .ok (.iinc 4 1, 3) := by decide +kernel
theorem dR_insOf_35 : decode prog_5_method_19_code 35 = .ok (.goto (-30), 3) := by decide +kernel
theorem dR_insOf_38 : decode prog_5_method_19_code 38 = .ok (.lload_n 2, 1) := by decide +kernel
theorem dR_insOf_39 : decode prog_5_method_19_code 39 = .ok (.lreturn, 1) := by decide +kernel
theorem dR_isGround_0 : decode prog_5_method_20_code 0 = .ok (.lload_n 1, 1) := by decide +kernel
theorem dR_isGround_1 : decode prog_5_method_20_code 1 = .ok (.aload_n 0, 1) := by decide +kernel
theorem dR_isGround_2 : decode prog_5_method_20_code 2 = .ok (.getfield 31, 3) := by decide +kernel
theorem dR_isGround_5 : decode prog_5_method_20_code 5 = .ok (.ldc2_w 91, 3) := by decide +kernel
theorem dR_isGround_8 : decode prog_5_method_20_code 8 = .ok (.lxor, 1) := by decide +kernel
theorem dR_isGround_9 : decode prog_5_method_20_code 9 = .ok (.land, 1) := by decide +kernel
theorem dR_isGround_10 : decode prog_5_method_20_code 10 = .ok (.lconst 0, 1) := by decide +kernel
theorem dR_isGround_11 : decode prog_5_method_20_code 11 = .ok (.lcmp, 1) := by decide +kernel
theorem dR_isGround_12 : decode prog_5_method_20_code 12 = .ok (.ifCond .ne 7, 3) := by decide +kernel
theorem dR_isGround_15 : decode prog_5_method_20_code 15 = .ok (.iconst 1, 1) := by decide +kernel
theorem dR_isGround_16 : decode prog_5_method_20_code 16 = .ok (.goto 4, 3) := by decide +kernel
theorem dR_isGround_19 : decode prog_5_method_20_code 19 = .ok (.iconst 0, 1) := by decide +kernel
theorem dR_isGround_20 : decode prog_5_method_20_code 20 = .ok (.ireturn, 1) := by decide +kernel
theorem dR_madeBy_0 : decode prog_5_method_13_code 0 = .ok (.aload_n 0, 1) := by decide +kernel
theorem dR_madeBy_1 : decode prog_5_method_13_code 1 = .ok (.getfield 36, 3) := by decide +kernel
theorem dR_madeBy_4 : decode prog_5_method_13_code 4 = .ok (.aload_n 0, 1) := by decide +kernel
theorem dR_madeBy_5 : decode prog_5_method_13_code 5 = .ok (.getfield 31, 3) := by decide +kernel
theorem dR_madeBy_8 : decode prog_5_method_13_code 8 = .ok (.ldc2_w 91, 3) := by decide +kernel
theorem dR_madeBy_11 : decode prog_5_method_13_code 11 = .ok (.lxor, 1) := by decide +kernel
theorem dR_madeBy_12 : decode prog_5_method_13_code 12 = .ok (.land, 1) := by decide +kernel
theorem dR_madeBy_13 : decode prog_5_method_13_code 13 = .ok (.lreturn, 1) := by decide +kernel
theorem dR_outerOf_0 : decode prog_5_method_12_code 0 = .ok (.aload_n 1, 1) := by decide +kernel
theorem dR_outerOf_1 : decode prog_5_method_12_code 1 = .ok (.getfield 115, 3) := by decide +kernel
theorem dR_outerOf_4 : decode prog_5_method_12_code 4 = .ok (.aload_n 0, 1) := by decide +kernel
theorem dR_outerOf_5 : decode prog_5_method_12_code 5 = .ok (.getfield 15, 3) := by decide +kernel
theorem dR_outerOf_8 : decode prog_5_method_12_code 8 = .ok (.lor, 1) := by decide +kernel
theorem dR_outerOf_9 : decode prog_5_method_12_code 9 = .ok (.lreturn, 1) := by decide +kernel
theorem dR_run_0 : decode prog_5_method_2_code 0 = .ok (.aload_n 0, 1) := by decide +kernel
theorem dR_run_1 : decode prog_5_method_2_code 1 = .ok (.lload 4, 2) := by decide +kernel
theorem dR_run_3 : decode prog_5_method_2_code 3 = .ok (.putfield 15, 3) := by decide +kernel
theorem dR_run_6 : decode prog_5_method_2_code 6 = .ok (.aload_n 0, 1) := by decide +kernel
theorem dR_run_7 : decode prog_5_method_2_code 7 = .ok (.iconst 0, 1) := by decide +kernel
theorem dR_run_8 : decode prog_5_method_2_code 8 = .ok (.putfield 19, 3) := by decide +kernel
theorem dR_run_11 : decode prog_5_method_2_code 11 = .ok (.aload_n 0, 1) := by decide +kernel
theorem dR_run_12 : decode prog_5_method_2_code 12 = .ok (.iconst 0, 1) := by decide +kernel
theorem dR_run_13 : decode prog_5_method_2_code 13 = .ok (.putfield 23, 3) := by decide +kernel
theorem dR_run_16 : decode prog_5_method_2_code 16 = .ok (.aload_n 0, 1) := by decide +kernel
theorem dR_run_17 : decode prog_5_method_2_code 17 = .ok (.aload_n 1, 1) := by decide +kernel
theorem dR_run_18 : decode prog_5_method_2_code 18 = .ok (.lload_n 2, 1) := by decide +kernel
theorem dR_run_19 : decode prog_5_method_2_code 19 = .ok (.invokevirtual 27, 3) := by decide +kernel
theorem dR_run_22 : decode prog_5_method_2_code 22 = .ok (.ireturn, 1) := by decide +kernel
theorem dR_settle_0 : decode prog_5_method_21_code 0 = .ok (.aload_n 0, 1) := by decide +kernel
theorem dR_settle_1 : decode prog_5_method_21_code 1 = .ok (.iload_n 1, 1) := by decide +kernel
theorem dR_settle_2 : decode prog_5_method_21_code 2 = .ok (.putfield 168, 3) := by decide +kernel
theorem dR_settle_5 : decode prog_5_method_21_code 5 = .ok (.aload_n 0, 1) := by decide +kernel
theorem dR_settle_6 : decode prog_5_method_21_code 6 = .ok (.aload_n 0, 1) := by decide +kernel
theorem dR_settle_7 : decode prog_5_method_21_code 7 = .ok (.getfield 31, 3) := by decide +kernel
theorem dR_settle_10 : decode prog_5_method_21_code 10 = .ok (.lload_n 2, 1) := by decide +kernel
theorem dR_settle_11 : decode prog_5_method_21_code 11 = .ok (.lor, 1) := by decide +kernel
theorem dR_settle_12 : decode prog_5_method_21_code 12 = .ok (.putfield 36, 3) := by decide +kernel
theorem dR_settle_15 : decode prog_5_method_21_code 15 = .ok (.iconst 1, 1) := by decide +kernel
theorem dR_settle_16 : decode prog_5_method_21_code 16 = .ok (.ireturn, 1) := by decide +kernel
theorem dR_stuckOfLeftmost_0 : decode prog_5_method_6_code 0 = .ok (.aload_n 0, 1) := by decide +kernel
theorem dR_stuckOfLeftmost_1 : decode prog_5_method_6_code 1 = .ok (.getfield 64, 3) := by decide +kernel
theorem dR_stuckOfLeftmost_4 : decode prog_5_method_6_code 4 = .ok (.astore_n 1, 1) := by decide +kernel
theorem dR_stuckOfLeftmost_5 : decode prog_5_method_6_code 5 = .ok (.aload_n 1, 1) := by decide +kernel
theorem dR_stuckOfLeftmost_6 : decode prog_5_method_6_code 6 = .ok (.ifnull 23, 3) := by decide +kernel
theorem dR_stuckOfLeftmost_9 : decode prog_5_method_6_code 9 = .ok (.aload_n 1, 1) := by decide +kernel
theorem dR_stuckOfLeftmost_10 : decode prog_5_method_6_code 10 = .ok (.getfield 68, 3) := by decide +kernel
theorem dR_stuckOfLeftmost_13 : decode prog_5_method_6_code 13 = .ok (.ifCond .ne 8, 3) := by decide +kernel
theorem dR_stuckOfLeftmost_16 : decode prog_5_method_6_code 16 = .ok (.aload_n 1, 1) := by decide +kernel
theorem dR_stuckOfLeftmost_17 : decode prog_5_method_6_code 17 = .ok (.getfield 42, 3) := by decide +kernel
theorem dR_stuckOfLeftmost_20 : decode prog_5_method_6_code 20 = .ok (.ireturn, 1) := by decide +kernel
theorem dR_stuckOfLeftmost_21 : decode prog_5_method_6_code 21 = .ok (.aload_n 1, 1) := by decide +kernel
theorem dR_stuckOfLeftmost_22 : decode prog_5_method_6_code 22 = .ok (.getfield 74, 3) := by decide +kernel
theorem dR_stuckOfLeftmost_25 : decode prog_5_method_6_code 25 = .ok (.astore_n 1, 1) := by decide +kernel
theorem dR_stuckOfLeftmost_26 : decode prog_5_method_6_code 26 = .ok (.goto (-21), 3) := by decide +kernel
theorem dR_stuckOfLeftmost_29 : decode prog_5_method_6_code 29 = .ok (.aload_n 0, 1) := by decide +kernel
theorem dR_stuckOfLeftmost_30 : decode prog_5_method_6_code 30 = .ok (.getfield 39, 3) := by decide +kernel
theorem dR_stuckOfLeftmost_33 : decode prog_5_method_6_code 33 = .ok (.ireturn, 1) := by decide +kernel
end
section
theorem dM_add_0 : decode prog_7_method_14_code 0 = .ok (.aload_n 0, 1) := by decide +kernel
theorem dM_add_1 : decode prog_7_method_14_code 1 = .ok (.iconst 0, 1) := by decide +kernel
theorem dM_add_2 : decode prog_7_method_14_code 2 = .ok (.putfield 115, 3) := by decide +kernel
theorem dM_add_5 : decode prog_7_method_14_code 5 = .ok (.aload_n 0, 1) := by decide +kernel
theorem dM_add_6 : decode prog_7_method_14_code 6 = .ok (.iload_n 1, 1) := by decide +kernel
theorem dM_add_7 : decode prog_7_method_14_code 7 = .ok (.invokevirtual 152, 3) := by decide +kernel
theorem dM_add_10 : decode prog_7_method_14_code 10 = .ok (.ifCond .eq 26, 3) := by decide +kernel
theorem dM_add_13 : decode prog_7_method_14_code 13 = .ok (.iload_n 2, 1) := by decide +kernel
theorem dM_add_14 : decode prog_7_method_14_code 14 = .ok (.ifCond .lt 22, 3) := by decide +kernel
theorem dM_add_17 : decode prog_7_method_14_code 17 = .ok (.iload_n 2, 1) := by decide +kernel
theorem dM_add_18 : decode prog_7_method_14_code 18 = .ok (.bipush 13, 2) := by decide +kernel
theorem dM_add_20 : decode prog_7_method_14_code 20 = .ok (.if_icmp .ge 16, 3) := by decide +kernel
theorem dM_add_23 : decode prog_7_method_14_code 23 = .ok (.aload_n 0, 1) := by decide +kernel
theorem dM_add_24 : decode prog_7_method_14_code 24 = .ok (.iload_n 2, 1) := by decide +kernel
theorem dM_add_25 : decode prog_7_method_14_code 25 = .ok (.iload_n 3, 1) := by decide +kernel
theorem dM_add_26 : decode prog_7_method_14_code 26 = .ok (.invokevirtual 155, 3) := by decide +kernel
theorem dM_add_29 : decode prog_7_method_14_code 29 = .ok (.ifCond .eq 7, 3) := by decide +kernel
theorem dM_add_32 : decode prog_7_method_14_code 32 = .ok (.iconst 1, 1) := by decide +kernel
theorem dM_add_33 : decode prog_7_method_14_code 33 = .ok (.goto 4, 3) := by decide +kernel
theorem dM_add_36 : decode prog_7_method_14_code 36 = .ok (.iconst 0, 1) := by decide +kernel
theorem dM_add_37 : decode prog_7_method_14_code 37 = .ok (.istore 4, 2) := by decide +kernel
theorem dM_add_39 : decode prog_7_method_14_code 39 = .ok (.iload 4, 2) := by decide +kernel
theorem dM_add_41 : decode prog_7_method_14_code 41 = .ok (.ifCond .eq 12, 3) := by decide +kernel
theorem dM_add_44 : decode prog_7_method_14_code 44 = .ok (.aload_n 0, 1) := by decide +kernel
theorem dM_add_45 : decode prog_7_method_14_code 45 = .ok (.iload_n 1, 1) := by decide +kernel
theorem dM_add_46 : decode prog_7_method_14_code 46 = .ok (.iload_n 2, 1) := by decide +kernel
theorem dM_add_47 : decode prog_7_method_14_code 47 = .ok (.invokevirtual 131, 3) := by decide +kernel
theorem dM_add_50 : decode prog_7_method_14_code 50 = .ok (.goto 4, 3) := by decide +kernel
theorem dM_add_53 : decode prog_7_method_14_code 53 = .ok (.iconst (-1), 1) := by decide +kernel
theorem dM_add_54 : decode prog_7_method_14_code 54 = .ok (.istore 5, 2) := by decide +kernel
theorem dM_add_56 : decode prog_7_method_14_code 56 = .ok (.iload 4, 2) := by decide +kernel
theorem dM_add_58 : decode prog_7_method_14_code 58 = .ok (.ifCond .eq 17, 3) := by decide +kernel
theorem dM_add_61 : decode prog_7_method_14_code 61 = .ok (.iload_n 2, 1) := by decide +kernel
theorem dM_add_62 : decode prog_7_method_14_code 62 = .ok (.bipush 12, 2) := by decide +kernel
theorem dM_add_64 : decode prog_7_method_14_code 64 = .ok (.if_icmp .ne 11, 3) := by decide +kernel
theorem dM_add_67 : decode prog_7_method_14_code 67 = .ok (.aload_n 0, 1) := by decide +kernel
theorem dM_add_68 : decode prog_7_method_14_code 68 = .ok (.getfield 40, 3) := by decide +kernel
theorem dM_add_71 : decode prog_7_method_14_code 71 = .ok (.iload 5, 2) := by decide +kernel
theorem dM_add_73 : decode prog_7_method_14_code 73 = .ok (.iload_n 3, 1) := by decide +kernel
theorem dM_add_74 : decode prog_7_method_14_code 74 = .ok (.iastore, 1) := by decide +kernel
theorem dM_add_75 : decode prog_7_method_14_code 75 = .ok (.iload 4, 2) := by decide +kernel
theorem dM_add_77 : decode prog_7_method_14_code 77 = .ok (.ifCond .eq 7, 3) := by decide +kernel
theorem dM_add_80 : decode prog_7_method_14_code 80 = .ok (.aload_n 0, 1) := by decide +kernel
theorem dM_add_81 : decode prog_7_method_14_code 81 = .ok (.invokevirtual 135, 3) := by decide +kernel
theorem dM_add_84 : decode prog_7_method_14_code 84 = .ok (.aload_n 0, 1) := by decide +kernel
theorem dM_add_85 : decode prog_7_method_14_code 85 = .ok (.iconst 0, 1) := by decide +kernel
theorem dM_add_86 : decode prog_7_method_14_code 86 = .ok (.putfield 121, 3) := by decide +kernel
theorem dM_add_89 : decode prog_7_method_14_code 89 = .ok (.iload 5, 2) := by decide +kernel
theorem dM_add_91 : decode prog_7_method_14_code 91 = .ok (.ireturn, 1) := by decide +kernel
theorem dM_areIn_0 : decode prog_7_method_20_code 0 = .ok (.lload_n 3, 1) := by decide +kernel
theorem dM_areIn_1 : decode prog_7_method_20_code 1 = .ok (.lload_n 1, 1) := by decide +kernel
theorem dM_areIn_2 : decode prog_7_method_20_code 2 = .ok (.land, 1) := by decide +kernel
theorem dM_areIn_3 : decode prog_7_method_20_code 3 = .ok (.lload_n 3, 1) := by decide +kernel
theorem dM_areIn_4 : decode prog_7_method_20_code 4 = .ok (.lcmp, 1) := by decide +kernel
theorem dM_areIn_5 : decode prog_7_method_20_code 5 = .ok (.ifCond .ne 7, 3) := by decide +kernel
theorem dM_areIn_8 : decode prog_7_method_20_code 8 = .ok (.iconst 1, 1) := by decide +kernel
theorem dM_areIn_9 : decode prog_7_method_20_code 9 = .ok (.goto 4, 3) := by decide +kernel
theorem dM_areIn_12 : decode prog_7_method_20_code 12 = .ok (.iconst 0, 1) := by decide +kernel
theorem dM_areIn_13 : decode prog_7_method_20_code 13 = .ok (.ireturn, 1) := by decide +kernel
theorem dM_atom_0 : decode prog_7_method_22_code 0 = .ok (.aload_n 0, 1) := by decide +kernel
theorem dM_atom_1 : decode prog_7_method_22_code 1 = .ok (.getfield 62, 3) := by decide +kernel
theorem dM_atom_4 : decode prog_7_method_22_code 4 = .ok (.iload_n 1, 1) := by decide +kernel
theorem dM_atom_5 : decode prog_7_method_22_code 5 = .ok (.laload, 1) := by decide +kernel
theorem dM_atom_6 : decode prog_7_method_22_code 6 = .ok (.lstore_n 2, 1) := by decide +kernel
theorem dM_atom_7 : decode prog_7_method_22_code 7 = .ok (.aload_n 0, 1) := by decide +kernel
theorem dM_atom_8 : decode prog_7_method_22_code 8 = .ok (.getfield 68, 3) := by decide +kernel
theorem dM_atom_11 : decode prog_7_method_22_code 11 = .ok (.iload_n 1, 1) := by decide +kernel
theorem dM_atom_12 : decode prog_7_method_22_code 12 = .ok (.iconst 0, 1) := by decide +kernel
theorem dM_atom_13 : decode prog_7_method_22_code 13 = .ok (.bastore, 1) := by decide +kernel
theorem dM_atom_14 : decode prog_7_method_22_code 14 = .ok (.aload_n 0, 1) := by decide +kernel
theorem dM_atom_15 : decode prog_7_method_22_code 15 = .ok (.getfield 81, 3) := by decide +kernel
theorem dM_atom_18 : decode prog_7_method_22_code 18 = .ok (.iload_n 1, 1) := by decide +kernel
theorem dM_atom_19 : decode prog_7_method_22_code 19 = .ok (.iconst 0, 1) := by decide +kernel
theorem dM_atom_20 : decode prog_7_method_22_code 20 = .ok (.iastore, 1) := by decide +kernel
theorem dM_atom_21 : decode prog_7_method_22_code 21 = .ok (.aload_n 0, 1) := by decide +kernel
theorem dM_atom_22 : decode prog_7_method_22_code 22 = .ok (.getfield 43, 3) := by decide +kernel
theorem dM_atom_25 : decode prog_7_method_22_code 25 = .ok (.iload_n 1, 1) := by decide +kernel
theorem dM_atom_26 : decode prog_7_method_22_code 26 = .ok (.iaload, 1) := by decide +kernel
theorem dM_atom_27 : decode prog_7_method_22_code 27 = .ok (.ifCond .le 15, 3) := by decide +kernel
theorem dM_atom_30 : decode prog_7_method_22_code 30 = .ok (.aload_n 0, 1) := by decide +kernel
theorem dM_atom_31 : decode prog_7_method_22_code 31 = .ok (.getfield 46, 3) := by decide +kernel
theorem dM_atom_34 : decode prog_7_method_22_code 34 = .ok (.bipush 7, 2) := by decide +kernel
theorem dM_atom_36 : decode prog_7_method_22_code 36 = .ok (.iload_n 1, 1) := by decide +kernel
theorem dM_atom_37 : decode prog_7_method_22_code 37 = .ok (.imul, 1) := by decide +kernel
theorem dM_atom_38 : decode prog_7_method_22_code 38 = .ok (.iaload, 1) := by decide +kernel
theorem dM_atom_39 : decode prog_7_method_22_code 39 = .ok (.goto 4, 3) := by decide +kernel
theorem dM_atom_42 : decode prog_7_method_22_code 42 = .ok (.iconst 0, 1) := by decide +kernel
theorem dM_atom_43 : decode prog_7_method_22_code 43 = .ok (.istore 4, 2) := by decide +kernel
theorem dM_atom_45 : decode prog_7_method_22_code 45 = .ok (.aload_n 0, 1) := by decide +kernel
theorem dM_atom_46 : decode prog_7_method_22_code 46 = .ok (.lload_n 2, 1) := by decide +kernel
theorem dM_atom_47 : decode prog_7_method_22_code 47 = .ok (.iload 4, 2) := by decide +kernel
theorem dM_atom_49 : decode prog_7_method_22_code 49 = .ok (.invokevirtual 163, 3) := by decide +kernel
theorem dM_atom_52 : decode prog_7_method_22_code 52 = .ok (.istore 5, 2) := by decide +kernel
theorem dM_atom_54 : decode prog_7_method_22_code 54 = .ok (.aload_n 0, 1) := by decide +kernel
theorem dM_atom_55 : decode prog_7_method_22_code 55 = .ok (.getfield 19, 3) := by decide +kernel
theorem dM_atom_58 : decode prog_7_method_22_code 58 = .ok (.iload_n 1, 1) := by decide +kernel
theorem dM_atom_59 : decode prog_7_method_22_code 59 = .ok (.iaload, 1) := by decide +kernel
theorem dM_atom_60 : decode prog_7_method_22_code 60 = .ok (.tableswitch 224 4 11 #[48, 48, 58, 80, 104, 162, 186, 80], 48) := by decide +kernel
theorem dM_atom_108 : decode prog_7_method_22_code 108 = .ok (.aload_n 0, 1) := by decide +kernel
theorem dM_atom_109 : decode prog_7_method_22_code 109 = .ok (.iload_n 1, 1) := by decide +kernel
theorem dM_atom_110 : decode prog_7_method_22_code 110 = .ok (.iconst 0, 1) := by decide +kernel
theorem dM_atom_111 : decode prog_7_method_22_code 111 = .ok (.lload_n 2, 1) := by decide +kernel
theorem dM_atom_112 : decode prog_7_method_22_code 112 = .ok (.invokevirtual 167, 3) := by decide +kernel
theorem dM_atom_115 : decode prog_7_method_22_code 115 = .ok (.goto 175, 3) := by decide +kernel
theorem dM_atom_118 : decode prog_7_method_22_code 118 = .ok (.aload_n 0, 1) := by decide +kernel
theorem dM_atom_119 : decode prog_7_method_22_code 119 = .ok (.iload_n 1, 1) := by decide +kernel
theorem dM_atom_120 : decode prog_7_method_22_code 120 = .ok (.iload 4, 2) := by decide +kernel
theorem dM_atom_122 : decode prog_7_method_22_code 122 = .ok (.aload_n 0, 1) := by decide +kernel
theorem dM_atom_123 : decode prog_7_method_22_code 123 = .ok (.getfield 46, 3) := by decide +kernel
theorem dM_atom_126 : decode prog_7_method_22_code 126 = .ok (.bipush 7, 2) := by decide +kernel
theorem dM_atom_128 : decode prog_7_method_22_code 128 = .ok (.iload_n 1, 1) := by decide +kernel
theorem dM_atom_129 : decode prog_7_method_22_code 129 = .ok (.imul, 1) := by decide +kernel
theorem dM_atom_130 : decode prog_7_method_22_code 130 = .ok (.iconst 1, 1) := by decide +kernel
theorem dM_atom_131 : decode prog_7_method_22_code 131 = .ok (.iadd, 1) := by decide +kernel
theorem dM_atom_132 : decode prog_7_method_22_code 132 = .ok (.iaload, 1) := by decide +kernel
theorem dM_atom_133 : decode prog_7_method_22_code 133 = .ok (.lload_n 2, 1) := by decide +kernel
theorem dM_atom_134 : decode prog_7_method_22_code 134 = .ok (.invokevirtual 171, 3) := by decide +kernel
theorem dM_atom_137 : decode prog_7_method_22_code 137 = .ok (.goto 153, 3) := by decide +kernel
theorem dM_atom_140 : decode prog_7_method_22_code 140 = .ok (.aload_n 0, 1) := by decide +kernel
theorem dM_atom_141 : decode prog_7_method_22_code 141 = .ok (.lload_n 2, 1) := by decide +kernel
theorem dM_atom_142 : decode prog_7_method_22_code 142 = .ok (.aload_n 0, 1) := by decide +kernel
theorem dM_atom_143 : decode prog_7_method_22_code 143 = .ok (.iload_n 1, 1) := by decide +kernel
theorem dM_atom_144 : decode prog_7_method_22_code 144 = .ok (.iconst 0, 1) := by decide +kernel
theorem dM_atom_145 : decode prog_7_method_22_code 145 = .ok (.invokevirtual 159, 3) := by decide +kernel
theorem dM_atom_148 : decode prog_7_method_22_code 148 = .ok (.invokevirtual 175, 3) := by decide +kernel
theorem dM_atom_151 : decode prog_7_method_22_code 151 = .ok (.ifCond .eq 139, 3) := by decide +kernel
theorem dM_atom_154 : decode prog_7_method_22_code 154 = .ok (.aload_n 0, 1) := by decide +kernel
theorem dM_atom_155 : decode prog_7_method_22_code 155 = .ok (.iload_n 1, 1) := by decide +kernel
theorem dM_atom_156 : decode prog_7_method_22_code 156 = .ok (.iconst 1, 1) := by decide +kernel
theorem dM_atom_157 : decode prog_7_method_22_code 157 = .ok (.lload_n 2, 1) := by decide +kernel
theorem dM_atom_158 : decode prog_7_method_22_code 158 = .ok (.invokevirtual 167, 3) := by decide +kernel
theorem dM_atom_161 : decode prog_7_method_22_code 161 = .ok (.goto 129, 3) := by decide +kernel
theorem dM_atom_164 : decode prog_7_method_22_code 164 = .ok (.iload 5, 2) := by decide +kernel
theorem dM_atom_166 : decode prog_7_method_22_code 166 = .ok (.ifCond .eq 27, 3) := by decide +kernel
theorem dM_atom_169 : decode prog_7_method_22_code 169 = .ok (.aload_n 0, 1) := by decide +kernel
theorem dM_atom_170 : decode prog_7_method_22_code 170 = .ok (.iload_n 1, 1) := by decide +kernel
theorem dM_atom_171 : decode prog_7_method_22_code 171 = .ok (.iconst 1, 1) := by decide +kernel
theorem dM_atom_172 : decode prog_7_method_22_code 172 = .ok (.lload_n 2, 1) := by decide +kernel
theorem dM_atom_173 : decode prog_7_method_22_code 173 = .ok (.aload_n 0, 1) := by decide +kernel
theorem dM_atom_174 : decode prog_7_method_22_code 174 = .ok (.iload_n 1, 1) := by decide +kernel
theorem dM_atom_175 : decode prog_7_method_22_code 175 = .ok (.iconst 1, 1) := by decide +kernel
theorem dM_atom_176 : decode prog_7_method_22_code 176 = .ok (.invokevirtual 159, 3) := by decide +kernel
theorem dM_atom_179 : decode prog_7_method_22_code 179 = .ok (.lor, 1) := by decide +kernel
theorem dM_atom_180 : decode prog_7_method_22_code 180 = .ok (.invokevirtual 167, 3) := by decide +kernel
theorem dM_atom_183 : decode prog_7_method_22_code 183 = .ok (.aload_n 0, 1) := by decide +kernel
theorem dM_atom_184 : decode prog_7_method_22_code 184 = .ok (.iload_n 1, 1) := by decide +kernel
theorem dM_atom_185 : decode prog_7_method_22_code 185 = .ok (.iconst 0, 1) := by decide +kernel
theorem dM_atom_186 : decode prog_7_method_22_code 186 = .ok (.lload_n 2, 1) := by decide +kernel
theorem dM_atom_187 : decode prog_7_method_22_code 187 = .ok (.invokevirtual 179, 3) := by decide +kernel
theorem dM_atom_190 : decode prog_7_method_22_code 190 = .ok (.goto 100, 3) := by decide +kernel
theorem dM_atom_193 : decode prog_7_method_22_code 193 = .ok (.aload_n 0, 1) := by decide +kernel
theorem dM_atom_194 : decode prog_7_method_22_code 194 = .ok (.lload_n 2, 1) := by decide +kernel
theorem dM_atom_195 : decode prog_7_method_22_code 195 = .ok (.aload_n 0, 1) := by decide +kernel
theorem dM_atom_196 : decode prog_7_method_22_code 196 = .ok (.iload_n 1, 1) := by decide +kernel
theorem dM_atom_197 : decode prog_7_method_22_code 197 = .ok (.iconst 1, 1) := by decide +kernel
theorem dM_atom_198 : decode prog_7_method_22_code 198 = .ok (.invokevirtual 159, 3) := by decide +kernel
theorem dM_atom_201 : decode prog_7_method_22_code 201 = .ok (.invokevirtual 175, 3) := by decide +kernel
theorem dM_atom_204 : decode prog_7_method_22_code 204 = .ok (.ifCond .eq 86, 3) := by decide +kernel
theorem dM_atom_207 : decode prog_7_method_22_code 207 = .ok (.aload_n 0, 1) := by decide +kernel
theorem dM_atom_208 : decode prog_7_method_22_code 208 = .ok (.iload_n 1, 1) := by decide +kernel
theorem dM_atom_209 : decode prog_7_method_22_code 209 = .ok (.iconst 2, 1) := by decide +kernel
theorem dM_atom_210 : decode prog_7_method_22_code 210 = .ok (.lload_n 2, 1) := by decide +kernel
theorem dM_atom_211 : decode prog_7_method_22_code 211 = .ok (.lconst 1, 1) := by decide +kernel
theorem dM_atom_212 : decode prog_7_method_22_code 212 = .ok (.iload 4, 2) := by decide +kernel
theorem dM_atom_214 : decode prog_7_method_22_code 214 = .ok (.lshl, 1) := by decide +kernel
theorem dM_atom_215 : decode prog_7_method_22_code 215 = .ok (.lor, 1) := by decide +kernel
theorem dM_atom_216 : decode prog_7_method_22_code 216 = .ok (.invokevirtual 167, 3) := by decide +kernel
theorem dM_atom_219 : decode prog_7_method_22_code 219 = .ok (.goto 71, 3) := by decide +kernel
theorem dM_atom_222 : decode prog_7_method_22_code 222 = .ok (.aload_n 0, 1) := by decide +kernel
theorem dM_atom_223 : decode prog_7_method_22_code 223 = .ok (.iload_n 1, 1) := by decide +kernel
theorem dM_atom_224 : decode prog_7_method_22_code 224 = .ok (.iload 5, 2) := by decide +kernel
theorem dM_atom_226 : decode prog_7_method_22_code 226 = .ok (.ifCond .eq 7, 3) := by decide +kernel
theorem dM_atom_229 : decode prog_7_method_22_code 229 = .ok (.iconst 1, 1) := by decide +kernel
theorem dM_atom_230 : decode prog_7_method_22_code 230 = .ok (.goto 4, 3) := by decide +kernel
theorem dM_atom_233 : decode prog_7_method_22_code 233 = .ok (.iconst 2, 1) := by decide +kernel
theorem dM_atom_234 : decode prog_7_method_22_code 234 = .ok (.lload_n 2, 1) := by decide +kernel
theorem dM_atom_235 : decode prog_7_method_22_code 235 = .ok (.lconst 1, 1) := by decide +kernel
theorem dM_atom_236 : decode prog_7_method_22_code 236 = .ok (.iload 4, 2) := by decide +kernel
theorem dM_atom_238 : decode prog_7_method_22_code 238 = .ok (.lshl, 1) := by decide +kernel
theorem dM_atom_239 : decode prog_7_method_22_code 239 = .ok (.lor, 1) := by decide +kernel
theorem dM_atom_240 : decode prog_7_method_22_code 240 = .ok (.invokevirtual 167, 3) := by decide +kernel
theorem dM_atom_243 : decode prog_7_method_22_code 243 = .ok (.goto 47, 3) := by decide +kernel
theorem dM_atom_246 : decode prog_7_method_22_code 246 = .ok (.aload_n 0, 1) := by decide +kernel
theorem dM_atom_247 : decode prog_7_method_22_code 247 = .ok (.lload_n 2, 1) := by decide +kernel
theorem dM_atom_248 : decode prog_7_method_22_code 248 = .ok (.aload_n 0, 1) := by decide +kernel
theorem dM_atom_249 : decode prog_7_method_22_code 249 = .ok (.iload_n 1, 1) := by decide +kernel
theorem dM_atom_250 : decode prog_7_method_22_code 250 = .ok (.iconst 1, 1) := by decide +kernel
theorem dM_atom_251 : decode prog_7_method_22_code 251 = .ok (.invokevirtual 159, 3) := by decide +kernel
theorem dM_atom_254 : decode prog_7_method_22_code 254 = .ok (.invokevirtual 175, 3) := by decide +kernel
theorem dM_atom_257 : decode prog_7_method_22_code 257 = .ok (.ifCond .eq 33, 3) := by decide +kernel
theorem dM_atom_260 : decode prog_7_method_22_code 260 = .ok (.aload_n 0, 1) := by decide +kernel
theorem dM_atom_261 : decode prog_7_method_22_code 261 = .ok (.iload_n 1, 1) := by decide +kernel
theorem dM_atom_262 : decode prog_7_method_22_code 262 = .ok (.iload 5, 2) := by decide +kernel
theorem dM_atom_264 : decode prog_7_method_22_code 264 = .ok (.ifCond .eq 7, 3) := by decide +kernel
theorem dM_atom_267 : decode prog_7_method_22_code 267 = .ok (.iconst 1, 1) := by decide +kernel
theorem dM_atom_268 : decode prog_7_method_22_code 268 = .ok (.goto 4, 3) := by decide +kernel
theorem dM_atom_271 : decode prog_7_method_22_code 271 = .ok (.iconst 2, 1) := by decide +kernel
theorem dM_atom_272 : decode prog_7_method_22_code 272 = .ok (.lload_n 2, 1) := by decide +kernel
theorem dM_atom_273 : decode prog_7_method_22_code 273 = .ok (.lconst 1, 1) := by decide +kernel
theorem dM_atom_274 : decode prog_7_method_22_code 274 = .ok (.iload 4, 2) := by decide +kernel
theorem dM_atom_276 : decode prog_7_method_22_code 276 = .ok (.lshl, 1) := by decide +kernel
theorem dM_atom_277 : decode prog_7_method_22_code 277 = .ok (.lor, 1) := by decide +kernel
theorem dM_atom_278 : decode prog_7_method_22_code 278 = .ok (.invokevirtual 167, 3) := by decide +kernel
theorem dM_atom_281 : decode prog_7_method_22_code 281 = .ok (.goto 9, 3) := by decide +kernel
theorem dM_atom_284 : decode prog_7_method_22_code 284 = .ok (.aload_n 0, 1) := by decide +kernel
theorem dM_atom_285 : decode prog_7_method_22_code 285 = .ok (.iload_n 1, 1) := by decide +kernel
theorem dM_atom_286 : decode prog_7_method_22_code 286 = .ok (.lload_n 2, 1) := by decide +kernel
theorem dM_atom_287 : decode prog_7_method_22_code 287 = .ok (.invokevirtual 182, 3) := by decide +kernel
theorem dM_atom_290 : decode prog_7_method_22_code 290 = .ok (.return_, 1) := by decide +kernel
theorem dM_begin_0 : decode prog_7_method_3_code 0 = .ok (.aload_n 0, 1) := by decide +kernel
theorem dM_begin_1 : decode prog_7_method_3_code 1 = .ok (.iconst 0, 1) := by decide +kernel
theorem dM_begin_2 : decode prog_7_method_3_code 2 = .ok (.putfield 118, 3) := by decide +kernel
theorem dM_begin_5 : decode prog_7_method_3_code 5 = .ok (.aload_n 0, 1) := by decide +kernel
theorem dM_begin_6 : decode prog_7_method_3_code 6 = .ok (.iconst 0, 1) := by decide +kernel
theorem dM_begin_7 : decode prog_7_method_3_code 7 = .ok (.putfield 121, 3) := by decide +kernel
theorem dM_begin_10 : decode prog_7_method_3_code 10 = .ok (.aload_n 0, 1) := by decide +kernel
theorem dM_begin_11 : decode prog_7_method_3_code 11 = .ok (.lconst 0, 1) := by decide +kernel
theorem dM_begin_12 : decode prog_7_method_3_code 12 = .ok (.putfield 124, 3) := by decide +kernel
theorem dM_begin_15 : decode prog_7_method_3_code 15 = .ok (.aload_n 0, 1) := by decide +kernel
theorem dM_begin_16 : decode prog_7_method_3_code 16 = .ok (.lconst 0, 1) := by decide +kernel
theorem dM_begin_17 : decode prog_7_method_3_code 17 = .ok (.putfield 128, 3) := by decide +kernel
theorem dM_begin_20 : decode prog_7_method_3_code 20 = .ok (.aload_n 0, 1) := by decide +kernel
theorem dM_begin_21 : decode prog_7_method_3_code 21 = .ok (.iconst (-1), 1) := by decide +kernel
theorem dM_begin_22 : decode prog_7_method_3_code 22 = .ok (.iconst 0, 1) := by decide +kernel
theorem dM_begin_23 : decode prog_7_method_3_code 23 = .ok (.invokevirtual 131, 3) := by decide +kernel
theorem dM_begin_26 : decode prog_7_method_3_code 26 = .ok (.pop, 1) := by decide +kernel
theorem dM_begin_27 : decode prog_7_method_3_code 27 = .ok (.aload_n 0, 1) := by decide +kernel
theorem dM_begin_28 : decode prog_7_method_3_code 28 = .ok (.invokevirtual 135, 3) := by decide +kernel
theorem dM_begin_31 : decode prog_7_method_3_code 31 = .ok (.return_, 1) := by decide +kernel
theorem dM_call_0 : decode prog_7_method_25_code 0 = .ok (.aload_n 0, 1) := by decide +kernel
theorem dM_call_1 : decode prog_7_method_25_code 1 = .ok (.getfield 40, 3) := by decide +kernel
theorem dM_call_4 : decode prog_7_method_25_code 4 = .ok (.iload_n 1, 1) := by decide +kernel
theorem dM_call_5 : decode prog_7_method_25_code 5 = .ok (.iaload, 1) := by decide +kernel
theorem dM_call_6 : decode prog_7_method_25_code 6 = .ok (.istore 4, 2) := by decide +kernel
theorem dM_call_8 : decode prog_7_method_25_code 8 = .ok (.iconst 0, 1) := by decide +kernel
theorem dM_call_9 : decode prog_7_method_25_code 9 = .ok (.istore 5, 2) := by decide +kernel
theorem dM_call_11 : decode prog_7_method_25_code 11 = .ok (.iload 5, 2) := by decide +kernel
theorem dM_call_13 : decode prog_7_method_25_code 13 = .ok (.aload_n 0, 1) := by decide +kernel
theorem dM_call_14 : decode prog_7_method_25_code 14 = .ok (.getfield 13, 3) := by decide +kernel
theorem dM_call_17 : decode prog_7_method_25_code 17 = .ok (.iload 4, 2) := by decide +kernel
theorem dM_call_19 : decode prog_7_method_25_code 19 = .ok (.iaload, 1) := by decide +kernel
theorem dM_call_20 : decode prog_7_method_25_code 20 = .ok (.if_icmp .ge 121, 3) := by decide +kernel
theorem dM_call_23 : decode prog_7_method_25_code 23 = .ok (.aload_n 0, 1) := by decide +kernel
theorem dM_call_24 : decode prog_7_method_25_code 24 = .ok (.getfield 16, 3) := by decide +kernel
theorem dM_call_27 : decode prog_7_method_25_code 27 = .ok (.iconst 4, 1) := by decide +kernel
theorem dM_call_28 : decode prog_7_method_25_code 28 = .ok (.iload 4, 2) := by decide +kernel
theorem dM_call_30 : decode prog_7_method_25_code 30 = .ok (.imul, 1) := by decide +kernel
theorem dM_call_31 : decode prog_7_method_25_code 31 = .ok (.iload 5, 2) := by decide +kernel
theorem dM_call_33 : decode prog_7_method_25_code 33 = .ok (.iadd, 1) := by decide +kernel
theorem dM_call_34 : decode prog_7_method_25_code 34 = .ok (.iaload, 1) := by decide +kernel
theorem dM_call_35 : decode prog_7_method_25_code 35 = .ok (.istore 6, 2) := by decide +kernel
theorem dM_call_37 : decode prog_7_method_25_code 37 = .ok (.iconst 1, 1) := by decide +kernel
theorem dM_call_38 : decode prog_7_method_25_code 38 = .ok (.istore 7, 2) := by decide +kernel
theorem dM_call_40 : decode prog_7_method_25_code 40 = .ok (.iconst 0, 1) := by decide +kernel
theorem dM_call_41 : decode prog_7_method_25_code 41 = .ok (.istore 8, 2) := by decide +kernel
theorem dM_call_43 : decode prog_7_method_25_code 43 = .ok (.iload 8, 2) := by decide +kernel
theorem dM_call_45 : decode prog_7_method_25_code 45 = .ok (.aload_n 0, 1) := by decide +kernel
theorem dM_call_46 : decode prog_7_method_25_code 46 = .ok (.getfield 43, 3) := by decide +kernel
theorem dM_call_49 : decode prog_7_method_25_code 49 = .ok (.iload_n 1, 1) := by decide +kernel
theorem dM_call_50 : decode prog_7_method_25_code 50 = .ok (.iaload, 1) := by decide +kernel
theorem dM_call_51 : decode prog_7_method_25_code 51 = .ok (.if_icmp .ge 52, 3) := by decide +kernel
theorem dM_call_54 : decode prog_7_method_25_code 54 = .ok (.iload 7, 2) := by decide +kernel
theorem dM_call_56 : decode prog_7_method_25_code 56 = .ok (.ifCond .eq 38, 3) := by decide +kernel
theorem dM_call_59 : decode prog_7_method_25_code 59 = .ok (.iload 6, 2) := by decide +kernel
theorem dM_call_61 : decode prog_7_method_25_code 61 = .ok (.iload 8, 2) := by decide +kernel
theorem dM_call_63 : decode prog_7_method_25_code 63 = .ok (.ishr, 1) := by decide +kernel
theorem dM_call_64 : decode prog_7_method_25_code 64 = .ok (.iconst 1, 1) := by decide +kernel
theorem dM_call_65 : decode prog_7_method_25_code 65 = .ok (.iand, 1) := by decide +kernel
theorem dM_call_66 : decode prog_7_method_25_code 66 = .ok (.iconst 1, 1) := by decide +kernel
theorem dM_call_67 : decode prog_7_method_25_code 67 = .ok (.if_icmp .eq 23, 3) := by decide +kernel
theorem dM_call_70 : decode prog_7_method_25_code 70 = .ok (.aload_n 0, 1) := by decide +kernel
theorem dM_call_71 : decode prog_7_method_25_code 71 = .ok (.lload_n 2, 1) := by decide +kernel
theorem dM_call_72 : decode prog_7_method_25_code 72 = .ok (.aload_n 0, 1) := by decide +kernel
theorem dM_call_73 : decode prog_7_method_25_code 73 = .ok (.getfield 46, 3) := by decide +kernel
theorem dM_call_76 : decode prog_7_method_25_code 76 = .ok (.bipush 7, 2) := by decide +kernel
theorem dM_call_78 : decode prog_7_method_25_code 78 = .ok (.iload_n 1, 1) := by decide +kernel
theorem dM_call_79 : decode prog_7_method_25_code 79 = .ok (.imul, 1) := by decide +kernel
theorem dM_call_80 : decode prog_7_method_25_code 80 = .ok (.iload 8, 2) := by decide +kernel
theorem dM_call_82 : decode prog_7_method_25_code 82 = .ok (.iadd, 1) := by decide +kernel
theorem dM_call_83 : decode prog_7_method_25_code 83 = .ok (.iaload, 1) := by decide +kernel
theorem dM_call_84 : decode prog_7_method_25_code 84 = .ok (.invokevirtual 163, 3) := by decide +kernel
theorem dM_call_87 : decode prog_7_method_25_code 87 = .ok (.ifCond .eq 7, 3) := by decide +kernel
theorem dM_call_90 : decode prog_7_method_25_code 90 = .ok (.iconst 1, 1) := by decide +kernel
theorem dM_call_91 : decode prog_7_method_25_code 91 = .ok (.goto 4, 3) := by decide +kernel
theorem dM_call_94 : decode prog_7_method_25_code 94 = .ok (.iconst 0, 1) := by decide +kernel
theorem dM_call_95 : decode prog_7_method_25_code 95 = .ok (.istore 7, 2) := by decide +kernel
theorem dM_call_97 : decode prog_7_method_25_code 97 = .ok (.iinc 8 1, 3) := by decide +kernel
theorem dM_call_100 : decode prog_7_method_25_code 100 = .ok (.goto (-57), 3) := by decide +kernel
theorem dM_call_103 : decode prog_7_method_25_code 103 = .ok (.iload 7, 2) := by decide +kernel
theorem dM_call_105 : decode prog_7_method_25_code 105 = .ok (.ifCond .ne 6, 3) := by decide +kernel
theorem dM_call_108 : decode prog_7_method_25_code 108 = .ok (.goto 27, 3) := by decide +kernel
theorem dM_call_111 : decode prog_7_method_25_code 111 = .ok (.aload_n 0, 1) := by decide +kernel
theorem dM_call_112 : decode prog_7_method_25_code 112 = .ok (.iload_n 1, 1) := by decide +kernel
theorem dM_call_113 : decode prog_7_method_25_code 113 = .ok (.iload 5, 2) := by decide +kernel
theorem dM_call_115 : decode prog_7_method_25_code 115 = .ok (.lload_n 2, 1) := by decide +kernel
theorem dM_call_116 : decode prog_7_method_25_code 116 = .ok (.aload_n 0, 1) := by decide +kernel
theorem dM_call_117 : decode prog_7_method_25_code 117 = .ok (.iload_n 1, 1) := by decide +kernel
theorem dM_call_118 : decode prog_7_method_25_code 118 = .ok (.iconst 0, 1) := by decide +kernel
theorem dM_call_119 : decode prog_7_method_25_code 119 = .ok (.invokevirtual 159, 3) := by decide +kernel
theorem dM_call_122 : decode prog_7_method_25_code 122 = .ok (.lor, 1) := by decide +kernel
theorem dM_call_123 : decode prog_7_method_25_code 123 = .ok (.invokevirtual 167, 3) := by decide +kernel
theorem dM_call_126 : decode prog_7_method_25_code 126 = .ok (.aload_n 0, 1) := by decide +kernel
theorem dM_call_127 : decode prog_7_method_25_code 127 = .ok (.iload_n 1, 1) := by decide +kernel
theorem dM_call_128 : decode prog_7_method_25_code 128 = .ok (.iload 6, 2) := by decide +kernel
theorem dM_call_130 : decode prog_7_method_25_code 130 = .ok (.lload_n 2, 1) := by decide +kernel
theorem dM_call_131 : decode prog_7_method_25_code 131 = .ok (.invokevirtual 179, 3) := by decide +kernel
theorem dM_call_134 : decode prog_7_method_25_code 134 = .ok (.return_, 1) := by decide +kernel
theorem dM_call_135 : decode prog_7_method_25_code 135 = .ok (.iinc 5 1, 3) := by decide +kernel
theorem dM_call_138 : decode prog_7_method_25_code 138 = .ok (.goto (-127), 3) := by decide +kernel
theorem dM_call_141 : decode prog_7_method_25_code 141 = .ok (.return_, 1) := by decide +kernel
theorem dM_changed_0 : decode prog_7_method_4_code 0 = .ok (.aload_n 0, 1) := by decide +kernel
theorem dM_changed_1 : decode prog_7_method_4_code 1 = .ok (.iconst 0, 1) := by decide +kernel
theorem dM_changed_2 : decode prog_7_method_4_code 2 = .ok (.putfield 138, 3) := by decide +kernel
theorem dM_changed_5 : decode prog_7_method_4_code 5 = .ok (.aload_n 0, 1) := by decide +kernel
theorem dM_changed_6 : decode prog_7_method_4_code 6 = .ok (.iconst (-1), 1) := by decide +kernel
theorem dM_changed_7 : decode prog_7_method_4_code 7 = .ok (.putfield 108, 3) := by decide +kernel
theorem dM_changed_10 : decode prog_7_method_4_code 10 = .ok (.return_, 1) := by decide +kernel
theorem dM_choice_0 : decode prog_7_method_30_code 0 = .ok (.aload_n 0, 1) := by decide +kernel
theorem dM_choice_1 : decode prog_7_method_30_code 1 = .ok (.getfield 90, 3) := by decide +kernel
theorem dM_choice_4 : decode prog_7_method_30_code 4 = .ok (.iload_n 1, 1) := by decide +kernel
theorem dM_choice_5 : decode prog_7_method_30_code 5 = .ok (.iaload, 1) := by decide +kernel
theorem dM_choice_6 : decode prog_7_method_30_code 6 = .ok (.ifCond .ne 41, 3) := by decide +kernel
theorem dM_choice_9 : decode prog_7_method_30_code 9 = .ok (.aload_n 0, 1) := by decide +kernel
theorem dM_choice_10 : decode prog_7_method_30_code 10 = .ok (.getfield 90, 3) := by decide +kernel
theorem dM_choice_13 : decode prog_7_method_30_code 13 = .ok (.iload_n 1, 1) := by decide +kernel
theorem dM_choice_14 : decode prog_7_method_30_code 14 = .ok (.iconst 1, 1) := by decide +kernel
theorem dM_choice_15 : decode prog_7_method_30_code 15 = .ok (.iastore, 1) := by decide +kernel
theorem dM_choice_16 : decode prog_7_method_30_code 16 = .ok (.aload_n 0, 1) := by decide +kernel
theorem dM_choice_17 : decode prog_7_method_30_code 17 = .ok (.getfield 93, 3) := by decide +kernel
theorem dM_choice_20 : decode prog_7_method_30_code 20 = .ok (.iload_n 1, 1) := by decide +kernel
theorem dM_choice_21 : decode prog_7_method_30_code 21 = .ok (.aload_n 0, 1) := by decide +kernel
theorem dM_choice_22 : decode prog_7_method_30_code 22 = .ok (.getfield 31, 3) := by decide +kernel
theorem dM_choice_25 : decode prog_7_method_30_code 25 = .ok (.iload_n 2, 1) := by decide +kernel
theorem dM_choice_26 : decode prog_7_method_30_code 26 = .ok (.iaload, 1) := by decide +kernel
theorem dM_choice_27 : decode prog_7_method_30_code 27 = .ok (.iastore, 1) := by decide +kernel
theorem dM_choice_28 : decode prog_7_method_30_code 28 = .ok (.aload_n 0, 1) := by decide +kernel
theorem dM_choice_29 : decode prog_7_method_30_code 29 = .ok (.getfield 102, 3) := by decide +kernel
theorem dM_choice_32 : decode prog_7_method_30_code 32 = .ok (.iload_n 1, 1) := by decide +kernel
theorem dM_choice_33 : decode prog_7_method_30_code 33 = .ok (.ldc2_w 215, 3) := by decide +kernel
theorem dM_choice_36 : decode prog_7_method_30_code 36 = .ok (.lastore, 1) := by decide +kernel
theorem dM_choice_37 : decode prog_7_method_30_code 37 = .ok (.aload_n 0, 1) := by decide +kernel
theorem dM_choice_38 : decode prog_7_method_30_code 38 = .ok (.getfield 105, 3) := by decide +kernel
theorem dM_choice_41 : decode prog_7_method_30_code 41 = .ok (.iload_n 1, 1) := by decide +kernel
theorem dM_choice_42 : decode prog_7_method_30_code 42 = .ok (.lconst 0, 1) := by decide +kernel
theorem dM_choice_43 : decode prog_7_method_30_code 43 = .ok (.lastore, 1) := by decide +kernel
theorem dM_choice_44 : decode prog_7_method_30_code 44 = .ok (.goto 77, 3) := by decide +kernel
theorem dM_choice_47 : decode prog_7_method_30_code 47 = .ok (.aload_n 0, 1) := by decide +kernel
theorem dM_choice_48 : decode prog_7_method_30_code 48 = .ok (.getfield 93, 3) := by decide +kernel
theorem dM_choice_51 : decode prog_7_method_30_code 51 = .ok (.iload_n 1, 1) := by decide +kernel
theorem dM_choice_52 : decode prog_7_method_30_code 52 = .ok (.iaload, 1) := by decide +kernel
theorem dM_choice_53 : decode prog_7_method_30_code 53 = .ok (.istore_n 3, 1) := by decide +kernel
theorem dM_choice_54 : decode prog_7_method_30_code 54 = .ok (.aload_n 0, 1) := by decide +kernel
theorem dM_choice_55 : decode prog_7_method_30_code 55 = .ok (.getfield 68, 3) := by decide +kernel
theorem dM_choice_58 : decode prog_7_method_30_code 58 = .ok (.iload_n 3, 1) := by decide +kernel
theorem dM_choice_59 : decode prog_7_method_30_code 59 = .ok (.baload, 1) := by decide +kernel
theorem dM_choice_60 : decode prog_7_method_30_code 60 = .ok (.ifCond .ne 19, 3) := by decide +kernel
theorem dM_choice_63 : decode prog_7_method_30_code 63 = .ok (.aload_n 0, 1) := by decide +kernel
theorem dM_choice_64 : decode prog_7_method_30_code 64 = .ok (.getfield 84, 3) := by decide +kernel
theorem dM_choice_67 : decode prog_7_method_30_code 67 = .ok (.iload_n 2, 1) := by decide +kernel
theorem dM_choice_68 : decode prog_7_method_30_code 68 = .ok (.iload_n 3, 1) := by decide +kernel
theorem dM_choice_69 : decode prog_7_method_30_code 69 = .ok (.iastore, 1) := by decide +kernel
theorem dM_choice_70 : decode prog_7_method_30_code 70 = .ok (.aload_n 0, 1) := by decide +kernel
theorem dM_choice_71 : decode prog_7_method_30_code 71 = .ok (.iload_n 2, 1) := by decide +kernel
theorem dM_choice_72 : decode prog_7_method_30_code 72 = .ok (.iconst 0, 1) := by decide +kernel
theorem dM_choice_73 : decode prog_7_method_30_code 73 = .ok (.lconst 0, 1) := by decide +kernel
theorem dM_choice_74 : decode prog_7_method_30_code 74 = .ok (.invokevirtual 211, 3) := by decide +kernel
theorem dM_choice_77 : decode prog_7_method_30_code 77 = .ok (.iconst 1, 1) := by decide +kernel
theorem dM_choice_78 : decode prog_7_method_30_code 78 = .ok (.ireturn, 1) := by decide +kernel
theorem dM_choice_79 : decode prog_7_method_30_code 79 = .ok (.aload_n 0, 1) := by decide +kernel
theorem dM_choice_80 : decode prog_7_method_30_code 80 = .ok (.getfield 102, 3) := by decide +kernel
theorem dM_choice_83 : decode prog_7_method_30_code 83 = .ok (.iload_n 1, 1) := by decide +kernel
theorem dM_choice_84 : decode prog_7_method_30_code 84 = .ok (.dup2, 1) := by decide +kernel
theorem dM_choice_85 : decode prog_7_method_30_code 85 = .ok (.laload, 1) := by decide +kernel
theorem dM_choice_86 : decode prog_7_method_30_code 86 = .ok (.aload_n 0, 1) := by decide +kernel
theorem dM_choice_87 : decode prog_7_method_30_code 87 = .ok (.getfield 65, 3) := by decide +kernel
theorem dM_choice_90 : decode prog_7_method_30_code 90 = .ok (.iload_n 3, 1) := by decide +kernel
theorem dM_choice_91 : decode prog_7_method_30_code 91 = .ok (.laload, 1) := by decide +kernel
theorem dM_choice_92 : decode prog_7_method_30_code 92 = .ok (.land, 1) := by decide +kernel
theorem dM_choice_93 : decode prog_7_method_30_code 93 = .ok (.lastore, 1) := by decide +kernel
theorem dM_choice_94 : decode prog_7_method_30_code 94 = .ok (.aload_n 0, 1) := by decide +kernel
theorem dM_choice_95 : decode prog_7_method_30_code 95 = .ok (.getfield 105, 3) := by decide +kernel
theorem dM_choice_98 : decode prog_7_method_30_code 98 = .ok (.iload_n 1, 1) := by decide +kernel
theorem dM_choice_99 : decode prog_7_method_30_code 99 = .ok (.dup2, 1) := by decide +kernel
theorem dM_choice_100 : decode prog_7_method_30_code 100 = .ok (.laload, 1) := by decide +kernel
theorem dM_choice_101 : decode prog_7_method_30_code 101 = .ok (.aload_n 0, 1) := by decide +kernel
theorem dM_choice_102 : decode prog_7_method_30_code 102 = .ok (.getfield 65, 3) := by decide +kernel
theorem dM_choice_105 : decode prog_7_method_30_code 105 = .ok (.iload_n 3, 1) := by decide +kernel
theorem dM_choice_106 : decode prog_7_method_30_code 106 = .ok (.laload, 1) := by decide +kernel
theorem dM_choice_107 : decode prog_7_method_30_code 107 = .ok (.lor, 1) := by decide +kernel
theorem dM_choice_108 : decode prog_7_method_30_code 108 = .ok (.lastore, 1) := by decide +kernel
theorem dM_choice_109 : decode prog_7_method_30_code 109 = .ok (.aload_n 0, 1) := by decide +kernel
theorem dM_choice_110 : decode prog_7_method_30_code 110 = .ok (.getfield 93, 3) := by decide +kernel
theorem dM_choice_113 : decode prog_7_method_30_code 113 = .ok (.iload_n 1, 1) := by decide +kernel
theorem dM_choice_114 : decode prog_7_method_30_code 114 = .ok (.aload_n 0, 1) := by decide +kernel
theorem dM_choice_115 : decode prog_7_method_30_code 115 = .ok (.getfield 37, 3) := by decide +kernel
theorem dM_choice_118 : decode prog_7_method_30_code 118 = .ok (.iload_n 3, 1) := by decide +kernel
theorem dM_choice_119 : decode prog_7_method_30_code 119 = .ok (.iaload, 1) := by decide +kernel
theorem dM_choice_120 : decode prog_7_method_30_code 120 = .ok (.iastore, 1) := by decide +kernel
theorem dM_choice_121 : decode prog_7_method_30_code 121 = .ok (.aload_n 0, 1) := by decide +kernel
theorem dM_choice_122 : decode prog_7_method_30_code 122 = .ok (.getfield 93, 3) := by decide +kernel
theorem dM_choice_125 : decode prog_7_method_30_code 125 = .ok (.iload_n 1, 1) := by decide +kernel
theorem dM_choice_126 : decode prog_7_method_30_code 126 = .ok (.iaload, 1) := by decide +kernel
theorem dM_choice_127 : decode prog_7_method_30_code 127 = .ok (.iconst (-1), 1) := by decide +kernel
theorem dM_choice_128 : decode prog_7_method_30_code 128 = .ok (.if_icmp .eq 20, 3) := by decide +kernel
theorem dM_choice_131 : decode prog_7_method_30_code 131 = .ok (.aload_n 0, 1) := by decide +kernel
theorem dM_choice_132 : decode prog_7_method_30_code 132 = .ok (.aload_n 0, 1) := by decide +kernel
theorem dM_choice_133 : decode prog_7_method_30_code 133 = .ok (.getfield 93, 3) := by decide +kernel
theorem dM_choice_136 : decode prog_7_method_30_code 136 = .ok (.iload_n 1, 1) := by decide +kernel
theorem dM_choice_137 : decode prog_7_method_30_code 137 = .ok (.iaload, 1) := by decide +kernel
theorem dM_choice_138 : decode prog_7_method_30_code 138 = .ok (.aload_n 0, 1) := by decide +kernel
theorem dM_choice_139 : decode prog_7_method_30_code 139 = .ok (.getfield 62, 3) := by decide +kernel
theorem dM_choice_142 : decode prog_7_method_30_code 142 = .ok (.iload_n 2, 1) := by decide +kernel
theorem dM_choice_143 : decode prog_7_method_30_code 143 = .ok (.laload, 1) := by decide +kernel
theorem dM_choice_144 : decode prog_7_method_30_code 144 = .ok (.invokevirtual 207, 3) := by decide +kernel
theorem dM_choice_147 : decode prog_7_method_30_code 147 = .ok (.ireturn, 1) := by decide +kernel
theorem dM_choice_148 : decode prog_7_method_30_code 148 = .ok (.aload_n 0, 1) := by decide +kernel
theorem dM_choice_149 : decode prog_7_method_30_code 149 = .ok (.getfield 55, 3) := by decide +kernel
theorem dM_choice_152 : decode prog_7_method_30_code 152 = .ok (.iload_n 2, 1) := by decide +kernel
theorem dM_choice_153 : decode prog_7_method_30_code 153 = .ok (.laload, 1) := by decide +kernel
theorem dM_choice_154 : decode prog_7_method_30_code 154 = .ok (.aload_n 0, 1) := by decide +kernel
theorem dM_choice_155 : decode prog_7_method_30_code 155 = .ok (.getfield 62, 3) := by decide +kernel
theorem dM_choice_158 : decode prog_7_method_30_code 158 = .ok (.iload_n 2, 1) := by decide +kernel
theorem dM_choice_159 : decode prog_7_method_30_code 159 = .ok (.laload, 1) := by decide +kernel
theorem dM_choice_160 : decode prog_7_method_30_code 160 = .ok (.ldc2_w 215, 3) := by decide +kernel
theorem dM_choice_163 : decode prog_7_method_30_code 163 = .ok (.lxor, 1) := by decide +kernel
theorem dM_choice_164 : decode prog_7_method_30_code 164 = .ok (.land, 1) := by decide +kernel
theorem dM_choice_165 : decode prog_7_method_30_code 165 = .ok (.lstore_n 3, 1) := by decide +kernel
theorem dM_choice_166 : decode prog_7_method_30_code 166 = .ok (.aload_n 0, 1) := by decide +kernel
theorem dM_choice_167 : decode prog_7_method_30_code 167 = .ok (.getfield 28, 3) := by decide +kernel
theorem dM_choice_170 : decode prog_7_method_30_code 170 = .ok (.iload_n 2, 1) := by decide +kernel
theorem dM_choice_171 : decode prog_7_method_30_code 171 = .ok (.iaload, 1) := by decide +kernel
theorem dM_choice_172 : decode prog_7_method_30_code 172 = .ok (.ifCond .eq 23, 3) := by decide +kernel
theorem dM_choice_175 : decode prog_7_method_30_code 175 = .ok (.aload_n 0, 1) := by decide +kernel
theorem dM_choice_176 : decode prog_7_method_30_code 176 = .ok (.getfield 102, 3) := by decide +kernel
theorem dM_choice_179 : decode prog_7_method_30_code 179 = .ok (.iload_n 1, 1) := by decide +kernel
theorem dM_choice_180 : decode prog_7_method_30_code 180 = .ok (.laload, 1) := by decide +kernel
theorem dM_choice_181 : decode prog_7_method_30_code 181 = .ok (.lload_n 3, 1) := by decide +kernel
theorem dM_choice_182 : decode prog_7_method_30_code 182 = .ok (.land, 1) := by decide +kernel
theorem dM_choice_183 : decode prog_7_method_30_code 183 = .ok (.aload_n 0, 1) := by decide +kernel
theorem dM_choice_184 : decode prog_7_method_30_code 184 = .ok (.getfield 105, 3) := by decide +kernel
theorem dM_choice_187 : decode prog_7_method_30_code 187 = .ok (.iload_n 1, 1) := by decide +kernel
theorem dM_choice_188 : decode prog_7_method_30_code 188 = .ok (.laload, 1) := by decide +kernel
theorem dM_choice_189 : decode prog_7_method_30_code 189 = .ok (.lload_n 3, 1) := by decide +kernel
theorem dM_choice_190 : decode prog_7_method_30_code 190 = .ok (.land, 1) := by decide +kernel
theorem dM_choice_191 : decode prog_7_method_30_code 191 = .ok (.lcmp, 1) := by decide +kernel
theorem dM_choice_192 : decode prog_7_method_30_code 192 = .ok (.ifCond .ne 7, 3) := by decide +kernel
theorem dM_choice_195 : decode prog_7_method_30_code 195 = .ok (.iconst 1, 1) := by decide +kernel
theorem dM_choice_196 : decode prog_7_method_30_code 196 = .ok (.goto 4, 3) := by decide +kernel
theorem dM_choice_199 : decode prog_7_method_30_code 199 = .ok (.iconst 0, 1) := by decide +kernel
theorem dM_choice_200 : decode prog_7_method_30_code 200 = .ok (.istore 5, 2) := by decide +kernel
theorem dM_choice_202 : decode prog_7_method_30_code 202 = .ok (.aload_n 0, 1) := by decide +kernel
theorem dM_choice_203 : decode prog_7_method_30_code 203 = .ok (.iload_n 2, 1) := by decide +kernel
theorem dM_choice_204 : decode prog_7_method_30_code 204 = .ok (.iload 5, 2) := by decide +kernel
theorem dM_choice_206 : decode prog_7_method_30_code 206 = .ok (.aload_n 0, 1) := by decide +kernel
theorem dM_choice_207 : decode prog_7_method_30_code 207 = .ok (.getfield 62, 3) := by decide +kernel
theorem dM_choice_210 : decode prog_7_method_30_code 210 = .ok (.iload_n 2, 1) := by decide +kernel
theorem dM_choice_211 : decode prog_7_method_30_code 211 = .ok (.laload, 1) := by decide +kernel
theorem dM_choice_212 : decode prog_7_method_30_code 212 = .ok (.aload_n 0, 1) := by decide +kernel
theorem dM_choice_213 : decode prog_7_method_30_code 213 = .ok (.getfield 28, 3) := by decide +kernel
theorem dM_choice_216 : decode prog_7_method_30_code 216 = .ok (.iload_n 2, 1) := by decide +kernel
theorem dM_choice_217 : decode prog_7_method_30_code 217 = .ok (.iaload, 1) := by decide +kernel
theorem dM_choice_218 : decode prog_7_method_30_code 218 = .ok (.ifCond .ne 7, 3) := by decide +kernel
theorem dM_choice_221 : decode prog_7_method_30_code 221 = .ok (.lconst 0, 1) := by decide +kernel
theorem dM_choice_222 : decode prog_7_method_30_code 222 = .ok (.goto 11, 3) := by decide +kernel
theorem dM_choice_225 : decode prog_7_method_30_code 225 = .ok (.aload_n 0, 1) := by decide +kernel
theorem dM_choice_226 : decode prog_7_method_30_code 226 = .ok (.getfield 102, 3) := by decide +kernel
theorem dM_choice_229 : decode prog_7_method_30_code 229 = .ok (.iload_n 1, 1) := by decide +kernel
theorem dM_choice_230 : decode prog_7_method_30_code 230 = .ok (.laload, 1) := by decide +kernel
theorem dM_choice_231 : decode prog_7_method_30_code 231 = .ok (.lload_n 3, 1) := by decide +kernel
theorem dM_choice_232 : decode prog_7_method_30_code 232 = .ok (.land, 1) := by decide +kernel
theorem dM_choice_233 : decode prog_7_method_30_code 233 = .ok (.lor, 1) := by decide +kernel
theorem dM_choice_234 : decode prog_7_method_30_code 234 = .ok (.invokevirtual 211, 3) := by decide +kernel
theorem dM_choice_237 : decode prog_7_method_30_code 237 = .ok (.iconst 1, 1) := by decide +kernel
theorem dM_choice_238 : decode prog_7_method_30_code 238 = .ok (.ireturn, 1) := by decide +kernel
theorem dM_clear_0 : decode prog_7_method_7_code 0 = .ok (.aload_n 0, 1) := by decide +kernel
theorem dM_clear_1 : decode prog_7_method_7_code 1 = .ok (.iconst 0, 1) := by decide +kernel
theorem dM_clear_2 : decode prog_7_method_7_code 2 = .ok (.putfield 115, 3) := by decide +kernel
theorem dM_clear_5 : decode prog_7_method_7_code 5 = .ok (.aload_n 0, 1) := by decide +kernel
theorem dM_clear_6 : decode prog_7_method_7_code 6 = .ok (.invokevirtual 112, 3) := by decide +kernel
theorem dM_clear_9 : decode prog_7_method_7_code 9 = .ok (.return_, 1) := by decide +kernel
theorem dM_comes_0 : decode prog_7_method_21_code 0 = .ok (.aload_n 0, 1) := by decide +kernel
theorem dM_comes_1 : decode prog_7_method_21_code 1 = .ok (.getfield 68, 3) := by decide +kernel
theorem dM_comes_4 : decode prog_7_method_21_code 4 = .ok (.iload_n 1, 1) := by decide +kernel
theorem dM_comes_5 : decode prog_7_method_21_code 5 = .ok (.iconst 1, 1) := by decide +kernel
theorem dM_comes_6 : decode prog_7_method_21_code 6 = .ok (.bastore, 1) := by decide +kernel
theorem dM_comes_7 : decode prog_7_method_21_code 7 = .ok (.aload_n 0, 1) := by decide +kernel
theorem dM_comes_8 : decode prog_7_method_21_code 8 = .ok (.getfield 78, 3) := by decide +kernel
theorem dM_comes_11 : decode prog_7_method_21_code 11 = .ok (.iload_n 1, 1) := by decide +kernel
theorem dM_comes_12 : decode prog_7_method_21_code 12 = .ok (.iload_n 2, 1) := by decide +kernel
theorem dM_comes_13 : decode prog_7_method_21_code 13 = .ok (.iastore, 1) := by decide +kernel
theorem dM_comes_14 : decode prog_7_method_21_code 14 = .ok (.aload_n 0, 1) := by decide +kernel
theorem dM_comes_15 : decode prog_7_method_21_code 15 = .ok (.getfield 65, 3) := by decide +kernel
theorem dM_comes_18 : decode prog_7_method_21_code 18 = .ok (.iload_n 1, 1) := by decide +kernel
theorem dM_comes_19 : decode prog_7_method_21_code 19 = .ok (.lload_n 3, 1) := by decide +kernel
theorem dM_comes_20 : decode prog_7_method_21_code 20 = .ok (.lastore, 1) := by decide +kernel
theorem dM_comes_21 : decode prog_7_method_21_code 21 = .ok (.return_, 1) := by decide +kernel
end
section
theorem dM_compare_0 : decode prog_7_method_24_code 0 = .ok (.lload_n 3, 1) := by decide +kernel
theorem dM_compare_1 : decode prog_7_method_24_code 1 = .ok (.lstore 5, 2) := by decide +kernel
theorem dM_compare_3 : decode prog_7_method_24_code 3 = .ok (.iconst 0, 1) := by decide +kernel
theorem dM_compare_4 : decode prog_7_method_24_code 4 = .ok (.istore 7, 2) := by decide +kernel
theorem dM_compare_6 : decode prog_7_method_24_code 6 = .ok (.iload 7, 2) := by decide +kernel
theorem dM_compare_8 : decode prog_7_method_24_code 8 = .ok (.aload_n 0, 1) := by decide +kernel
theorem dM_compare_9 : decode prog_7_method_24_code 9 = .ok (.getfield 43, 3) := by decide +kernel
theorem dM_compare_12 : decode prog_7_method_24_code 12 = .ok (.iload_n 1, 1) := by decide +kernel
theorem dM_compare_13 : decode prog_7_method_24_code 13 = .ok (.iaload, 1) := by decide +kernel
theorem dM_compare_14 : decode prog_7_method_24_code 14 = .ok (.if_icmp .ge 105, 3) := by decide +kernel
theorem dM_compare_17 : decode prog_7_method_24_code 17 = .ok (.aload_n 0, 1) := by decide +kernel
theorem dM_compare_18 : decode prog_7_method_24_code 18 = .ok (.getfield 19, 3) := by decide +kernel
theorem dM_compare_21 : decode prog_7_method_24_code 21 = .ok (.iload_n 1, 1) := by decide +kernel
theorem dM_compare_22 : decode prog_7_method_24_code 22 = .ok (.iaload, 1) := by decide +kernel
theorem dM_compare_23 : decode prog_7_method_24_code 23 = .ok (.bipush 8, 2) := by decide +kernel
theorem dM_compare_25 : decode prog_7_method_24_code 25 = .ok (.if_icmp .ne 16, 3) := by decide +kernel
theorem dM_compare_28 : decode prog_7_method_24_code 28 = .ok (.iload 7, 2) := by decide +kernel
theorem dM_compare_30 : decode prog_7_method_24_code 30 = .ok (.ifCond .le 7, 3) := by decide +kernel
theorem dM_compare_33 : decode prog_7_method_24_code 33 = .ok (.iconst 1, 1) := by decide +kernel
theorem dM_compare_34 : decode prog_7_method_24_code 34 = .ok (.goto 22, 3) := by decide +kernel
theorem dM_compare_37 : decode prog_7_method_24_code 37 = .ok (.iconst 0, 1) := by decide +kernel
theorem dM_compare_38 : decode prog_7_method_24_code 38 = .ok (.goto 18, 3) := by decide +kernel
theorem dM_compare_41 : decode prog_7_method_24_code 41 = .ok (.iload_n 2, 1) := by decide +kernel
theorem dM_compare_42 : decode prog_7_method_24_code 42 = .ok (.iload 7, 2) := by decide +kernel
theorem dM_compare_44 : decode prog_7_method_24_code 44 = .ok (.ishr, 1) := by decide +kernel
theorem dM_compare_45 : decode prog_7_method_24_code 45 = .ok (.iconst 1, 1) := by decide +kernel
theorem dM_compare_46 : decode prog_7_method_24_code 46 = .ok (.iand, 1) := by decide +kernel
theorem dM_compare_47 : decode prog_7_method_24_code 47 = .ok (.iconst 1, 1) := by decide +kernel
theorem dM_compare_48 : decode prog_7_method_24_code 48 = .ok (.if_icmp .ne 7, 3) := by decide +kernel
theorem dM_compare_51 : decode prog_7_method_24_code 51 = .ok (.iconst 1, 1) := by decide +kernel
theorem dM_compare_52 : decode prog_7_method_24_code 52 = .ok (.goto 4, 3) := by decide +kernel
theorem dM_compare_55 : decode prog_7_method_24_code 55 = .ok (.iconst 0, 1) := by decide +kernel
theorem dM_compare_56 : decode prog_7_method_24_code 56 = .ok (.istore 8, 2) := by decide +kernel
theorem dM_compare_58 : decode prog_7_method_24_code 58 = .ok (.iload 8, 2) := by decide +kernel
theorem dM_compare_60 : decode prog_7_method_24_code 60 = .ok (.ifCond .ne 6, 3) := by decide +kernel
theorem dM_compare_63 : decode prog_7_method_24_code 63 = .ok (.goto 50, 3) := by decide +kernel
theorem dM_compare_66 : decode prog_7_method_24_code 66 = .ok (.aload_n 0, 1) := by decide +kernel
theorem dM_compare_67 : decode prog_7_method_24_code 67 = .ok (.getfield 46, 3) := by decide +kernel
theorem dM_compare_70 : decode prog_7_method_24_code 70 = .ok (.bipush 7, 2) := by decide +kernel
theorem dM_compare_72 : decode prog_7_method_24_code 72 = .ok (.iload_n 1, 1) := by decide +kernel
theorem dM_compare_73 : decode prog_7_method_24_code 73 = .ok (.imul, 1) := by decide +kernel
theorem dM_compare_74 : decode prog_7_method_24_code 74 = .ok (.iload 7, 2) := by decide +kernel
theorem dM_compare_76 : decode prog_7_method_24_code 76 = .ok (.iadd, 1) := by decide +kernel
theorem dM_compare_77 : decode prog_7_method_24_code 77 = .ok (.iaload, 1) := by decide +kernel
theorem dM_compare_78 : decode prog_7_method_24_code 78 = .ok (.istore 9, 2) := by decide +kernel
theorem dM_compare_80 : decode prog_7_method_24_code 80 = .ok (.aload_n 0, 1) := by decide +kernel
theorem dM_compare_81 : decode prog_7_method_24_code 81 = .ok (.lload 5, 2) := by decide +kernel
theorem dM_compare_83 : decode prog_7_method_24_code 83 = .ok (.iload 9, 2) := by decide +kernel
theorem dM_compare_85 : decode prog_7_method_24_code 85 = .ok (.invokevirtual 163, 3) := by decide +kernel
theorem dM_compare_88 : decode prog_7_method_24_code 88 = .ok (.ifCond .eq 16, 3) := by decide +kernel
theorem dM_compare_91 : decode prog_7_method_24_code 91 = .ok (.aload_n 0, 1) := by decide +kernel
theorem dM_compare_92 : decode prog_7_method_24_code 92 = .ok (.getfield 81, 3) := by decide +kernel
theorem dM_compare_95 : decode prog_7_method_24_code 95 = .ok (.iload_n 1, 1) := by decide +kernel
theorem dM_compare_96 : decode prog_7_method_24_code 96 = .ok (.dup2, 1) := by decide +kernel
theorem dM_compare_97 : decode prog_7_method_24_code 97 = .ok (.iaload, 1) := by decide +kernel
theorem dM_compare_98 : decode prog_7_method_24_code 98 = .ok (.iconst 1, 1) := by decide +kernel
theorem dM_compare_99 : decode prog_7_method_24_code 99 = .ok (.iload 7, 2) := by decide +kernel
theorem dM_compare_101 : decode prog_7_method_24_code 101 = .ok (.ishl, 1) := by decide +kernel
theorem dM_compare_102 : decode prog_7_method_24_code 102 = .ok (.ior, 1) := by decide +kernel
theorem dM_compare_103 : decode prog_7_method_24_code 103 = .ok (.iastore, 1) := by decide +kernel
theorem dM_compare_104 : decode prog_7_method_24_code 104 = .ok (.lload 5, 2) := by decide +kernel
theorem dM_compare_106 : decode prog_7_method_24_code 106 = .ok (.lconst 1, 1) := by decide +kernel
theorem dM_compare_107 : decode prog_7_method_24_code 107 = .ok (.iload 9, 2) := by decide +kernel
theorem dM_compare_109 : decode prog_7_method_24_code 109 = .ok (.lshl, 1) := by decide +kernel
theorem dM_compare_110 : decode prog_7_method_24_code 110 = .ok (.lor, 1) := by decide +kernel
theorem dM_compare_111 : decode prog_7_method_24_code 111 = .ok (.lstore 5, 2) := by decide +kernel
theorem dM_compare_113 : decode prog_7_method_24_code 113 = .ok (.iinc 7 1, 3) := by decide +kernel
theorem dM_compare_116 : decode prog_7_method_24_code 116 = .ok (.goto (-110), 3) := by decide +kernel
theorem dM_compare_119 : decode prog_7_method_24_code 119 = .ok (.return_, 1) := by decide +kernel
theorem dM_compared_0 : decode prog_7_method_38_code 0 = .ok (.aload_n 0, 1) := by decide +kernel
theorem dM_compared_1 : decode prog_7_method_38_code 1 = .ok (.iconst 0, 1) := by decide +kernel
theorem dM_compared_2 : decode prog_7_method_38_code 2 = .ok (.putfield 115, 3) := by decide +kernel
theorem dM_compared_5 : decode prog_7_method_38_code 5 = .ok (.aload_n 0, 1) := by decide +kernel
theorem dM_compared_6 : decode prog_7_method_38_code 6 = .ok (.getfield 138, 3) := by decide +kernel
theorem dM_compared_9 : decode prog_7_method_38_code 9 = .ok (.ifCond .eq 53, 3) := by decide +kernel
theorem dM_compared_12 : decode prog_7_method_38_code 12 = .ok (.aload_n 0, 1) := by decide +kernel
theorem dM_compared_13 : decode prog_7_method_38_code 13 = .ok (.iload_n 1, 1) := by decide +kernel
theorem dM_compared_14 : decode prog_7_method_38_code 14 = .ok (.invokevirtual 149, 3) := by decide +kernel
theorem dM_compared_17 : decode prog_7_method_38_code 17 = .ok (.ifCond .eq 45, 3) := by decide +kernel
theorem dM_compared_20 : decode prog_7_method_38_code 20 = .ok (.aload_n 0, 1) := by decide +kernel
theorem dM_compared_21 : decode prog_7_method_38_code 21 = .ok (.getfield 19, 3) := by decide +kernel
theorem dM_compared_24 : decode prog_7_method_38_code 24 = .ok (.iload_n 1, 1) := by decide +kernel
theorem dM_compared_25 : decode prog_7_method_38_code 25 = .ok (.iaload, 1) := by decide +kernel
theorem dM_compared_26 : decode prog_7_method_38_code 26 = .ok (.iconst 3, 1) := by decide +kernel
theorem dM_compared_27 : decode prog_7_method_38_code 27 = .ok (.if_icmp .le 35, 3) := by decide +kernel
theorem dM_compared_30 : decode prog_7_method_38_code 30 = .ok (.iload_n 2, 1) := by decide +kernel
theorem dM_compared_31 : decode prog_7_method_38_code 31 = .ok (.ifCond .lt 31, 3) := by decide +kernel
theorem dM_compared_34 : decode prog_7_method_38_code 34 = .ok (.iload_n 2, 1) := by decide +kernel
theorem dM_compared_35 : decode prog_7_method_38_code 35 = .ok (.aload_n 0, 1) := by decide +kernel
theorem dM_compared_36 : decode prog_7_method_38_code 36 = .ok (.getfield 43, 3) := by decide +kernel
theorem dM_compared_39 : decode prog_7_method_38_code 39 = .ok (.iload_n 1, 1) := by decide +kernel
theorem dM_compared_40 : decode prog_7_method_38_code 40 = .ok (.iaload, 1) := by decide +kernel
theorem dM_compared_41 : decode prog_7_method_38_code 41 = .ok (.if_icmp .ge 21, 3) := by decide +kernel
theorem dM_compared_44 : decode prog_7_method_38_code 44 = .ok (.aload_n 0, 1) := by decide +kernel
theorem dM_compared_45 : decode prog_7_method_38_code 45 = .ok (.getfield 81, 3) := by decide +kernel
theorem dM_compared_48 : decode prog_7_method_38_code 48 = .ok (.iload_n 1, 1) := by decide +kernel
theorem dM_compared_49 : decode prog_7_method_38_code 49 = .ok (.iaload, 1) := by decide +kernel
theorem dM_compared_50 : decode prog_7_method_38_code 50 = .ok (.iload_n 2, 1) := by decide +kernel
theorem dM_compared_51 : decode prog_7_method_38_code 51 = .ok (.ishr, 1) := by decide +kernel
theorem dM_compared_52 : decode prog_7_method_38_code 52 = .ok (.iconst 1, 1) := by decide +kernel
theorem dM_compared_53 : decode prog_7_method_38_code 53 = .ok (.iand, 1) := by decide +kernel
theorem dM_compared_54 : decode prog_7_method_38_code 54 = .ok (.iconst 1, 1) := by decide +kernel
theorem dM_compared_55 : decode prog_7_method_38_code 55 = .ok (.if_icmp .ne 7, 3) := by decide +kernel
theorem dM_compared_58 : decode prog_7_method_38_code 58 = .ok (.iconst 1, 1) := by decide +kernel
theorem dM_compared_59 : decode prog_7_method_38_code 59 = .ok (.goto 4, 3) := by decide +kernel
theorem dM_compared_62 : decode prog_7_method_38_code 62 = .ok (.iconst 0, 1) := by decide +kernel
theorem dM_compared_63 : decode prog_7_method_38_code 63 = .ok (.ireturn, 1) := by decide +kernel
theorem dM_ended_0 : decode prog_7_method_27_code 0 = .ok (.aload_n 0, 1) := by decide +kernel
theorem dM_ended_1 : decode prog_7_method_27_code 1 = .ok (.dup, 1) := by decide +kernel
theorem dM_ended_2 : decode prog_7_method_27_code 2 = .ok (.getfield 193, 3) := by decide +kernel
theorem dM_ended_5 : decode prog_7_method_27_code 5 = .ok (.iconst 1, 1) := by decide +kernel
theorem dM_ended_6 : decode prog_7_method_27_code 6 = .ok (.isub, 1) := by decide +kernel
theorem dM_ended_7 : decode prog_7_method_27_code 7 = .ok (.putfield 193, 3) := by decide +kernel
theorem dM_ended_10 : decode prog_7_method_27_code 10 = .ok (.aload_n 0, 1) := by decide +kernel
theorem dM_ended_11 : decode prog_7_method_27_code 11 = .ok (.getfield 68, 3) := by decide +kernel
theorem dM_ended_14 : decode prog_7_method_27_code 14 = .ok (.iload_n 1, 1) := by decide +kernel
theorem dM_ended_15 : decode prog_7_method_27_code 15 = .ok (.iload_n 2, 1) := by decide +kernel
theorem dM_ended_16 : decode prog_7_method_27_code 16 = .ok (.bastore, 1) := by decide +kernel
theorem dM_ended_17 : decode prog_7_method_27_code 17 = .ok (.aload_n 0, 1) := by decide +kernel
theorem dM_ended_18 : decode prog_7_method_27_code 18 = .ok (.getfield 65, 3) := by decide +kernel
theorem dM_ended_21 : decode prog_7_method_27_code 21 = .ok (.iload_n 1, 1) := by decide +kernel
theorem dM_ended_22 : decode prog_7_method_27_code 22 = .ok (.lload_n 3, 1) := by decide +kernel
theorem dM_ended_23 : decode prog_7_method_27_code 23 = .ok (.lastore, 1) := by decide +kernel
theorem dM_ended_24 : decode prog_7_method_27_code 24 = .ok (.return_, 1) := by decide +kernel
theorem dM_given_0 : decode prog_7_method_15_code 0 = .ok (.aload_n 0, 1) := by decide +kernel
theorem dM_given_1 : decode prog_7_method_15_code 1 = .ok (.iconst 0, 1) := by decide +kernel
theorem dM_given_2 : decode prog_7_method_15_code 2 = .ok (.putfield 115, 3) := by decide +kernel
theorem dM_given_5 : decode prog_7_method_15_code 5 = .ok (.iload_n 1, 1) := by decide +kernel
theorem dM_given_6 : decode prog_7_method_15_code 6 = .ok (.invokestatic 145, 3) := by decide +kernel
theorem dM_given_9 : decode prog_7_method_15_code 9 = .ok (.ifCond .eq 25, 3) := by decide +kernel
theorem dM_given_12 : decode prog_7_method_15_code 12 = .ok (.aload_n 0, 1) := by decide +kernel
theorem dM_given_13 : decode prog_7_method_15_code 13 = .ok (.getfield 124, 3) := by decide +kernel
theorem dM_given_16 : decode prog_7_method_15_code 16 = .ok (.iload_n 1, 1) := by decide +kernel
theorem dM_given_17 : decode prog_7_method_15_code 17 = .ok (.lshr, 1) := by decide +kernel
theorem dM_given_18 : decode prog_7_method_15_code 18 = .ok (.lconst 1, 1) := by decide +kernel
theorem dM_given_19 : decode prog_7_method_15_code 19 = .ok (.land, 1) := by decide +kernel
theorem dM_given_20 : decode prog_7_method_15_code 20 = .ok (.lconst 1, 1) := by decide +kernel
theorem dM_given_21 : decode prog_7_method_15_code 21 = .ok (.lcmp, 1) := by decide +kernel
theorem dM_given_22 : decode prog_7_method_15_code 22 = .ok (.ifCond .ne 7, 3) := by decide +kernel
theorem dM_given_25 : decode prog_7_method_15_code 25 = .ok (.iconst 1, 1) := by decide +kernel
theorem dM_given_26 : decode prog_7_method_15_code 26 = .ok (.goto 4, 3) := by decide +kernel
theorem dM_given_29 : decode prog_7_method_15_code 29 = .ok (.iconst 0, 1) := by decide +kernel
theorem dM_given_30 : decode prog_7_method_15_code 30 = .ok (.iload_n 2, 1) := by decide +kernel
theorem dM_given_31 : decode prog_7_method_15_code 31 = .ok (.if_icmp .ne 5, 3) := by decide +kernel
theorem dM_given_34 : decode prog_7_method_15_code 34 = .ok (.iconst 0, 1) := by decide +kernel
theorem dM_given_35 : decode prog_7_method_15_code 35 = .ok (.ireturn, 1) := by decide +kernel
theorem dM_given_36 : decode prog_7_method_15_code 36 = .ok (.aload_n 0, 1) := by decide +kernel
theorem dM_given_37 : decode prog_7_method_15_code 37 = .ok (.aload_n 0, 1) := by decide +kernel
theorem dM_given_38 : decode prog_7_method_15_code 38 = .ok (.getfield 124, 3) := by decide +kernel
theorem dM_given_41 : decode prog_7_method_15_code 41 = .ok (.lconst 1, 1) := by decide +kernel
theorem dM_given_42 : decode prog_7_method_15_code 42 = .ok (.iload_n 1, 1) := by decide +kernel
theorem dM_given_43 : decode prog_7_method_15_code 43 = .ok (.lshl, 1) := by decide +kernel
theorem dM_given_44 : decode prog_7_method_15_code 44 = .ok (.lxor, 1) := by decide +kernel
theorem dM_given_45 : decode prog_7_method_15_code 45 = .ok (.putfield 124, 3) := by decide +kernel
theorem dM_given_48 : decode prog_7_method_15_code 48 = .ok (.aload_n 0, 1) := by decide +kernel
theorem dM_given_49 : decode prog_7_method_15_code 49 = .ok (.invokevirtual 135, 3) := by decide +kernel
theorem dM_given_52 : decode prog_7_method_15_code 52 = .ok (.iconst 1, 1) := by decide +kernel
theorem dM_given_53 : decode prog_7_method_15_code 53 = .ok (.ireturn, 1) := by decide +kernel
theorem dM_goesOn_0 : decode prog_7_method_28_code 0 = .ok (.aload_n 0, 1) := by decide +kernel
theorem dM_goesOn_1 : decode prog_7_method_28_code 1 = .ok (.getfield 193, 3) := by decide +kernel
theorem dM_goesOn_4 : decode prog_7_method_28_code 4 = .ok (.iconst 1, 1) := by decide +kernel
theorem dM_goesOn_5 : decode prog_7_method_28_code 5 = .ok (.isub, 1) := by decide +kernel
theorem dM_goesOn_6 : decode prog_7_method_28_code 6 = .ok (.istore_n 1, 1) := by decide +kernel
theorem dM_goesOn_7 : decode prog_7_method_28_code 7 = .ok (.aload_n 0, 1) := by decide +kernel
theorem dM_goesOn_8 : decode prog_7_method_28_code 8 = .ok (.getfield 87, 3) := by decide +kernel
theorem dM_goesOn_11 : decode prog_7_method_28_code 11 = .ok (.iload_n 1, 1) := by decide +kernel
theorem dM_goesOn_12 : decode prog_7_method_28_code 12 = .ok (.iaload, 1) := by decide +kernel
theorem dM_goesOn_13 : decode prog_7_method_28_code 13 = .ok (.istore_n 2, 1) := by decide +kernel
theorem dM_goesOn_14 : decode prog_7_method_28_code 14 = .ok (.aload_n 0, 1) := by decide +kernel
theorem dM_goesOn_15 : decode prog_7_method_28_code 15 = .ok (.getfield 19, 3) := by decide +kernel
theorem dM_goesOn_18 : decode prog_7_method_28_code 18 = .ok (.iload_n 2, 1) := by decide +kernel
theorem dM_goesOn_19 : decode prog_7_method_28_code 19 = .ok (.iaload, 1) := by decide +kernel
theorem dM_goesOn_20 : decode prog_7_method_28_code 20 = .ok (.tableswitch 49 0 2 #[28, 35, 42], 28) := by decide +kernel
theorem dM_goesOn_48 : decode prog_7_method_28_code 48 = .ok (.aload_n 0, 1) := by decide +kernel
theorem dM_goesOn_49 : decode prog_7_method_28_code 49 = .ok (.iload_n 1, 1) := by decide +kernel
theorem dM_goesOn_50 : decode prog_7_method_28_code 50 = .ok (.iload_n 2, 1) := by decide +kernel
theorem dM_goesOn_51 : decode prog_7_method_28_code 51 = .ok (.invokevirtual 196, 3) := by decide +kernel
theorem dM_goesOn_54 : decode prog_7_method_28_code 54 = .ok (.ireturn, 1) := by decide +kernel
theorem dM_goesOn_55 : decode prog_7_method_28_code 55 = .ok (.aload_n 0, 1) := by decide +kernel
theorem dM_goesOn_56 : decode prog_7_method_28_code 56 = .ok (.iload_n 1, 1) := by decide +kernel
theorem dM_goesOn_57 : decode prog_7_method_28_code 57 = .ok (.iload_n 2, 1) := by decide +kernel
theorem dM_goesOn_58 : decode prog_7_method_28_code 58 = .ok (.invokevirtual 198, 3) := by decide +kernel
theorem dM_goesOn_61 : decode prog_7_method_28_code 61 = .ok (.ireturn, 1) := by decide +kernel
theorem dM_goesOn_62 : decode prog_7_method_28_code 62 = .ok (.aload_n 0, 1) := by decide +kernel
theorem dM_goesOn_63 : decode prog_7_method_28_code 63 = .ok (.iload_n 1, 1) := by decide +kernel
theorem dM_goesOn_64 : decode prog_7_method_28_code 64 = .ok (.iload_n 2, 1) := by decide +kernel
theorem dM_goesOn_65 : decode prog_7_method_28_code 65 = .ok (.invokevirtual 201, 3) := by decide +kernel
theorem dM_goesOn_68 : decode prog_7_method_28_code 68 = .ok (.ireturn, 1) := by decide +kernel
theorem dM_goesOn_69 : decode prog_7_method_28_code 69 = .ok (.aload_n 0, 1) := by decide +kernel
theorem dM_goesOn_70 : decode prog_7_method_28_code 70 = .ok (.iload_n 1, 1) := by decide +kernel
theorem dM_goesOn_71 : decode prog_7_method_28_code 71 = .ok (.iload_n 2, 1) := by decide +kernel
theorem dM_goesOn_72 : decode prog_7_method_28_code 72 = .ok (.invokevirtual 204, 3) := by decide +kernel
theorem dM_goesOn_75 : decode prog_7_method_28_code 75 = .ok (.ireturn, 1) := by decide +kernel
theorem dM_ground_0 : decode prog_7_method_39_code 0 = .ok (.aload_n 0, 1) := by decide +kernel
theorem dM_ground_1 : decode prog_7_method_39_code 1 = .ok (.iconst 0, 1) := by decide +kernel
theorem dM_ground_2 : decode prog_7_method_39_code 2 = .ok (.putfield 115, 3) := by decide +kernel
theorem dM_ground_5 : decode prog_7_method_39_code 5 = .ok (.aload_n 0, 1) := by decide +kernel
theorem dM_ground_6 : decode prog_7_method_39_code 6 = .ok (.getfield 138, 3) := by decide +kernel
theorem dM_ground_9 : decode prog_7_method_39_code 9 = .ok (.ifCond .eq 36, 3) := by decide +kernel
theorem dM_ground_12 : decode prog_7_method_39_code 12 = .ok (.aload_n 0, 1) := by decide +kernel
theorem dM_ground_13 : decode prog_7_method_39_code 13 = .ok (.iload_n 1, 1) := by decide +kernel
theorem dM_ground_14 : decode prog_7_method_39_code 14 = .ok (.invokevirtual 149, 3) := by decide +kernel
theorem dM_ground_17 : decode prog_7_method_39_code 17 = .ok (.ifCond .eq 28, 3) := by decide +kernel
theorem dM_ground_20 : decode prog_7_method_39_code 20 = .ok (.iload_n 2, 1) := by decide +kernel
theorem dM_ground_21 : decode prog_7_method_39_code 21 = .ok (.invokestatic 145, 3) := by decide +kernel
theorem dM_ground_24 : decode prog_7_method_39_code 24 = .ok (.ifCond .eq 21, 3) := by decide +kernel
theorem dM_ground_27 : decode prog_7_method_39_code 27 = .ok (.aload_n 0, 1) := by decide +kernel
theorem dM_ground_28 : decode prog_7_method_39_code 28 = .ok (.aload_n 0, 1) := by decide +kernel
theorem dM_ground_29 : decode prog_7_method_39_code 29 = .ok (.getfield 62, 3) := by decide +kernel
theorem dM_ground_32 : decode prog_7_method_39_code 32 = .ok (.iload_n 1, 1) := by decide +kernel
theorem dM_ground_33 : decode prog_7_method_39_code 33 = .ok (.laload, 1) := by decide +kernel
theorem dM_ground_34 : decode prog_7_method_39_code 34 = .ok (.iload_n 2, 1) := by decide +kernel
theorem dM_ground_35 : decode prog_7_method_39_code 35 = .ok (.invokevirtual 163, 3) := by decide +kernel
theorem dM_ground_38 : decode prog_7_method_39_code 38 = .ok (.ifCond .eq 7, 3) := by decide +kernel
theorem dM_ground_41 : decode prog_7_method_39_code 41 = .ok (.iconst 1, 1) := by decide +kernel
theorem dM_ground_42 : decode prog_7_method_39_code 42 = .ok (.goto 4, 3) := by decide +kernel
theorem dM_ground_45 : decode prog_7_method_39_code 45 = .ok (.iconst 0, 1) := by decide +kernel
theorem dM_ground_46 : decode prog_7_method_39_code 46 = .ok (.ireturn, 1) := by decide +kernel
theorem dM_hasRow_0 : decode prog_7_method_12_code 0 = .ok (.iload_n 1, 1) := by decide +kernel
theorem dM_hasRow_1 : decode prog_7_method_12_code 1 = .ok (.bipush 6, 2) := by decide +kernel
theorem dM_hasRow_3 : decode prog_7_method_12_code 3 = .ok (.if_icmp .ge 16, 3) := by decide +kernel
theorem dM_hasRow_6 : decode prog_7_method_12_code 6 = .ok (.aload_n 0, 1) := by decide +kernel
theorem dM_hasRow_7 : decode prog_7_method_12_code 7 = .ok (.getfield 121, 3) := by decide +kernel
theorem dM_hasRow_10 : decode prog_7_method_12_code 10 = .ok (.ifCond .ne 7, 3) := by decide +kernel
theorem dM_hasRow_13 : decode prog_7_method_12_code 13 = .ok (.iconst 1, 1) := by decide +kernel
theorem dM_hasRow_14 : decode prog_7_method_12_code 14 = .ok (.goto 4, 3) := by decide +kernel
theorem dM_hasRow_17 : decode prog_7_method_12_code 17 = .ok (.iconst 0, 1) := by decide +kernel
theorem dM_hasRow_18 : decode prog_7_method_12_code 18 = .ok (.ireturn, 1) := by decide +kernel
theorem dM_hasRow_19 : decode prog_7_method_12_code 19 = .ok (.iload_n 1, 1) := by decide +kernel
theorem dM_hasRow_20 : decode prog_7_method_12_code 20 = .ok (.tableswitch 118 6 11 #[40, 40, 54, 76, 90, 103], 40) := by decide +kernel
theorem dM_hasRow_60 : decode prog_7_method_12_code 60 = .ok (.aload_n 0, 1) := by decide +kernel
theorem dM_hasRow_61 : decode prog_7_method_12_code 61 = .ok (.getfield 121, 3) := by decide +kernel
theorem dM_hasRow_64 : decode prog_7_method_12_code 64 = .ok (.iconst 2, 1) := by decide +kernel
theorem dM_hasRow_65 : decode prog_7_method_12_code 65 = .ok (.if_icmp .ne 7, 3) := by decide +kernel
theorem dM_hasRow_68 : decode prog_7_method_12_code 68 = .ok (.iconst 1, 1) := by decide +kernel
theorem dM_hasRow_69 : decode prog_7_method_12_code 69 = .ok (.goto 4, 3) := by decide +kernel
theorem dM_hasRow_72 : decode prog_7_method_12_code 72 = .ok (.iconst 0, 1) := by decide +kernel
theorem dM_hasRow_73 : decode prog_7_method_12_code 73 = .ok (.ireturn, 1) := by decide +kernel
theorem dM_hasRow_74 : decode prog_7_method_12_code 74 = .ok (.aload_n 0, 1) := by decide +kernel
theorem dM_hasRow_75 : decode prog_7_method_12_code 75 = .ok (.getfield 121, 3) := by decide +kernel
theorem dM_hasRow_78 : decode prog_7_method_12_code 78 = .ok (.ifCond .le 16, 3) := by decide +kernel
theorem dM_hasRow_81 : decode prog_7_method_12_code 81 = .ok (.aload_n 0, 1) := by decide +kernel
theorem dM_hasRow_82 : decode prog_7_method_12_code 82 = .ok (.getfield 121, 3) := by decide +kernel
theorem dM_hasRow_85 : decode prog_7_method_12_code 85 = .ok (.bipush 6, 2) := by decide +kernel
theorem dM_hasRow_87 : decode prog_7_method_12_code 87 = .ok (.if_icmp .ge 7, 3) := by decide +kernel
theorem dM_hasRow_90 : decode prog_7_method_12_code 90 = .ok (.iconst 1, 1) := by decide +kernel
theorem dM_hasRow_91 : decode prog_7_method_12_code 91 = .ok (.goto 4, 3) := by decide +kernel
theorem dM_hasRow_94 : decode prog_7_method_12_code 94 = .ok (.iconst 0, 1) := by decide +kernel
theorem dM_hasRow_95 : decode prog_7_method_12_code 95 = .ok (.ireturn, 1) := by decide +kernel
theorem dM_hasRow_96 : decode prog_7_method_12_code 96 = .ok (.aload_n 0, 1) := by decide +kernel
theorem dM_hasRow_97 : decode prog_7_method_12_code 97 = .ok (.getfield 121, 3) := by decide +kernel
theorem dM_hasRow_100 : decode prog_7_method_12_code 100 = .ok (.iconst 1, 1) := by decide +kernel
theorem dM_hasRow_101 : decode prog_7_method_12_code 101 = .ok (.if_icmp .ne 7, 3) := by decide +kernel
theorem dM_hasRow_104 : decode prog_7_method_12_code 104 = .ok (.iconst 1, 1) := by decide +kernel
theorem dM_hasRow_105 : decode prog_7_method_12_code 105 = .ok (.goto 4, 3) := by decide +kernel
theorem dM_hasRow_108 : decode prog_7_method_12_code 108 = .ok (.iconst 0, 1) := by decide +kernel
theorem dM_hasRow_109 : decode prog_7_method_12_code 109 = .ok (.ireturn, 1) := by decide +kernel
theorem dM_hasRow_110 : decode prog_7_method_12_code 110 = .ok (.aload_n 0, 1) := by decide +kernel
theorem dM_hasRow_111 : decode prog_7_method_12_code 111 = .ok (.getfield 121, 3) := by decide +kernel
theorem dM_hasRow_114 : decode prog_7_method_12_code 114 = .ok (.ifCond .le 7, 3) := by decide +kernel
theorem dM_hasRow_117 : decode prog_7_method_12_code 117 = .ok (.iconst 1, 1) := by decide +kernel
theorem dM_hasRow_118 : decode prog_7_method_12_code 118 = .ok (.goto 4, 3) := by decide +kernel
theorem dM_hasRow_121 : decode prog_7_method_12_code 121 = .ok (.iconst 0, 1) := by decide +kernel
theorem dM_hasRow_122 : decode prog_7_method_12_code 122 = .ok (.ireturn, 1) := by decide +kernel
theorem dM_hasRow_123 : decode prog_7_method_12_code 123 = .ok (.aload_n 0, 1) := by decide +kernel
theorem dM_hasRow_124 : decode prog_7_method_12_code 124 = .ok (.getfield 121, 3) := by decide +kernel
theorem dM_hasRow_127 : decode prog_7_method_12_code 127 = .ok (.bipush 7, 2) := by decide +kernel
theorem dM_hasRow_129 : decode prog_7_method_12_code 129 = .ok (.if_icmp .ge 7, 3) := by decide +kernel
theorem dM_hasRow_132 : decode prog_7_method_12_code 132 = .ok (.iconst 1, 1) := by decide +kernel
theorem dM_hasRow_133 : decode prog_7_method_12_code 133 = .ok (.goto 4, 3) := by decide +kernel
theorem dM_hasRow_136 : decode prog_7_method_12_code 136 = .ok (.iconst 0, 1) := by decide +kernel
theorem dM_hasRow_137 : decode prog_7_method_12_code 137 = .ok (.ireturn, 1) := by decide +kernel
theorem dM_hasRow_138 : decode prog_7_method_12_code 138 = .ok (.iload_n 2, 1) := by decide +kernel
theorem dM_hasRow_139 : decode prog_7_method_12_code 139 = .ok (.ifCond .lt 28, 3) := by decide +kernel
theorem dM_hasRow_142 : decode prog_7_method_12_code 142 = .ok (.iload_n 2, 1) := by decide +kernel
theorem dM_hasRow_143 : decode prog_7_method_12_code 143 = .ok (.aload_n 0, 1) := by decide +kernel
theorem dM_hasRow_144 : decode prog_7_method_12_code 144 = .ok (.getfield 142, 3) := by decide +kernel
theorem dM_hasRow_147 : decode prog_7_method_12_code 147 = .ok (.if_icmp .ge 20, 3) := by decide +kernel
theorem dM_hasRow_150 : decode prog_7_method_12_code 150 = .ok (.aload_n 0, 1) := by decide +kernel
theorem dM_hasRow_151 : decode prog_7_method_12_code 151 = .ok (.getfield 121, 3) := by decide +kernel
theorem dM_hasRow_154 : decode prog_7_method_12_code 154 = .ok (.aload_n 0, 1) := by decide +kernel
theorem dM_hasRow_155 : decode prog_7_method_12_code 155 = .ok (.getfield 7, 3) := by decide +kernel
theorem dM_hasRow_158 : decode prog_7_method_12_code 158 = .ok (.iload_n 2, 1) := by decide +kernel
theorem dM_hasRow_159 : decode prog_7_method_12_code 159 = .ok (.iaload, 1) := by decide +kernel
theorem dM_hasRow_160 : decode prog_7_method_12_code 160 = .ok (.if_icmp .ne 7, 3) := by decide +kernel
theorem dM_hasRow_163 : decode prog_7_method_12_code 163 = .ok (.iconst 1, 1) := by decide +kernel
theorem dM_hasRow_164 : decode prog_7_method_12_code 164 = .ok (.goto 4, 3) := by decide +kernel
theorem dM_hasRow_167 : decode prog_7_method_12_code 167 = .ok (.iconst 0, 1) := by decide +kernel
theorem dM_hasRow_168 : decode prog_7_method_12_code 168 = .ok (.ireturn, 1) := by decide +kernel
theorem dM_init_0 : decode prog_7_method_1_code 0 = .ok (.aload_n 0, 1) := by decide +kernel
theorem dM_init_1 : decode prog_7_method_1_code 1 = .ok (.invokespecial 1, 3) := by decide +kernel
theorem dM_init_4 : decode prog_7_method_1_code 4 = .ok (.aload_n 0, 1) := by decide +kernel
theorem dM_init_5 : decode prog_7_method_1_code 5 = .ok (.bipush 60, 2) := by decide +kernel
theorem dM_init_7 : decode prog_7_method_1_code 7 = .ok (.newarray .int, 2) := by decide +kernel
theorem dM_init_9 : decode prog_7_method_1_code 9 = .ok (.putfield 7, 3) := by decide +kernel
theorem dM_init_12 : decode prog_7_method_1_code 12 = .ok (.aload_n 0, 1) := by decide +kernel
theorem dM_init_13 : decode prog_7_method_1_code 13 = .ok (.bipush 60, 2) := by decide +kernel
theorem dM_init_15 : decode prog_7_method_1_code 15 = .ok (.newarray .int, 2) := by decide +kernel
theorem dM_init_17 : decode prog_7_method_1_code 17 = .ok (.putfield 13, 3) := by decide +kernel
theorem dM_init_20 : decode prog_7_method_1_code 20 = .ok (.aload_n 0, 1) := by decide +kernel
theorem dM_init_21 : decode prog_7_method_1_code 21 = .ok (.sipush 240, 3) := by decide +kernel
theorem dM_init_24 : decode prog_7_method_1_code 24 = .ok (.newarray .int, 2) := by decide +kernel
theorem dM_init_26 : decode prog_7_method_1_code 26 = .ok (.putfield 16, 3) := by decide +kernel
theorem dM_init_29 : decode prog_7_method_1_code 29 = .ok (.aload_n 0, 1) := by decide +kernel
theorem dM_init_30 : decode prog_7_method_1_code 30 = .ok (.sipush 250, 3) := by decide +kernel
theorem dM_init_33 : decode prog_7_method_1_code 33 = .ok (.newarray .int, 2) := by decide +kernel
theorem dM_init_35 : decode prog_7_method_1_code 35 = .ok (.putfield 19, 3) := by decide +kernel
theorem dM_init_38 : decode prog_7_method_1_code 38 = .ok (.aload_n 0, 1) := by decide +kernel
theorem dM_init_39 : decode prog_7_method_1_code 39 = .ok (.sipush 250, 3) := by decide +kernel
theorem dM_init_42 : decode prog_7_method_1_code 42 = .ok (.newarray .int, 2) := by decide +kernel
theorem dM_init_44 : decode prog_7_method_1_code 44 = .ok (.putfield 22, 3) := by decide +kernel
theorem dM_init_47 : decode prog_7_method_1_code 47 = .ok (.aload_n 0, 1) := by decide +kernel
theorem dM_init_48 : decode prog_7_method_1_code 48 = .ok (.sipush 250, 3) := by decide +kernel
theorem dM_init_51 : decode prog_7_method_1_code 51 = .ok (.newarray .int, 2) := by decide +kernel
theorem dM_init_53 : decode prog_7_method_1_code 53 = .ok (.putfield 25, 3) := by decide +kernel
theorem dM_init_56 : decode prog_7_method_1_code 56 = .ok (.aload_n 0, 1) := by decide +kernel
theorem dM_init_57 : decode prog_7_method_1_code 57 = .ok (.sipush 250, 3) := by decide +kernel
theorem dM_init_60 : decode prog_7_method_1_code 60 = .ok (.newarray .int, 2) := by decide +kernel
theorem dM_init_62 : decode prog_7_method_1_code 62 = .ok (.putfield 28, 3) := by decide +kernel
theorem dM_init_65 : decode prog_7_method_1_code 65 = .ok (.aload_n 0, 1) := by decide +kernel
theorem dM_init_66 : decode prog_7_method_1_code 66 = .ok (.sipush 250, 3) := by decide +kernel
theorem dM_init_69 : decode prog_7_method_1_code 69 = .ok (.newarray .int, 2) := by decide +kernel
theorem dM_init_71 : decode prog_7_method_1_code 71 = .ok (.putfield 31, 3) := by decide +kernel
theorem dM_init_74 : decode prog_7_method_1_code 74 = .ok (.aload_n 0, 1) := by decide +kernel
theorem dM_init_75 : decode prog_7_method_1_code 75 = .ok (.sipush 250, 3) := by decide +kernel
theorem dM_init_78 : decode prog_7_method_1_code 78 = .ok (.newarray .int, 2) := by decide +kernel
theorem dM_init_80 : decode prog_7_method_1_code 80 = .ok (.putfield 34, 3) := by decide +kernel
theorem dM_init_83 : decode prog_7_method_1_code 83 = .ok (.aload_n 0, 1) := by decide +kernel
theorem dM_init_84 : decode prog_7_method_1_code 84 = .ok (.sipush 250, 3) := by decide +kernel
theorem dM_init_87 : decode prog_7_method_1_code 87 = .ok (.newarray .int, 2) := by decide +kernel
theorem dM_init_89 : decode prog_7_method_1_code 89 = .ok (.putfield 37, 3) := by decide +kernel
theorem dM_init_92 : decode prog_7_method_1_code 92 = .ok (.aload_n 0, 1) := by decide +kernel
theorem dM_init_93 : decode prog_7_method_1_code 93 = .ok (.sipush 250, 3) := by decide +kernel
theorem dM_init_96 : decode prog_7_method_1_code 96 = .ok (.newarray .int, 2) := by decide +kernel
theorem dM_init_98 : decode prog_7_method_1_code 98 = .ok (.putfield 40, 3) := by decide +kernel
theorem dM_init_101 : decode prog_7_method_1_code 101 = .ok (.aload_n 0, 1) := by decide +kernel
theorem dM_init_102 : decode prog_7_method_1_code 102 = .ok (.sipush 250, 3) := by decide +kernel
theorem dM_init_105 : decode prog_7_method_1_code 105 = .ok (.newarray .int, 2) := by decide +kernel
theorem dM_init_107 : decode prog_7_method_1_code 107 = .ok (.putfield 43, 3) := by decide +kernel
theorem dM_init_110 : decode prog_7_method_1_code 110 = .ok (.aload_n 0, 1) := by decide +kernel
theorem dM_init_111 : decode prog_7_method_1_code 111 = .ok (.sipush 1750, 3) := by decide +kernel
theorem dM_init_114 : decode prog_7_method_1_code 114 = .ok (.newarray .int, 2) := by decide +kernel
theorem dM_init_116 : decode prog_7_method_1_code 116 = .ok (.putfield 46, 3) := by decide +kernel
theorem dM_init_119 : decode prog_7_method_1_code 119 = .ok (.aload_n 0, 1) := by decide +kernel
theorem dM_init_120 : decode prog_7_method_1_code 120 = .ok (.bipush 7, 2) := by decide +kernel
theorem dM_init_122 : decode prog_7_method_1_code 122 = .ok (.newarray .int, 2) := by decide +kernel
theorem dM_init_124 : decode prog_7_method_1_code 124 = .ok (.putfield 49, 3) := by decide +kernel
theorem dM_init_127 : decode prog_7_method_1_code 127 = .ok (.aload_n 0, 1) := by decide +kernel
theorem dM_init_128 : decode prog_7_method_1_code 128 = .ok (.sipush 15000, 3) := by decide +kernel
theorem dM_init_131 : decode prog_7_method_1_code 131 = .ok (.newarray .int, 2) := by decide +kernel
theorem dM_init_133 : decode prog_7_method_1_code 133 = .ok (.putfield 52, 3) := by decide +kernel
theorem dM_init_136 : decode prog_7_method_1_code 136 = .ok (.aload_n 0, 1) := by decide +kernel
theorem dM_init_137 : decode prog_7_method_1_code 137 = .ok (.sipush 250, 3) := by decide +kernel
theorem dM_init_140 : decode prog_7_method_1_code 140 = .ok (.newarray .long, 2) := by decide +kernel
theorem dM_init_142 : decode prog_7_method_1_code 142 = .ok (.putfield 55, 3) := by decide +kernel
theorem dM_init_145 : decode prog_7_method_1_code 145 = .ok (.aload_n 0, 1) := by decide +kernel
theorem dM_init_146 : decode prog_7_method_1_code 146 = .ok (.sipush 250, 3) := by decide +kernel
theorem dM_init_149 : decode prog_7_method_1_code 149 = .ok (.newarray .long, 2) := by decide +kernel
theorem dM_init_151 : decode prog_7_method_1_code 151 = .ok (.putfield 59, 3) := by decide +kernel
theorem dM_init_154 : decode prog_7_method_1_code 154 = .ok (.aload_n 0, 1) := by decide +kernel
theorem dM_init_155 : decode prog_7_method_1_code 155 = .ok (.sipush 250, 3) := by decide +kernel
theorem dM_init_158 : decode prog_7_method_1_code 158 = .ok (.newarray .long, 2) := by decide +kernel
theorem dM_init_160 : decode prog_7_method_1_code 160 = .ok (.putfield 62, 3) := by decide +kernel
theorem dM_init_163 : decode prog_7_method_1_code 163 = .ok (.aload_n 0, 1) := by decide +kernel
theorem dM_init_164 : decode prog_7_method_1_code 164 = .ok (.sipush 250, 3) := by decide +kernel
theorem dM_init_167 : decode prog_7_method_1_code 167 = .ok (.newarray .long, 2) := by decide +kernel
theorem dM_init_169 : decode prog_7_method_1_code 169 = .ok (.putfield 65, 3) := by decide +kernel
theorem dM_init_172 : decode prog_7_method_1_code 172 = .ok (.aload_n 0, 1) := by decide +kernel
theorem dM_init_173 : decode prog_7_method_1_code 173 = .ok (.sipush 250, 3) := by decide +kernel
theorem dM_init_176 : decode prog_7_method_1_code 176 = .ok (.newarray .boolean, 2) := by decide +kernel
theorem dM_init_178 : decode prog_7_method_1_code 178 = .ok (.putfield 68, 3) := by decide +kernel
theorem dM_init_181 : decode prog_7_method_1_code 181 = .ok (.aload_n 0, 1) := by decide +kernel
theorem dM_init_182 : decode prog_7_method_1_code 182 = .ok (.sipush 250, 3) := by decide +kernel
theorem dM_init_185 : decode prog_7_method_1_code 185 = .ok (.newarray .boolean, 2) := by decide +kernel
theorem dM_init_187 : decode prog_7_method_1_code 187 = .ok (.putfield 72, 3) := by decide +kernel
theorem dM_init_190 : decode prog_7_method_1_code 190 = .ok (.aload_n 0, 1) := by decide +kernel
theorem dM_init_191 : decode prog_7_method_1_code 191 = .ok (.sipush 250, 3) := by decide +kernel
theorem dM_init_194 : decode prog_7_method_1_code 194 = .ok (.newarray .int, 2) := by decide +kernel
theorem dM_init_196 : decode prog_7_method_1_code 196 = .ok (.putfield 75, 3) := by decide +kernel
theorem dM_init_199 : decode prog_7_method_1_code 199 = .ok (.aload_n 0, 1) := by decide +kernel
theorem dM_init_200 : decode prog_7_method_1_code 200 = .ok (.sipush 250, 3) := by decide +kernel
theorem dM_init_203 : decode prog_7_method_1_code 203 = .ok (.newarray .int, 2) := by decide +kernel
theorem dM_init_205 : decode prog_7_method_1_code 205 = .ok (.putfield 78, 3) := by decide +kernel
theorem dM_init_208 : decode prog_7_method_1_code 208 = .ok (.aload_n 0, 1) := by decide +kernel
theorem dM_init_209 : decode prog_7_method_1_code 209 = .ok (.sipush 250, 3) := by decide +kernel
theorem dM_init_212 : decode prog_7_method_1_code 212 = .ok (.newarray .int, 2) := by decide +kernel
theorem dM_init_214 : decode prog_7_method_1_code 214 = .ok (.putfield 81, 3) := by decide +kernel
theorem dM_init_217 : decode prog_7_method_1_code 217 = .ok (.aload_n 0, 1) := by decide +kernel
theorem dM_init_218 : decode prog_7_method_1_code 218 = .ok (.sipush 250, 3) := by decide +kernel
theorem dM_init_221 : decode prog_7_method_1_code 221 = .ok (.newarray .int, 2) := by decide +kernel
theorem dM_init_223 : decode prog_7_method_1_code 223 = .ok (.putfield 84, 3) := by decide +kernel
theorem dM_init_226 : decode prog_7_method_1_code 226 = .ok (.aload_n 0, 1) := by decide +kernel
theorem dM_init_227 : decode prog_7_method_1_code 227 = .ok (.bipush 40, 2) := by decide +kernel
theorem dM_init_229 : decode prog_7_method_1_code 229 = .ok (.newarray .int, 2) := by decide +kernel
theorem dM_init_231 : decode prog_7_method_1_code 231 = .ok (.putfield 87, 3) := by decide +kernel
theorem dM_init_234 : decode prog_7_method_1_code 234 = .ok (.aload_n 0, 1) := by decide +kernel
theorem dM_init_235 : decode prog_7_method_1_code 235 = .ok (.bipush 40, 2) := by decide +kernel
theorem dM_init_237 : decode prog_7_method_1_code 237 = .ok (.newarray .int, 2) := by decide +kernel
theorem dM_init_239 : decode prog_7_method_1_code 239 = .ok (.putfield 90, 3) := by decide +kernel
theorem dM_init_242 : decode prog_7_method_1_code 242 = .ok (.aload_n 0, 1) := by decide +kernel
theorem dM_init_243 : decode prog_7_method_1_code 243 = .ok (.bipush 40, 2) := by decide +kernel
theorem dM_init_245 : decode prog_7_method_1_code 245 = .ok (.newarray .int, 2) := by decide +kernel
theorem dM_init_247 : decode prog_7_method_1_code 247 = .ok (.putfield 93, 3) := by decide +kernel
theorem dM_init_250 : decode prog_7_method_1_code 250 = .ok (.aload_n 0, 1) := by decide +kernel
theorem dM_init_251 : decode prog_7_method_1_code 251 = .ok (.bipush 40, 2) := by decide +kernel
theorem dM_init_253 : decode prog_7_method_1_code 253 = .ok (.newarray .int, 2) := by decide +kernel
theorem dM_init_255 : decode prog_7_method_1_code 255 = .ok (.putfield 96, 3) := by decide +kernel
theorem dM_init_258 : decode prog_7_method_1_code 258 = .ok (.aload_n 0, 1) := by decide +kernel
theorem dM_init_259 : decode prog_7_method_1_code 259 = .ok (.bipush 40, 2) := by decide +kernel
theorem dM_init_261 : decode prog_7_method_1_code 261 = .ok (.newarray .long, 2) := by decide +kernel
theorem dM_init_263 : decode prog_7_method_1_code 263 = .ok (.putfield 99, 3) := by decide +kernel
theorem dM_init_266 : decode prog_7_method_1_code 266 = .ok (.aload_n 0, 1) := by decide +kernel
theorem dM_init_267 : decode prog_7_method_1_code 267 = .ok (.bipush 40, 2) := by decide +kernel
theorem dM_init_269 : decode prog_7_method_1_code 269 = .ok (.newarray .long, 2) := by decide +kernel
theorem dM_init_271 : decode prog_7_method_1_code 271 = .ok (.putfield 102, 3) := by decide +kernel
theorem dM_init_274 : decode prog_7_method_1_code 274 = .ok (.aload_n 0, 1) := by decide +kernel
theorem dM_init_275 : decode prog_7_method_1_code 275 = .ok (.bipush 40, 2) := by decide +kernel
theorem dM_init_277 : decode prog_7_method_1_code 277 = .ok (.newarray .long, 2) := by decide +kernel
theorem dM_init_279 : decode prog_7_method_1_code 279 = .ok (.putfield 105, 3) := by decide +kernel
theorem dM_init_282 : decode prog_7_method_1_code 282 = .ok (.aload_n 0, 1) := by decide +kernel
theorem dM_init_283 : decode prog_7_method_1_code 283 = .ok (.iconst (-1), 1) := by decide +kernel
theorem dM_init_284 : decode prog_7_method_1_code 284 = .ok (.putfield 108, 3) := by decide +kernel
theorem dM_init_287 : decode prog_7_method_1_code 287 = .ok (.aload_n 0, 1) := by decide +kernel
theorem dM_init_288 : decode prog_7_method_1_code 288 = .ok (.invokevirtual 112, 3) := by decide +kernel
theorem dM_init_291 : decode prog_7_method_1_code 291 = .ok (.return_, 1) := by decide +kernel
theorem dM_isIn_0 : decode prog_7_method_19_code 0 = .ok (.lload_n 1, 1) := by decide +kernel
theorem dM_isIn_1 : decode prog_7_method_19_code 1 = .ok (.iload_n 3, 1) := by decide +kernel
theorem dM_isIn_2 : decode prog_7_method_19_code 2 = .ok (.lshr, 1) := by decide +kernel
theorem dM_isIn_3 : decode prog_7_method_19_code 3 = .ok (.lconst 1, 1) := by decide +kernel
theorem dM_isIn_4 : decode prog_7_method_19_code 4 = .ok (.land, 1) := by decide +kernel
theorem dM_isIn_5 : decode prog_7_method_19_code 5 = .ok (.lconst 1, 1) := by decide +kernel
theorem dM_isIn_6 : decode prog_7_method_19_code 6 = .ok (.lcmp, 1) := by decide +kernel
theorem dM_isIn_7 : decode prog_7_method_19_code 7 = .ok (.ifCond .ne 7, 3) := by decide +kernel
theorem dM_isIn_10 : decode prog_7_method_19_code 10 = .ok (.iconst 1, 1) := by decide +kernel
theorem dM_isIn_11 : decode prog_7_method_19_code 11 = .ok (.goto 4, 3) := by decide +kernel
theorem dM_isIn_14 : decode prog_7_method_19_code 14 = .ok (.iconst 0, 1) := by decide +kernel
theorem dM_isIn_15 : decode prog_7_method_19_code 15 = .ok (.ireturn, 1) := by decide +kernel
theorem dM_isNode_0 : decode prog_7_method_10_code 0 = .ok (.iload_n 1, 1) := by decide +kernel
theorem dM_isNode_1 : decode prog_7_method_10_code 1 = .ok (.ifCond .lt 15, 3) := by decide +kernel
theorem dM_isNode_4 : decode prog_7_method_10_code 4 = .ok (.iload_n 1, 1) := by decide +kernel
theorem dM_isNode_5 : decode prog_7_method_10_code 5 = .ok (.aload_n 0, 1) := by decide +kernel
theorem dM_isNode_6 : decode prog_7_method_10_code 6 = .ok (.getfield 118, 3) := by decide +kernel
theorem dM_isNode_9 : decode prog_7_method_10_code 9 = .ok (.if_icmp .ge 7, 3) := by decide +kernel
theorem dM_isNode_12 : decode prog_7_method_10_code 12 = .ok (.iconst 1, 1) := by decide +kernel
theorem dM_isNode_13 : decode prog_7_method_10_code 13 = .ok (.goto 4, 3) := by decide +kernel
theorem dM_isNode_16 : decode prog_7_method_10_code 16 = .ok (.iconst 0, 1) := by decide +kernel
theorem dM_isNode_17 : decode prog_7_method_10_code 17 = .ok (.ireturn, 1) := by decide +kernel
theorem dM_isParent_0 : decode prog_7_method_11_code 0 = .ok (.aload_n 0, 1) := by decide +kernel
theorem dM_isParent_1 : decode prog_7_method_11_code 1 = .ok (.getfield 118, 3) := by decide +kernel
theorem dM_isParent_4 : decode prog_7_method_11_code 4 = .ok (.sipush 250, 3) := by decide +kernel
theorem dM_isParent_7 : decode prog_7_method_11_code 7 = .ok (.if_icmp .eq 32, 3) := by decide +kernel
theorem dM_isParent_10 : decode prog_7_method_11_code 10 = .ok (.aload_n 0, 1) := by decide +kernel
theorem dM_isParent_11 : decode prog_7_method_11_code 11 = .ok (.iload_n 1, 1) := by decide +kernel
theorem dM_isParent_12 : decode prog_7_method_11_code 12 = .ok (.invokevirtual 149, 3) := by decide +kernel
theorem dM_isParent_15 : decode prog_7_method_11_code 15 = .ok (.ifCond .eq 24, 3) := by decide +kernel
theorem dM_isParent_18 : decode prog_7_method_11_code 18 = .ok (.aload_n 0, 1) := by decide +kernel
theorem dM_isParent_19 : decode prog_7_method_11_code 19 = .ok (.getfield 19, 3) := by decide +kernel
theorem dM_isParent_22 : decode prog_7_method_11_code 22 = .ok (.iload_n 1, 1) := by decide +kernel
theorem dM_isParent_23 : decode prog_7_method_11_code 23 = .ok (.iaload, 1) := by decide +kernel
theorem dM_isParent_24 : decode prog_7_method_11_code 24 = .ok (.iconst 3, 1) := by decide +kernel
theorem dM_isParent_25 : decode prog_7_method_11_code 25 = .ok (.if_icmp .gt 14, 3) := by decide +kernel
theorem dM_isParent_28 : decode prog_7_method_11_code 28 = .ok (.aload_n 0, 1) := by decide +kernel
theorem dM_isParent_29 : decode prog_7_method_11_code 29 = .ok (.getfield 22, 3) := by decide +kernel
theorem dM_isParent_32 : decode prog_7_method_11_code 32 = .ok (.iload_n 1, 1) := by decide +kernel
theorem dM_isParent_33 : decode prog_7_method_11_code 33 = .ok (.iaload, 1) := by decide +kernel
theorem dM_isParent_34 : decode prog_7_method_11_code 34 = .ok (.bipush 20, 2) := by decide +kernel
theorem dM_isParent_36 : decode prog_7_method_11_code 36 = .ok (.if_icmp .ne 5, 3) := by decide +kernel
theorem dM_isParent_39 : decode prog_7_method_11_code 39 = .ok (.iconst 0, 1) := by decide +kernel
theorem dM_isParent_40 : decode prog_7_method_11_code 40 = .ok (.ireturn, 1) := by decide +kernel
theorem dM_isParent_41 : decode prog_7_method_11_code 41 = .ok (.aload_n 0, 1) := by decide +kernel
theorem dM_isParent_42 : decode prog_7_method_11_code 42 = .ok (.getfield 19, 3) := by decide +kernel
theorem dM_isParent_45 : decode prog_7_method_11_code 45 = .ok (.iload_n 1, 1) := by decide +kernel
theorem dM_isParent_46 : decode prog_7_method_11_code 46 = .ok (.iaload, 1) := by decide +kernel
theorem dM_isParent_47 : decode prog_7_method_11_code 47 = .ok (.iconst 2, 1) := by decide +kernel
theorem dM_isParent_48 : decode prog_7_method_11_code 48 = .ok (.if_icmp .ne 13, 3) := by decide +kernel
theorem dM_isParent_51 : decode prog_7_method_11_code 51 = .ok (.aload_n 0, 1) := by decide +kernel
theorem dM_isParent_52 : decode prog_7_method_11_code 52 = .ok (.getfield 28, 3) := by decide +kernel
theorem dM_isParent_55 : decode prog_7_method_11_code 55 = .ok (.iload_n 1, 1) := by decide +kernel
theorem dM_isParent_56 : decode prog_7_method_11_code 56 = .ok (.iaload, 1) := by decide +kernel
theorem dM_isParent_57 : decode prog_7_method_11_code 57 = .ok (.iconst 1, 1) := by decide +kernel
theorem dM_isParent_58 : decode prog_7_method_11_code 58 = .ok (.if_icmp .eq 27, 3) := by decide +kernel
theorem dM_isParent_61 : decode prog_7_method_11_code 61 = .ok (.aload_n 0, 1) := by decide +kernel
theorem dM_isParent_62 : decode prog_7_method_11_code 62 = .ok (.getfield 19, 3) := by decide +kernel
theorem dM_isParent_65 : decode prog_7_method_11_code 65 = .ok (.iload_n 1, 1) := by decide +kernel
theorem dM_isParent_66 : decode prog_7_method_11_code 66 = .ok (.iaload, 1) := by decide +kernel
theorem dM_isParent_67 : decode prog_7_method_11_code 67 = .ok (.iconst 3, 1) := by decide +kernel
theorem dM_isParent_68 : decode prog_7_method_11_code 68 = .ok (.if_icmp .ne 13, 3) := by decide +kernel
theorem dM_isParent_71 : decode prog_7_method_11_code 71 = .ok (.aload_n 0, 1) := by decide +kernel
theorem dM_isParent_72 : decode prog_7_method_11_code 72 = .ok (.getfield 28, 3) := by decide +kernel
theorem dM_isParent_75 : decode prog_7_method_11_code 75 = .ok (.iload_n 1, 1) := by decide +kernel
theorem dM_isParent_76 : decode prog_7_method_11_code 76 = .ok (.iaload, 1) := by decide +kernel
theorem dM_isParent_77 : decode prog_7_method_11_code 77 = .ok (.iconst 3, 1) := by decide +kernel
theorem dM_isParent_78 : decode prog_7_method_11_code 78 = .ok (.if_icmp .eq 7, 3) := by decide +kernel
theorem dM_isParent_81 : decode prog_7_method_11_code 81 = .ok (.iconst 1, 1) := by decide +kernel
theorem dM_isParent_82 : decode prog_7_method_11_code 82 = .ok (.goto 4, 3) := by decide +kernel
theorem dM_isParent_85 : decode prog_7_method_11_code 85 = .ok (.iconst 0, 1) := by decide +kernel
theorem dM_isParent_86 : decode prog_7_method_11_code 86 = .ok (.ireturn, 1) := by decide +kernel
theorem dM_isVariable_0 : decode prog_7_method_8_code 0 = .ok (.iload_n 0, 1) := by decide +kernel
theorem dM_isVariable_1 : decode prog_7_method_8_code 1 = .ok (.ifCond .lt 13, 3) := by decide +kernel
theorem dM_isVariable_4 : decode prog_7_method_8_code 4 = .ok (.iload_n 0, 1) := by decide +kernel
theorem dM_isVariable_5 : decode prog_7_method_8_code 5 = .ok (.bipush 60, 2) := by decide +kernel
theorem dM_isVariable_7 : decode prog_7_method_8_code 7 = .ok (.if_icmp .ge 7, 3) := by decide +kernel
theorem dM_isVariable_10 : decode prog_7_method_8_code 10 = .ok (.iconst 1, 1) := by decide +kernel
theorem dM_isVariable_11 : decode prog_7_method_8_code 11 = .ok (.goto 4, 3) := by decide +kernel
theorem dM_isVariable_14 : decode prog_7_method_8_code 14 = .ok (.iconst 0, 1) := by decide +kernel
theorem dM_isVariable_15 : decode prog_7_method_8_code 15 = .ok (.ireturn, 1) := by decide +kernel
theorem dM_look_0 : decode prog_7_method_18_code 0 = .ok (.iconst 0, 1) := by decide +kernel
theorem dM_look_1 : decode prog_7_method_18_code 1 = .ok (.istore_n 1, 1) := by decide +kernel
theorem dM_look_2 : decode prog_7_method_18_code 2 = .ok (.iload_n 1, 1) := by decide +kernel
theorem dM_look_3 : decode prog_7_method_18_code 3 = .ok (.bipush 60, 2) := by decide +kernel
theorem dM_look_5 : decode prog_7_method_18_code 5 = .ok (.aload_n 0, 1) := by decide +kernel
theorem dM_look_6 : decode prog_7_method_18_code 6 = .ok (.getfield 118, 3) := by decide +kernel
theorem dM_look_9 : decode prog_7_method_18_code 9 = .ok (.imul, 1) := by decide +kernel
theorem dM_look_10 : decode prog_7_method_18_code 10 = .ok (.if_icmp .ge 16, 3) := by decide +kernel
theorem dM_look_13 : decode prog_7_method_18_code 13 = .ok (.aload_n 0, 1) := by decide +kernel
theorem dM_look_14 : decode prog_7_method_18_code 14 = .ok (.getfield 52, 3) := by decide +kernel
theorem dM_look_17 : decode prog_7_method_18_code 17 = .ok (.iload_n 1, 1) := by decide +kernel
theorem dM_look_18 : decode prog_7_method_18_code 18 = .ok (.iconst 0, 1) := by decide +kernel
theorem dM_look_19 : decode prog_7_method_18_code 19 = .ok (.iastore, 1) := by decide +kernel
theorem dM_look_20 : decode prog_7_method_18_code 20 = .ok (.iinc 1 1, 3) := by decide +kernel
theorem dM_look_23 : decode prog_7_method_18_code 23 = .ok (.goto (-21), 3) := by decide +kernel
theorem dM_look_26 : decode prog_7_method_18_code 26 = .ok (.iconst 0, 1) := by decide +kernel
theorem dM_look_27 : decode prog_7_method_18_code 27 = .ok (.istore_n 1, 1) := by decide +kernel
theorem dM_look_28 : decode prog_7_method_18_code 28 = .ok (.iload_n 1, 1) := by decide +kernel
theorem dM_look_29 : decode prog_7_method_18_code 29 = .ok (.aload_n 0, 1) := by decide +kernel
theorem dM_look_30 : decode prog_7_method_18_code 30 = .ok (.getfield 118, 3) := by decide +kernel
theorem dM_look_33 : decode prog_7_method_18_code 33 = .ok (.if_icmp .ge 89, 3) := by decide +kernel
theorem dM_look_36 : decode prog_7_method_18_code 36 = .ok (.aload_n 0, 1) := by decide +kernel
theorem dM_look_37 : decode prog_7_method_18_code 37 = .ok (.getfield 19, 3) := by decide +kernel
theorem dM_look_40 : decode prog_7_method_18_code 40 = .ok (.iload_n 1, 1) := by decide +kernel
theorem dM_look_41 : decode prog_7_method_18_code 41 = .ok (.iaload, 1) := by decide +kernel
theorem dM_look_42 : decode prog_7_method_18_code 42 = .ok (.iconst 3, 1) := by decide +kernel
theorem dM_look_43 : decode prog_7_method_18_code 43 = .ok (.if_icmp .gt 6, 3) := by decide +kernel
theorem dM_look_46 : decode prog_7_method_18_code 46 = .ok (.goto 70, 3) := by decide +kernel
theorem dM_look_49 : decode prog_7_method_18_code 49 = .ok (.aload_n 0, 1) := by decide +kernel
theorem dM_look_50 : decode prog_7_method_18_code 50 = .ok (.iload_n 1, 1) := by decide +kernel
theorem dM_look_51 : decode prog_7_method_18_code 51 = .ok (.iconst 0, 1) := by decide +kernel
theorem dM_look_52 : decode prog_7_method_18_code 52 = .ok (.invokevirtual 159, 3) := by decide +kernel
theorem dM_look_55 : decode prog_7_method_18_code 55 = .ok (.lstore_n 2, 1) := by decide +kernel
theorem dM_look_56 : decode prog_7_method_18_code 56 = .ok (.iload_n 1, 1) := by decide +kernel
theorem dM_look_57 : decode prog_7_method_18_code 57 = .ok (.istore 4, 2) := by decide +kernel
theorem dM_look_59 : decode prog_7_method_18_code 59 = .ok (.iload 4, 2) := by decide +kernel
theorem dM_look_61 : decode prog_7_method_18_code 61 = .ok (.iconst (-1), 1) := by decide +kernel
theorem dM_look_62 : decode prog_7_method_18_code 62 = .ok (.if_icmp .eq 54, 3) := by decide +kernel
theorem dM_look_65 : decode prog_7_method_18_code 65 = .ok (.iconst 0, 1) := by decide +kernel
theorem dM_look_66 : decode prog_7_method_18_code 66 = .ok (.istore 5, 2) := by decide +kernel
theorem dM_look_68 : decode prog_7_method_18_code 68 = .ok (.iload 5, 2) := by decide +kernel
theorem dM_look_70 : decode prog_7_method_18_code 70 = .ok (.bipush 60, 2) := by decide +kernel
theorem dM_look_72 : decode prog_7_method_18_code 72 = .ok (.if_icmp .ge 32, 3) := by decide +kernel
theorem dM_look_75 : decode prog_7_method_18_code 75 = .ok (.aload_n 0, 1) := by decide +kernel
theorem dM_look_76 : decode prog_7_method_18_code 76 = .ok (.getfield 52, 3) := by decide +kernel
theorem dM_look_79 : decode prog_7_method_18_code 79 = .ok (.bipush 60, 2) := by decide +kernel
theorem dM_look_81 : decode prog_7_method_18_code 81 = .ok (.iload 4, 2) := by decide +kernel
theorem dM_look_83 : decode prog_7_method_18_code 83 = .ok (.imul, 1) := by decide +kernel
theorem dM_look_84 : decode prog_7_method_18_code 84 = .ok (.iload 5, 2) := by decide +kernel
theorem dM_look_86 : decode prog_7_method_18_code 86 = .ok (.iadd, 1) := by decide +kernel
theorem dM_look_87 : decode prog_7_method_18_code 87 = .ok (.dup2, 1) := by decide +kernel
theorem dM_look_88 : decode prog_7_method_18_code 88 = .ok (.iaload, 1) := by decide +kernel
theorem dM_look_89 : decode prog_7_method_18_code 89 = .ok (.lload_n 2, 1) := by decide +kernel
theorem dM_look_90 : decode prog_7_method_18_code 90 = .ok (.iload 5, 2) := by decide +kernel
theorem dM_look_92 : decode prog_7_method_18_code 92 = .ok (.lshr, 1) := by decide +kernel
theorem dM_look_93 : decode prog_7_method_18_code 93 = .ok (.lconst 1, 1) := by decide +kernel
theorem dM_look_94 : decode prog_7_method_18_code 94 = .ok (.land, 1) := by decide +kernel
theorem dM_look_95 : decode prog_7_method_18_code 95 = .ok (.l2i, 1) := by decide +kernel
theorem dM_look_96 : decode prog_7_method_18_code 96 = .ok (.iadd, 1) := by decide +kernel
theorem dM_look_97 : decode prog_7_method_18_code 97 = .ok (.iastore, 1) := by decide +kernel
theorem dM_look_98 : decode prog_7_method_18_code 98 = .ok (.iinc 5 1, 3) := by decide +kernel
theorem dM_look_101 : decode prog_7_method_18_code 101 = .ok (.goto (-33), 3) := by decide +kernel
theorem dM_look_104 : decode prog_7_method_18_code 104 = .ok (.aload_n 0, 1) := by decide +kernel
theorem dM_look_105 : decode prog_7_method_18_code 105 = .ok (.getfield 25, 3) := by decide +kernel
theorem dM_look_108 : decode prog_7_method_18_code 108 = .ok (.iload 4, 2) := by decide +kernel
theorem dM_look_110 : decode prog_7_method_18_code 110 = .ok (.iaload, 1) := by decide +kernel
theorem dM_look_111 : decode prog_7_method_18_code 111 = .ok (.istore 4, 2) := by decide +kernel
theorem dM_look_113 : decode prog_7_method_18_code 113 = .ok (.goto (-54), 3) := by decide +kernel
theorem dM_look_116 : decode prog_7_method_18_code 116 = .ok (.iinc 1 1, 3) := by decide +kernel
theorem dM_look_119 : decode prog_7_method_18_code 119 = .ok (.goto (-91), 3) := by decide +kernel
theorem dM_look_122 : decode prog_7_method_18_code 122 = .ok (.iconst 0, 1) := by decide +kernel
theorem dM_look_123 : decode prog_7_method_18_code 123 = .ok (.istore_n 1, 1) := by decide +kernel
theorem dM_look_124 : decode prog_7_method_18_code 124 = .ok (.iload_n 1, 1) := by decide +kernel
theorem dM_look_125 : decode prog_7_method_18_code 125 = .ok (.aload_n 0, 1) := by decide +kernel
theorem dM_look_126 : decode prog_7_method_18_code 126 = .ok (.getfield 118, 3) := by decide +kernel
theorem dM_look_129 : decode prog_7_method_18_code 129 = .ok (.if_icmp .ge 98, 3) := by decide +kernel
theorem dM_look_132 : decode prog_7_method_18_code 132 = .ok (.aload_n 0, 1) := by decide +kernel
theorem dM_look_133 : decode prog_7_method_18_code 133 = .ok (.getfield 55, 3) := by decide +kernel
theorem dM_look_136 : decode prog_7_method_18_code 136 = .ok (.iload_n 1, 1) := by decide +kernel
theorem dM_look_137 : decode prog_7_method_18_code 137 = .ok (.aload_n 0, 1) := by decide +kernel
theorem dM_look_138 : decode prog_7_method_18_code 138 = .ok (.getfield 128, 3) := by decide +kernel
theorem dM_look_141 : decode prog_7_method_18_code 141 = .ok (.lastore, 1) := by decide +kernel
theorem dM_look_142 : decode prog_7_method_18_code 142 = .ok (.aload_n 0, 1) := by decide +kernel
theorem dM_look_143 : decode prog_7_method_18_code 143 = .ok (.getfield 59, 3) := by decide +kernel
theorem dM_look_146 : decode prog_7_method_18_code 146 = .ok (.iload_n 1, 1) := by decide +kernel
theorem dM_look_147 : decode prog_7_method_18_code 147 = .ok (.lconst 0, 1) := by decide +kernel
theorem dM_look_148 : decode prog_7_method_18_code 148 = .ok (.lastore, 1) := by decide +kernel
theorem dM_look_149 : decode prog_7_method_18_code 149 = .ok (.iconst 0, 1) := by decide +kernel
theorem dM_look_150 : decode prog_7_method_18_code 150 = .ok (.istore_n 2, 1) := by decide +kernel
theorem dM_look_151 : decode prog_7_method_18_code 151 = .ok (.iload_n 2, 1) := by decide +kernel
theorem dM_look_152 : decode prog_7_method_18_code 152 = .ok (.bipush 60, 2) := by decide +kernel
theorem dM_look_154 : decode prog_7_method_18_code 154 = .ok (.if_icmp .ge 67, 3) := by decide +kernel
theorem dM_look_157 : decode prog_7_method_18_code 157 = .ok (.aload_n 0, 1) := by decide +kernel
theorem dM_look_158 : decode prog_7_method_18_code 158 = .ok (.getfield 52, 3) := by decide +kernel
theorem dM_look_161 : decode prog_7_method_18_code 161 = .ok (.iload_n 2, 1) := by decide +kernel
theorem dM_look_162 : decode prog_7_method_18_code 162 = .ok (.iaload, 1) := by decide +kernel
theorem dM_look_163 : decode prog_7_method_18_code 163 = .ok (.aload_n 0, 1) := by decide +kernel
theorem dM_look_164 : decode prog_7_method_18_code 164 = .ok (.getfield 52, 3) := by decide +kernel
theorem dM_look_167 : decode prog_7_method_18_code 167 = .ok (.bipush 60, 2) := by decide +kernel
theorem dM_look_169 : decode prog_7_method_18_code 169 = .ok (.iload_n 1, 1) := by decide +kernel
theorem dM_look_170 : decode prog_7_method_18_code 170 = .ok (.imul, 1) := by decide +kernel
theorem dM_look_171 : decode prog_7_method_18_code 171 = .ok (.iload_n 2, 1) := by decide +kernel
theorem dM_look_172 : decode prog_7_method_18_code 172 = .ok (.iadd, 1) := by decide +kernel
theorem dM_look_173 : decode prog_7_method_18_code 173 = .ok (.iaload, 1) := by decide +kernel
theorem dM_look_174 : decode prog_7_method_18_code 174 = .ok (.if_icmp .le 15, 3) := by decide +kernel
theorem dM_look_177 : decode prog_7_method_18_code 177 = .ok (.aload_n 0, 1) := by decide +kernel
theorem dM_look_178 : decode prog_7_method_18_code 178 = .ok (.getfield 55, 3) := by decide +kernel
theorem dM_look_181 : decode prog_7_method_18_code 181 = .ok (.iload_n 1, 1) := by decide +kernel
theorem dM_look_182 : decode prog_7_method_18_code 182 = .ok (.dup2, 1) := by decide +kernel
theorem dM_look_183 : decode prog_7_method_18_code 183 = .ok (.laload, 1) := by decide +kernel
theorem dM_look_184 : decode prog_7_method_18_code 184 = .ok (.lconst 1, 1) := by decide +kernel
theorem dM_look_185 : decode prog_7_method_18_code 185 = .ok (.iload_n 2, 1) := by decide +kernel
theorem dM_look_186 : decode prog_7_method_18_code 186 = .ok (.lshl, 1) := by decide +kernel
theorem dM_look_187 : decode prog_7_method_18_code 187 = .ok (.lor, 1) := by decide +kernel
theorem dM_look_188 : decode prog_7_method_18_code 188 = .ok (.lastore, 1) := by decide +kernel
theorem dM_look_189 : decode prog_7_method_18_code 189 = .ok (.aload_n 0, 1) := by decide +kernel
theorem dM_look_190 : decode prog_7_method_18_code 190 = .ok (.getfield 52, 3) := by decide +kernel
theorem dM_look_193 : decode prog_7_method_18_code 193 = .ok (.bipush 60, 2) := by decide +kernel
theorem dM_look_195 : decode prog_7_method_18_code 195 = .ok (.iload_n 1, 1) := by decide +kernel
theorem dM_look_196 : decode prog_7_method_18_code 196 = .ok (.imul, 1) := by decide +kernel
theorem dM_look_197 : decode prog_7_method_18_code 197 = .ok (.iload_n 2, 1) := by decide +kernel
theorem dM_look_198 : decode prog_7_method_18_code 198 = .ok (.iadd, 1) := by decide +kernel
theorem dM_look_199 : decode prog_7_method_18_code 199 = .ok (.iaload, 1) := by decide +kernel
theorem dM_look_200 : decode prog_7_method_18_code 200 = .ok (.ifCond .le 15, 3) := by decide +kernel
theorem dM_look_203 : decode prog_7_method_18_code 203 = .ok (.aload_n 0, 1) := by decide +kernel
theorem dM_look_204 : decode prog_7_method_18_code 204 = .ok (.getfield 59, 3) := by decide +kernel
theorem dM_look_207 : decode prog_7_method_18_code 207 = .ok (.iload_n 1, 1) := by decide +kernel
theorem dM_look_208 : decode prog_7_method_18_code 208 = .ok (.dup2, 1) := by decide +kernel
theorem dM_look_209 : decode prog_7_method_18_code 209 = .ok (.laload, 1) := by decide +kernel
theorem dM_look_210 : decode prog_7_method_18_code 210 = .ok (.lconst 1, 1) := by decide +kernel
theorem dM_look_211 : decode prog_7_method_18_code 211 = .ok (.iload_n 2, 1) := by decide +kernel
theorem dM_look_212 : decode prog_7_method_18_code 212 = .ok (.lshl, 1) := by decide +kernel
theorem dM_look_213 : decode prog_7_method_18_code 213 = .ok (.lor, 1) := by decide +kernel
theorem dM_look_214 : decode prog_7_method_18_code 214 = .ok (.lastore, 1) := by decide +kernel
theorem dM_look_215 : decode prog_7_method_18_code 215 = .ok (.iinc 2 1, 3) := by decide +kernel
theorem dM_look_218 : decode prog_7_method_18_code 218 = .ok (.goto (-67), 3) := by decide +kernel
theorem dM_look_221 : decode prog_7_method_18_code 221 = .ok (.iinc 1 1, 3) := by decide +kernel
theorem dM_look_224 : decode prog_7_method_18_code 224 = .ok (.goto (-100), 3) := by decide +kernel
theorem dM_look_227 : decode prog_7_method_18_code 227 = .ok (.return_, 1) := by decide +kernel
end
section
theorem dM_made_0 : decode prog_7_method_13_code 0 = .ok (.aload_n 0, 1) := by decide +kernel
theorem dM_made_1 : decode prog_7_method_13_code 1 = .ok (.getfield 118, 3) := by decide +kernel
theorem dM_made_4 : decode prog_7_method_13_code 4 = .ok (.istore_n 3, 1) := by decide +kernel
theorem dM_made_5 : decode prog_7_method_13_code 5 = .ok (.aload_n 0, 1) := by decide +kernel
theorem dM_made_6 : decode prog_7_method_13_code 6 = .ok (.dup, 1) := by decide +kernel
theorem dM_made_7 : decode prog_7_method_13_code 7 = .ok (.getfield 118, 3) := by decide +kernel
theorem dM_made_10 : decode prog_7_method_13_code 10 = .ok (.iconst 1, 1) := by decide +kernel
theorem dM_made_11 : decode prog_7_method_13_code 11 = .ok (.iadd, 1) := by decide +kernel
theorem dM_made_12 : decode prog_7_method_13_code 12 = .ok (.putfield 118, 3) := by decide +kernel
theorem dM_made_15 : decode prog_7_method_13_code 15 = .ok (.aload_n 0, 1) := by decide +kernel
theorem dM_made_16 : decode prog_7_method_13_code 16 = .ok (.getfield 19, 3) := by decide +kernel
theorem dM_made_19 : decode prog_7_method_13_code 19 = .ok (.iload_n 3, 1) := by decide +kernel
theorem dM_made_20 : decode prog_7_method_13_code 20 = .ok (.iload_n 2, 1) := by decide +kernel
theorem dM_made_21 : decode prog_7_method_13_code 21 = .ok (.iastore, 1) := by decide +kernel
theorem dM_made_22 : decode prog_7_method_13_code 22 = .ok (.aload_n 0, 1) := by decide +kernel
theorem dM_made_23 : decode prog_7_method_13_code 23 = .ok (.getfield 28, 3) := by decide +kernel
theorem dM_made_26 : decode prog_7_method_13_code 26 = .ok (.iload_n 3, 1) := by decide +kernel
theorem dM_made_27 : decode prog_7_method_13_code 27 = .ok (.iconst 0, 1) := by decide +kernel
theorem dM_made_28 : decode prog_7_method_13_code 28 = .ok (.iastore, 1) := by decide +kernel
theorem dM_made_29 : decode prog_7_method_13_code 29 = .ok (.aload_n 0, 1) := by decide +kernel
theorem dM_made_30 : decode prog_7_method_13_code 30 = .ok (.getfield 31, 3) := by decide +kernel
theorem dM_made_33 : decode prog_7_method_13_code 33 = .ok (.iload_n 3, 1) := by decide +kernel
theorem dM_made_34 : decode prog_7_method_13_code 34 = .ok (.iconst (-1), 1) := by decide +kernel
theorem dM_made_35 : decode prog_7_method_13_code 35 = .ok (.iastore, 1) := by decide +kernel
theorem dM_made_36 : decode prog_7_method_13_code 36 = .ok (.aload_n 0, 1) := by decide +kernel
theorem dM_made_37 : decode prog_7_method_13_code 37 = .ok (.getfield 34, 3) := by decide +kernel
theorem dM_made_40 : decode prog_7_method_13_code 40 = .ok (.iload_n 3, 1) := by decide +kernel
theorem dM_made_41 : decode prog_7_method_13_code 41 = .ok (.iconst (-1), 1) := by decide +kernel
theorem dM_made_42 : decode prog_7_method_13_code 42 = .ok (.iastore, 1) := by decide +kernel
theorem dM_made_43 : decode prog_7_method_13_code 43 = .ok (.aload_n 0, 1) := by decide +kernel
theorem dM_made_44 : decode prog_7_method_13_code 44 = .ok (.getfield 37, 3) := by decide +kernel
theorem dM_made_47 : decode prog_7_method_13_code 47 = .ok (.iload_n 3, 1) := by decide +kernel
theorem dM_made_48 : decode prog_7_method_13_code 48 = .ok (.iconst (-1), 1) := by decide +kernel
theorem dM_made_49 : decode prog_7_method_13_code 49 = .ok (.iastore, 1) := by decide +kernel
theorem dM_made_50 : decode prog_7_method_13_code 50 = .ok (.aload_n 0, 1) := by decide +kernel
theorem dM_made_51 : decode prog_7_method_13_code 51 = .ok (.getfield 40, 3) := by decide +kernel
theorem dM_made_54 : decode prog_7_method_13_code 54 = .ok (.iload_n 3, 1) := by decide +kernel
theorem dM_made_55 : decode prog_7_method_13_code 55 = .ok (.iconst (-1), 1) := by decide +kernel
theorem dM_made_56 : decode prog_7_method_13_code 56 = .ok (.iastore, 1) := by decide +kernel
theorem dM_made_57 : decode prog_7_method_13_code 57 = .ok (.aload_n 0, 1) := by decide +kernel
theorem dM_made_58 : decode prog_7_method_13_code 58 = .ok (.getfield 43, 3) := by decide +kernel
theorem dM_made_61 : decode prog_7_method_13_code 61 = .ok (.iload_n 3, 1) := by decide +kernel
theorem dM_made_62 : decode prog_7_method_13_code 62 = .ok (.aload_n 0, 1) := by decide +kernel
theorem dM_made_63 : decode prog_7_method_13_code 63 = .ok (.getfield 121, 3) := by decide +kernel
theorem dM_made_66 : decode prog_7_method_13_code 66 = .ok (.iastore, 1) := by decide +kernel
theorem dM_made_67 : decode prog_7_method_13_code 67 = .ok (.iconst 0, 1) := by decide +kernel
theorem dM_made_68 : decode prog_7_method_13_code 68 = .ok (.istore 4, 2) := by decide +kernel
theorem dM_made_70 : decode prog_7_method_13_code 70 = .ok (.iload 4, 2) := by decide +kernel
theorem dM_made_72 : decode prog_7_method_13_code 72 = .ok (.aload_n 0, 1) := by decide +kernel
theorem dM_made_73 : decode prog_7_method_13_code 73 = .ok (.getfield 121, 3) := by decide +kernel
theorem dM_made_76 : decode prog_7_method_13_code 76 = .ok (.if_icmp .ge 28, 3) := by decide +kernel
theorem dM_made_79 : decode prog_7_method_13_code 79 = .ok (.aload_n 0, 1) := by decide +kernel
theorem dM_made_80 : decode prog_7_method_13_code 80 = .ok (.getfield 46, 3) := by decide +kernel
theorem dM_made_83 : decode prog_7_method_13_code 83 = .ok (.bipush 7, 2) := by decide +kernel
theorem dM_made_85 : decode prog_7_method_13_code 85 = .ok (.iload_n 3, 1) := by decide +kernel
theorem dM_made_86 : decode prog_7_method_13_code 86 = .ok (.imul, 1) := by decide +kernel
theorem dM_made_87 : decode prog_7_method_13_code 87 = .ok (.iload 4, 2) := by decide +kernel
theorem dM_made_89 : decode prog_7_method_13_code 89 = .ok (.iadd, 1) := by decide +kernel
theorem dM_made_90 : decode prog_7_method_13_code 90 = .ok (.aload_n 0, 1) := by decide +kernel
theorem dM_made_91 : decode prog_7_method_13_code 91 = .ok (.getfield 49, 3) := by decide +kernel
theorem dM_made_94 : decode prog_7_method_13_code 94 = .ok (.iload 4, 2) := by decide +kernel
theorem dM_made_96 : decode prog_7_method_13_code 96 = .ok (.iaload, 1) := by decide +kernel
theorem dM_made_97 : decode prog_7_method_13_code 97 = .ok (.iastore, 1) := by decide +kernel
theorem dM_made_98 : decode prog_7_method_13_code 98 = .ok (.iinc 4 1, 3) := by decide +kernel
theorem dM_made_101 : decode prog_7_method_13_code 101 = .ok (.goto (-31), 3) := by decide +kernel
theorem dM_made_104 : decode prog_7_method_13_code 104 = .ok (.aload_n 0, 1) := by decide +kernel
theorem dM_made_105 : decode prog_7_method_13_code 105 = .ok (.getfield 25, 3) := by decide +kernel
theorem dM_made_108 : decode prog_7_method_13_code 108 = .ok (.iload_n 3, 1) := by decide +kernel
theorem dM_made_109 : decode prog_7_method_13_code 109 = .ok (.iload_n 1, 1) := by decide +kernel
theorem dM_made_110 : decode prog_7_method_13_code 110 = .ok (.iastore, 1) := by decide +kernel
theorem dM_made_111 : decode prog_7_method_13_code 111 = .ok (.aload_n 0, 1) := by decide +kernel
theorem dM_made_112 : decode prog_7_method_13_code 112 = .ok (.getfield 22, 3) := by decide +kernel
theorem dM_made_115 : decode prog_7_method_13_code 115 = .ok (.iload_n 3, 1) := by decide +kernel
theorem dM_made_116 : decode prog_7_method_13_code 116 = .ok (.iload_n 1, 1) := by decide +kernel
theorem dM_made_117 : decode prog_7_method_13_code 117 = .ok (.iconst (-1), 1) := by decide +kernel
theorem dM_made_118 : decode prog_7_method_13_code 118 = .ok (.if_icmp .ne 7, 3) := by decide +kernel
theorem dM_made_121 : decode prog_7_method_13_code 121 = .ok (.iconst 0, 1) := by decide +kernel
theorem dM_made_122 : decode prog_7_method_13_code 122 = .ok (.goto 11, 3) := by decide +kernel
theorem dM_made_125 : decode prog_7_method_13_code 125 = .ok (.aload_n 0, 1) := by decide +kernel
theorem dM_made_126 : decode prog_7_method_13_code 126 = .ok (.getfield 22, 3) := by decide +kernel
theorem dM_made_129 : decode prog_7_method_13_code 129 = .ok (.iload_n 1, 1) := by decide +kernel
theorem dM_made_130 : decode prog_7_method_13_code 130 = .ok (.iaload, 1) := by decide +kernel
theorem dM_made_131 : decode prog_7_method_13_code 131 = .ok (.iconst 1, 1) := by decide +kernel
theorem dM_made_132 : decode prog_7_method_13_code 132 = .ok (.iadd, 1) := by decide +kernel
theorem dM_made_133 : decode prog_7_method_13_code 133 = .ok (.iastore, 1) := by decide +kernel
theorem dM_made_134 : decode prog_7_method_13_code 134 = .ok (.iload_n 1, 1) := by decide +kernel
theorem dM_made_135 : decode prog_7_method_13_code 135 = .ok (.iconst (-1), 1) := by decide +kernel
theorem dM_made_136 : decode prog_7_method_13_code 136 = .ok (.if_icmp .ne 5, 3) := by decide +kernel
theorem dM_made_139 : decode prog_7_method_13_code 139 = .ok (.iload_n 3, 1) := by decide +kernel
theorem dM_made_140 : decode prog_7_method_13_code 140 = .ok (.ireturn, 1) := by decide +kernel
theorem dM_made_141 : decode prog_7_method_13_code 141 = .ok (.aload_n 0, 1) := by decide +kernel
theorem dM_made_142 : decode prog_7_method_13_code 142 = .ok (.getfield 31, 3) := by decide +kernel
theorem dM_made_145 : decode prog_7_method_13_code 145 = .ok (.iload_n 1, 1) := by decide +kernel
theorem dM_made_146 : decode prog_7_method_13_code 146 = .ok (.iaload, 1) := by decide +kernel
theorem dM_made_147 : decode prog_7_method_13_code 147 = .ok (.iconst (-1), 1) := by decide +kernel
theorem dM_made_148 : decode prog_7_method_13_code 148 = .ok (.if_icmp .ne 13, 3) := by decide +kernel
theorem dM_made_151 : decode prog_7_method_13_code 151 = .ok (.aload_n 0, 1) := by decide +kernel
theorem dM_made_152 : decode prog_7_method_13_code 152 = .ok (.getfield 31, 3) := by decide +kernel
theorem dM_made_155 : decode prog_7_method_13_code 155 = .ok (.iload_n 1, 1) := by decide +kernel
theorem dM_made_156 : decode prog_7_method_13_code 156 = .ok (.iload_n 3, 1) := by decide +kernel
theorem dM_made_157 : decode prog_7_method_13_code 157 = .ok (.iastore, 1) := by decide +kernel
theorem dM_made_158 : decode prog_7_method_13_code 158 = .ok (.goto 15, 3) := by decide +kernel
theorem dM_made_161 : decode prog_7_method_13_code 161 = .ok (.aload_n 0, 1) := by decide +kernel
theorem dM_made_162 : decode prog_7_method_13_code 162 = .ok (.getfield 37, 3) := by decide +kernel
theorem dM_made_165 : decode prog_7_method_13_code 165 = .ok (.aload_n 0, 1) := by decide +kernel
theorem dM_made_166 : decode prog_7_method_13_code 166 = .ok (.getfield 34, 3) := by decide +kernel
theorem dM_made_169 : decode prog_7_method_13_code 169 = .ok (.iload_n 1, 1) := by decide +kernel
theorem dM_made_170 : decode prog_7_method_13_code 170 = .ok (.iaload, 1) := by decide +kernel
theorem dM_made_171 : decode prog_7_method_13_code 171 = .ok (.iload_n 3, 1) := by decide +kernel
theorem dM_made_172 : decode prog_7_method_13_code 172 = .ok (.iastore, 1) := by decide +kernel
theorem dM_made_173 : decode prog_7_method_13_code 173 = .ok (.aload_n 0, 1) := by decide +kernel
theorem dM_made_174 : decode prog_7_method_13_code 174 = .ok (.getfield 34, 3) := by decide +kernel
theorem dM_made_177 : decode prog_7_method_13_code 177 = .ok (.iload_n 1, 1) := by decide +kernel
theorem dM_made_178 : decode prog_7_method_13_code 178 = .ok (.iload_n 3, 1) := by decide +kernel
theorem dM_made_179 : decode prog_7_method_13_code 179 = .ok (.iastore, 1) := by decide +kernel
theorem dM_made_180 : decode prog_7_method_13_code 180 = .ok (.aload_n 0, 1) := by decide +kernel
theorem dM_made_181 : decode prog_7_method_13_code 181 = .ok (.getfield 28, 3) := by decide +kernel
theorem dM_made_184 : decode prog_7_method_13_code 184 = .ok (.iload_n 1, 1) := by decide +kernel
theorem dM_made_185 : decode prog_7_method_13_code 185 = .ok (.dup2, 1) := by decide +kernel
theorem dM_made_186 : decode prog_7_method_13_code 186 = .ok (.iaload, 1) := by decide +kernel
theorem dM_made_187 : decode prog_7_method_13_code 187 = .ok (.iconst 1, 1) := by decide +kernel
theorem dM_made_188 : decode prog_7_method_13_code 188 = .ok (.iadd, 1) := by decide +kernel
theorem dM_made_189 : decode prog_7_method_13_code 189 = .ok (.iastore, 1) := by decide +kernel
theorem dM_made_190 : decode prog_7_method_13_code 190 = .ok (.iload_n 3, 1) := by decide +kernel
theorem dM_made_191 : decode prog_7_method_13_code 191 = .ok (.ireturn, 1) := by decide +kernel
theorem dM_mode_0 : decode prog_7_method_6_code 0 = .ok (.aload_n 0, 1) := by decide +kernel
theorem dM_mode_1 : decode prog_7_method_6_code 1 = .ok (.iconst 0, 1) := by decide +kernel
theorem dM_mode_2 : decode prog_7_method_6_code 2 = .ok (.putfield 115, 3) := by decide +kernel
theorem dM_mode_5 : decode prog_7_method_6_code 5 = .ok (.iload_n 1, 1) := by decide +kernel
theorem dM_mode_6 : decode prog_7_method_6_code 6 = .ok (.ifCond .lt 21, 3) := by decide +kernel
theorem dM_mode_9 : decode prog_7_method_6_code 9 = .ok (.iload_n 1, 1) := by decide +kernel
theorem dM_mode_10 : decode prog_7_method_6_code 10 = .ok (.aload_n 0, 1) := by decide +kernel
theorem dM_mode_11 : decode prog_7_method_6_code 11 = .ok (.getfield 142, 3) := by decide +kernel
theorem dM_mode_14 : decode prog_7_method_6_code 14 = .ok (.if_icmp .ge 13, 3) := by decide +kernel
theorem dM_mode_17 : decode prog_7_method_6_code 17 = .ok (.aload_n 0, 1) := by decide +kernel
theorem dM_mode_18 : decode prog_7_method_6_code 18 = .ok (.getfield 13, 3) := by decide +kernel
theorem dM_mode_21 : decode prog_7_method_6_code 21 = .ok (.iload_n 1, 1) := by decide +kernel
theorem dM_mode_22 : decode prog_7_method_6_code 22 = .ok (.iaload, 1) := by decide +kernel
theorem dM_mode_23 : decode prog_7_method_6_code 23 = .ok (.iconst 4, 1) := by decide +kernel
theorem dM_mode_24 : decode prog_7_method_6_code 24 = .ok (.if_icmp .ne 5, 3) := by decide +kernel
theorem dM_mode_27 : decode prog_7_method_6_code 27 = .ok (.iconst (-1), 1) := by decide +kernel
theorem dM_mode_28 : decode prog_7_method_6_code 28 = .ok (.ireturn, 1) := by decide +kernel
theorem dM_mode_29 : decode prog_7_method_6_code 29 = .ok (.aload_n 0, 1) := by decide +kernel
theorem dM_mode_30 : decode prog_7_method_6_code 30 = .ok (.getfield 13, 3) := by decide +kernel
theorem dM_mode_33 : decode prog_7_method_6_code 33 = .ok (.iload_n 1, 1) := by decide +kernel
theorem dM_mode_34 : decode prog_7_method_6_code 34 = .ok (.iaload, 1) := by decide +kernel
theorem dM_mode_35 : decode prog_7_method_6_code 35 = .ok (.istore_n 3, 1) := by decide +kernel
theorem dM_mode_36 : decode prog_7_method_6_code 36 = .ok (.aload_n 0, 1) := by decide +kernel
theorem dM_mode_37 : decode prog_7_method_6_code 37 = .ok (.getfield 16, 3) := by decide +kernel
theorem dM_mode_40 : decode prog_7_method_6_code 40 = .ok (.iconst 4, 1) := by decide +kernel
theorem dM_mode_41 : decode prog_7_method_6_code 41 = .ok (.iload_n 1, 1) := by decide +kernel
theorem dM_mode_42 : decode prog_7_method_6_code 42 = .ok (.imul, 1) := by decide +kernel
theorem dM_mode_43 : decode prog_7_method_6_code 43 = .ok (.iload_n 3, 1) := by decide +kernel
theorem dM_mode_44 : decode prog_7_method_6_code 44 = .ok (.iadd, 1) := by decide +kernel
theorem dM_mode_45 : decode prog_7_method_6_code 45 = .ok (.iload_n 2, 1) := by decide +kernel
theorem dM_mode_46 : decode prog_7_method_6_code 46 = .ok (.iastore, 1) := by decide +kernel
theorem dM_mode_47 : decode prog_7_method_6_code 47 = .ok (.aload_n 0, 1) := by decide +kernel
theorem dM_mode_48 : decode prog_7_method_6_code 48 = .ok (.getfield 13, 3) := by decide +kernel
theorem dM_mode_51 : decode prog_7_method_6_code 51 = .ok (.iload_n 1, 1) := by decide +kernel
theorem dM_mode_52 : decode prog_7_method_6_code 52 = .ok (.dup2, 1) := by decide +kernel
theorem dM_mode_53 : decode prog_7_method_6_code 53 = .ok (.iaload, 1) := by decide +kernel
theorem dM_mode_54 : decode prog_7_method_6_code 54 = .ok (.iconst 1, 1) := by decide +kernel
theorem dM_mode_55 : decode prog_7_method_6_code 55 = .ok (.iadd, 1) := by decide +kernel
theorem dM_mode_56 : decode prog_7_method_6_code 56 = .ok (.iastore, 1) := by decide +kernel
theorem dM_mode_57 : decode prog_7_method_6_code 57 = .ok (.aload_n 0, 1) := by decide +kernel
theorem dM_mode_58 : decode prog_7_method_6_code 58 = .ok (.invokevirtual 135, 3) := by decide +kernel
theorem dM_mode_61 : decode prog_7_method_6_code 61 = .ok (.iload_n 3, 1) := by decide +kernel
theorem dM_mode_62 : decode prog_7_method_6_code 62 = .ok (.ireturn, 1) := by decide +kernel
theorem dM_node_0 : decode prog_7_method_37_code 0 = .ok (.aload_n 0, 1) := by decide +kernel
theorem dM_node_1 : decode prog_7_method_37_code 1 = .ok (.iconst 0, 1) := by decide +kernel
theorem dM_node_2 : decode prog_7_method_37_code 2 = .ok (.putfield 115, 3) := by decide +kernel
theorem dM_node_5 : decode prog_7_method_37_code 5 = .ok (.aload_n 0, 1) := by decide +kernel
theorem dM_node_6 : decode prog_7_method_37_code 6 = .ok (.iload_n 1, 1) := by decide +kernel
theorem dM_node_7 : decode prog_7_method_37_code 7 = .ok (.invokevirtual 149, 3) := by decide +kernel
theorem dM_node_10 : decode prog_7_method_37_code 10 = .ok (.ifCond .ne 5, 3) := by decide +kernel
theorem dM_node_13 : decode prog_7_method_37_code 13 = .ok (.iconst (-1), 1) := by decide +kernel
theorem dM_node_14 : decode prog_7_method_37_code 14 = .ok (.ireturn, 1) := by decide +kernel
theorem dM_node_15 : decode prog_7_method_37_code 15 = .ok (.iload_n 2, 1) := by decide +kernel
theorem dM_node_16 : decode prog_7_method_37_code 16 = .ok (.tableswitch 81 (-1) 2 #[32, 60, 67, 74], 32) := by decide +kernel
theorem dM_node_48 : decode prog_7_method_37_code 48 = .ok (.aload_n 0, 1) := by decide +kernel
theorem dM_node_49 : decode prog_7_method_37_code 49 = .ok (.getfield 138, 3) := by decide +kernel
theorem dM_node_52 : decode prog_7_method_37_code 52 = .ok (.ifCond .eq 22, 3) := by decide +kernel
theorem dM_node_55 : decode prog_7_method_37_code 55 = .ok (.aload_n 0, 1) := by decide +kernel
theorem dM_node_56 : decode prog_7_method_37_code 56 = .ok (.getfield 19, 3) := by decide +kernel
theorem dM_node_59 : decode prog_7_method_37_code 59 = .ok (.iload_n 1, 1) := by decide +kernel
theorem dM_node_60 : decode prog_7_method_37_code 60 = .ok (.iaload, 1) := by decide +kernel
theorem dM_node_61 : decode prog_7_method_37_code 61 = .ok (.iconst 3, 1) := by decide +kernel
theorem dM_node_62 : decode prog_7_method_37_code 62 = .ok (.if_icmp .le 12, 3) := by decide +kernel
theorem dM_node_65 : decode prog_7_method_37_code 65 = .ok (.aload_n 0, 1) := by decide +kernel
theorem dM_node_66 : decode prog_7_method_37_code 66 = .ok (.getfield 78, 3) := by decide +kernel
theorem dM_node_69 : decode prog_7_method_37_code 69 = .ok (.iload_n 1, 1) := by decide +kernel
theorem dM_node_70 : decode prog_7_method_37_code 70 = .ok (.iaload, 1) := by decide +kernel
theorem dM_node_71 : decode prog_7_method_37_code 71 = .ok (.goto 4, 3) := by decide +kernel
theorem dM_node_74 : decode prog_7_method_37_code 74 = .ok (.iconst (-1), 1) := by decide +kernel
theorem dM_node_75 : decode prog_7_method_37_code 75 = .ok (.ireturn, 1) := by decide +kernel
theorem dM_node_76 : decode prog_7_method_37_code 76 = .ok (.aload_n 0, 1) := by decide +kernel
theorem dM_node_77 : decode prog_7_method_37_code 77 = .ok (.getfield 19, 3) := by decide +kernel
theorem dM_node_80 : decode prog_7_method_37_code 80 = .ok (.iload_n 1, 1) := by decide +kernel
theorem dM_node_81 : decode prog_7_method_37_code 81 = .ok (.iaload, 1) := by decide +kernel
theorem dM_node_82 : decode prog_7_method_37_code 82 = .ok (.ireturn, 1) := by decide +kernel
theorem dM_node_83 : decode prog_7_method_37_code 83 = .ok (.aload_n 0, 1) := by decide +kernel
theorem dM_node_84 : decode prog_7_method_37_code 84 = .ok (.getfield 28, 3) := by decide +kernel
theorem dM_node_87 : decode prog_7_method_37_code 87 = .ok (.iload_n 1, 1) := by decide +kernel
theorem dM_node_88 : decode prog_7_method_37_code 88 = .ok (.iaload, 1) := by decide +kernel
theorem dM_node_89 : decode prog_7_method_37_code 89 = .ok (.ireturn, 1) := by decide +kernel
theorem dM_node_90 : decode prog_7_method_37_code 90 = .ok (.aload_n 0, 1) := by decide +kernel
theorem dM_node_91 : decode prog_7_method_37_code 91 = .ok (.getfield 43, 3) := by decide +kernel
theorem dM_node_94 : decode prog_7_method_37_code 94 = .ok (.iload_n 1, 1) := by decide +kernel
theorem dM_node_95 : decode prog_7_method_37_code 95 = .ok (.iaload, 1) := by decide +kernel
theorem dM_node_96 : decode prog_7_method_37_code 96 = .ok (.ireturn, 1) := by decide +kernel
theorem dM_node_97 : decode prog_7_method_37_code 97 = .ok (.iload_n 2, 1) := by decide +kernel
theorem dM_node_98 : decode prog_7_method_37_code 98 = .ok (.iconst 2, 1) := by decide +kernel
theorem dM_node_99 : decode prog_7_method_37_code 99 = .ok (.if_icmp .le 31, 3) := by decide +kernel
theorem dM_node_102 : decode prog_7_method_37_code 102 = .ok (.iload_n 2, 1) := by decide +kernel
theorem dM_node_103 : decode prog_7_method_37_code 103 = .ok (.iconst 3, 1) := by decide +kernel
theorem dM_node_104 : decode prog_7_method_37_code 104 = .ok (.isub, 1) := by decide +kernel
theorem dM_node_105 : decode prog_7_method_37_code 105 = .ok (.aload_n 0, 1) := by decide +kernel
theorem dM_node_106 : decode prog_7_method_37_code 106 = .ok (.getfield 43, 3) := by decide +kernel
theorem dM_node_109 : decode prog_7_method_37_code 109 = .ok (.iload_n 1, 1) := by decide +kernel
theorem dM_node_110 : decode prog_7_method_37_code 110 = .ok (.iaload, 1) := by decide +kernel
theorem dM_node_111 : decode prog_7_method_37_code 111 = .ok (.if_icmp .ge 19, 3) := by decide +kernel
theorem dM_node_114 : decode prog_7_method_37_code 114 = .ok (.aload_n 0, 1) := by decide +kernel
theorem dM_node_115 : decode prog_7_method_37_code 115 = .ok (.getfield 46, 3) := by decide +kernel
theorem dM_node_118 : decode prog_7_method_37_code 118 = .ok (.bipush 7, 2) := by decide +kernel
theorem dM_node_120 : decode prog_7_method_37_code 120 = .ok (.iload_n 1, 1) := by decide +kernel
theorem dM_node_121 : decode prog_7_method_37_code 121 = .ok (.imul, 1) := by decide +kernel
theorem dM_node_122 : decode prog_7_method_37_code 122 = .ok (.iload_n 2, 1) := by decide +kernel
theorem dM_node_123 : decode prog_7_method_37_code 123 = .ok (.iadd, 1) := by decide +kernel
theorem dM_node_124 : decode prog_7_method_37_code 124 = .ok (.iconst 3, 1) := by decide +kernel
theorem dM_node_125 : decode prog_7_method_37_code 125 = .ok (.isub, 1) := by decide +kernel
theorem dM_node_126 : decode prog_7_method_37_code 126 = .ok (.iaload, 1) := by decide +kernel
theorem dM_node_127 : decode prog_7_method_37_code 127 = .ok (.goto 4, 3) := by decide +kernel
theorem dM_node_130 : decode prog_7_method_37_code 130 = .ok (.iconst (-1), 1) := by decide +kernel
theorem dM_node_131 : decode prog_7_method_37_code 131 = .ok (.ireturn, 1) := by decide +kernel
theorem dM_not_0 : decode prog_7_method_31_code 0 = .ok (.aload_n 0, 1) := by decide +kernel
theorem dM_not_1 : decode prog_7_method_31_code 1 = .ok (.getfield 31, 3) := by decide +kernel
theorem dM_not_4 : decode prog_7_method_31_code 4 = .ok (.iload_n 2, 1) := by decide +kernel
theorem dM_not_5 : decode prog_7_method_31_code 5 = .ok (.iaload, 1) := by decide +kernel
theorem dM_not_6 : decode prog_7_method_31_code 6 = .ok (.istore_n 3, 1) := by decide +kernel
theorem dM_not_7 : decode prog_7_method_31_code 7 = .ok (.iload_n 3, 1) := by decide +kernel
theorem dM_not_8 : decode prog_7_method_31_code 8 = .ok (.iconst (-1), 1) := by decide +kernel
theorem dM_not_9 : decode prog_7_method_31_code 9 = .ok (.if_icmp .ne 12, 3) := by decide +kernel
theorem dM_not_12 : decode prog_7_method_31_code 12 = .ok (.aload_n 0, 1) := by decide +kernel
theorem dM_not_13 : decode prog_7_method_31_code 13 = .ok (.iload_n 2, 1) := by decide +kernel
theorem dM_not_14 : decode prog_7_method_31_code 14 = .ok (.iconst 0, 1) := by decide +kernel
theorem dM_not_15 : decode prog_7_method_31_code 15 = .ok (.lconst 0, 1) := by decide +kernel
theorem dM_not_16 : decode prog_7_method_31_code 16 = .ok (.invokevirtual 211, 3) := by decide +kernel
theorem dM_not_19 : decode prog_7_method_31_code 19 = .ok (.iconst 1, 1) := by decide +kernel
theorem dM_not_20 : decode prog_7_method_31_code 20 = .ok (.ireturn, 1) := by decide +kernel
theorem dM_not_21 : decode prog_7_method_31_code 21 = .ok (.aload_n 0, 1) := by decide +kernel
theorem dM_not_22 : decode prog_7_method_31_code 22 = .ok (.getfield 90, 3) := by decide +kernel
theorem dM_not_25 : decode prog_7_method_31_code 25 = .ok (.iload_n 1, 1) := by decide +kernel
theorem dM_not_26 : decode prog_7_method_31_code 26 = .ok (.iaload, 1) := by decide +kernel
theorem dM_not_27 : decode prog_7_method_31_code 27 = .ok (.ifCond .ne 22, 3) := by decide +kernel
theorem dM_not_30 : decode prog_7_method_31_code 30 = .ok (.aload_n 0, 1) := by decide +kernel
theorem dM_not_31 : decode prog_7_method_31_code 31 = .ok (.getfield 90, 3) := by decide +kernel
theorem dM_not_34 : decode prog_7_method_31_code 34 = .ok (.iload_n 1, 1) := by decide +kernel
theorem dM_not_35 : decode prog_7_method_31_code 35 = .ok (.iconst 1, 1) := by decide +kernel
theorem dM_not_36 : decode prog_7_method_31_code 36 = .ok (.iastore, 1) := by decide +kernel
theorem dM_not_37 : decode prog_7_method_31_code 37 = .ok (.aload_n 0, 1) := by decide +kernel
theorem dM_not_38 : decode prog_7_method_31_code 38 = .ok (.iload_n 3, 1) := by decide +kernel
theorem dM_not_39 : decode prog_7_method_31_code 39 = .ok (.aload_n 0, 1) := by decide +kernel
theorem dM_not_40 : decode prog_7_method_31_code 40 = .ok (.getfield 62, 3) := by decide +kernel
theorem dM_not_43 : decode prog_7_method_31_code 43 = .ok (.iload_n 2, 1) := by decide +kernel
theorem dM_not_44 : decode prog_7_method_31_code 44 = .ok (.laload, 1) := by decide +kernel
theorem dM_not_45 : decode prog_7_method_31_code 45 = .ok (.invokevirtual 207, 3) := by decide +kernel
theorem dM_not_48 : decode prog_7_method_31_code 48 = .ok (.ireturn, 1) := by decide +kernel
theorem dM_not_49 : decode prog_7_method_31_code 49 = .ok (.aload_n 0, 1) := by decide +kernel
theorem dM_not_50 : decode prog_7_method_31_code 50 = .ok (.getfield 68, 3) := by decide +kernel
theorem dM_not_53 : decode prog_7_method_31_code 53 = .ok (.iload_n 3, 1) := by decide +kernel
theorem dM_not_54 : decode prog_7_method_31_code 54 = .ok (.baload, 1) := by decide +kernel
theorem dM_not_55 : decode prog_7_method_31_code 55 = .ok (.ifCond .ne 10, 3) := by decide +kernel
theorem dM_not_58 : decode prog_7_method_31_code 58 = .ok (.aload_n 0, 1) := by decide +kernel
theorem dM_not_59 : decode prog_7_method_31_code 59 = .ok (.getfield 84, 3) := by decide +kernel
theorem dM_not_62 : decode prog_7_method_31_code 62 = .ok (.iload_n 2, 1) := by decide +kernel
theorem dM_not_63 : decode prog_7_method_31_code 63 = .ok (.iload_n 3, 1) := by decide +kernel
theorem dM_not_64 : decode prog_7_method_31_code 64 = .ok (.iastore, 1) := by decide +kernel
theorem dM_not_65 : decode prog_7_method_31_code 65 = .ok (.aload_n 0, 1) := by decide +kernel
theorem dM_not_66 : decode prog_7_method_31_code 66 = .ok (.iload_n 2, 1) := by decide +kernel
theorem dM_not_67 : decode prog_7_method_31_code 67 = .ok (.aload_n 0, 1) := by decide +kernel
theorem dM_not_68 : decode prog_7_method_31_code 68 = .ok (.getfield 68, 3) := by decide +kernel
theorem dM_not_71 : decode prog_7_method_31_code 71 = .ok (.iload_n 3, 1) := by decide +kernel
theorem dM_not_72 : decode prog_7_method_31_code 72 = .ok (.baload, 1) := by decide +kernel
theorem dM_not_73 : decode prog_7_method_31_code 73 = .ok (.ifCond .eq 36, 3) := by decide +kernel
theorem dM_not_76 : decode prog_7_method_31_code 76 = .ok (.aload_n 0, 1) := by decide +kernel
theorem dM_not_77 : decode prog_7_method_31_code 77 = .ok (.getfield 65, 3) := by decide +kernel
theorem dM_not_80 : decode prog_7_method_31_code 80 = .ok (.iload_n 3, 1) := by decide +kernel
theorem dM_not_81 : decode prog_7_method_31_code 81 = .ok (.laload, 1) := by decide +kernel
theorem dM_not_82 : decode prog_7_method_31_code 82 = .ok (.aload_n 0, 1) := by decide +kernel
theorem dM_not_83 : decode prog_7_method_31_code 83 = .ok (.getfield 62, 3) := by decide +kernel
theorem dM_not_86 : decode prog_7_method_31_code 86 = .ok (.iload_n 2, 1) := by decide +kernel
theorem dM_not_87 : decode prog_7_method_31_code 87 = .ok (.laload, 1) := by decide +kernel
theorem dM_not_88 : decode prog_7_method_31_code 88 = .ok (.ldc2_w 215, 3) := by decide +kernel
theorem dM_not_91 : decode prog_7_method_31_code 91 = .ok (.lxor, 1) := by decide +kernel
theorem dM_not_92 : decode prog_7_method_31_code 92 = .ok (.land, 1) := by decide +kernel
theorem dM_not_93 : decode prog_7_method_31_code 93 = .ok (.aload_n 0, 1) := by decide +kernel
theorem dM_not_94 : decode prog_7_method_31_code 94 = .ok (.getfield 55, 3) := by decide +kernel
theorem dM_not_97 : decode prog_7_method_31_code 97 = .ok (.iload_n 2, 1) := by decide +kernel
theorem dM_not_98 : decode prog_7_method_31_code 98 = .ok (.laload, 1) := by decide +kernel
theorem dM_not_99 : decode prog_7_method_31_code 99 = .ok (.land, 1) := by decide +kernel
theorem dM_not_100 : decode prog_7_method_31_code 100 = .ok (.lconst 0, 1) := by decide +kernel
theorem dM_not_101 : decode prog_7_method_31_code 101 = .ok (.lcmp, 1) := by decide +kernel
theorem dM_not_102 : decode prog_7_method_31_code 102 = .ok (.ifCond .ne 7, 3) := by decide +kernel
theorem dM_not_105 : decode prog_7_method_31_code 105 = .ok (.iconst 1, 1) := by decide +kernel
theorem dM_not_106 : decode prog_7_method_31_code 106 = .ok (.goto 4, 3) := by decide +kernel
theorem dM_not_109 : decode prog_7_method_31_code 109 = .ok (.iconst 0, 1) := by decide +kernel
theorem dM_not_110 : decode prog_7_method_31_code 110 = .ok (.aload_n 0, 1) := by decide +kernel
theorem dM_not_111 : decode prog_7_method_31_code 111 = .ok (.getfield 62, 3) := by decide +kernel
theorem dM_not_114 : decode prog_7_method_31_code 114 = .ok (.iload_n 2, 1) := by decide +kernel
theorem dM_not_115 : decode prog_7_method_31_code 115 = .ok (.laload, 1) := by decide +kernel
theorem dM_not_116 : decode prog_7_method_31_code 116 = .ok (.invokevirtual 211, 3) := by decide +kernel
theorem dM_not_119 : decode prog_7_method_31_code 119 = .ok (.iconst 1, 1) := by decide +kernel
theorem dM_not_120 : decode prog_7_method_31_code 120 = .ok (.ireturn, 1) := by decide +kernel
theorem dM_order_0 : decode prog_7_method_34_code 0 = .ok (.aload_n 0, 1) := by decide +kernel
theorem dM_order_1 : decode prog_7_method_34_code 1 = .ok (.iconst 0, 1) := by decide +kernel
theorem dM_order_2 : decode prog_7_method_34_code 2 = .ok (.putfield 115, 3) := by decide +kernel
theorem dM_order_5 : decode prog_7_method_34_code 5 = .ok (.aload_n 0, 1) := by decide +kernel
theorem dM_order_6 : decode prog_7_method_34_code 6 = .ok (.invokevirtual 135, 3) := by decide +kernel
theorem dM_order_9 : decode prog_7_method_34_code 9 = .ok (.aload_n 0, 1) := by decide +kernel
theorem dM_order_10 : decode prog_7_method_34_code 10 = .ok (.invokevirtual 217, 3) := by decide +kernel
theorem dM_order_13 : decode prog_7_method_34_code 13 = .ok (.aload_n 0, 1) := by decide +kernel
theorem dM_order_14 : decode prog_7_method_34_code 14 = .ok (.iconst 0, 1) := by decide +kernel
theorem dM_order_15 : decode prog_7_method_34_code 15 = .ok (.putfield 193, 3) := by decide +kernel
theorem dM_order_18 : decode prog_7_method_34_code 18 = .ok (.aload_n 0, 1) := by decide +kernel
theorem dM_order_19 : decode prog_7_method_34_code 19 = .ok (.iconst 0, 1) := by decide +kernel
theorem dM_order_20 : decode prog_7_method_34_code 20 = .ok (.putfield 186, 3) := by decide +kernel
theorem dM_order_23 : decode prog_7_method_34_code 23 = .ok (.aload_n 0, 1) := by decide +kernel
theorem dM_order_24 : decode prog_7_method_34_code 24 = .ok (.iconst 0, 1) := by decide +kernel
theorem dM_order_25 : decode prog_7_method_34_code 25 = .ok (.aload_n 0, 1) := by decide +kernel
theorem dM_order_26 : decode prog_7_method_34_code 26 = .ok (.getfield 124, 3) := by decide +kernel
theorem dM_order_29 : decode prog_7_method_34_code 29 = .ok (.invokevirtual 207, 3) := by decide +kernel
theorem dM_order_32 : decode prog_7_method_34_code 32 = .ok (.istore_n 1, 1) := by decide +kernel
theorem dM_order_33 : decode prog_7_method_34_code 33 = .ok (.iload_n 1, 1) := by decide +kernel
theorem dM_order_34 : decode prog_7_method_34_code 34 = .ok (.ifCond .eq 18, 3) := by decide +kernel
theorem dM_order_37 : decode prog_7_method_34_code 37 = .ok (.aload_n 0, 1) := by decide +kernel
theorem dM_order_38 : decode prog_7_method_34_code 38 = .ok (.getfield 193, 3) := by decide +kernel
theorem dM_order_41 : decode prog_7_method_34_code 41 = .ok (.ifCond .le 11, 3) := by decide +kernel
theorem dM_order_44 : decode prog_7_method_34_code 44 = .ok (.aload_n 0, 1) := by decide +kernel
theorem dM_order_45 : decode prog_7_method_34_code 45 = .ok (.invokevirtual 220, 3) := by decide +kernel
theorem dM_order_48 : decode prog_7_method_34_code 48 = .ok (.istore_n 1, 1) := by decide +kernel
theorem dM_order_49 : decode prog_7_method_34_code 49 = .ok (.goto (-16), 3) := by decide +kernel
theorem dM_order_52 : decode prog_7_method_34_code 52 = .ok (.iload_n 1, 1) := by decide +kernel
theorem dM_order_53 : decode prog_7_method_34_code 53 = .ok (.ifCond .ne 5, 3) := by decide +kernel
theorem dM_order_56 : decode prog_7_method_34_code 56 = .ok (.iconst 3, 1) := by decide +kernel
theorem dM_order_57 : decode prog_7_method_34_code 57 = .ok (.ireturn, 1) := by decide +kernel
theorem dM_order_58 : decode prog_7_method_34_code 58 = .ok (.aload_n 0, 1) := by decide +kernel
theorem dM_order_59 : decode prog_7_method_34_code 59 = .ok (.getfield 68, 3) := by decide +kernel
theorem dM_order_62 : decode prog_7_method_34_code 62 = .ok (.iconst 0, 1) := by decide +kernel
theorem dM_order_63 : decode prog_7_method_34_code 63 = .ok (.baload, 1) := by decide +kernel
theorem dM_order_64 : decode prog_7_method_34_code 64 = .ok (.ifCond .ne 13, 3) := by decide +kernel
theorem dM_order_67 : decode prog_7_method_34_code 67 = .ok (.aload_n 0, 1) := by decide +kernel
theorem dM_order_68 : decode prog_7_method_34_code 68 = .ok (.aload_n 0, 1) := by decide +kernel
theorem dM_order_69 : decode prog_7_method_34_code 69 = .ok (.invokevirtual 224, 3) := by decide +kernel
theorem dM_order_72 : decode prog_7_method_34_code 72 = .ok (.putfield 108, 3) := by decide +kernel
theorem dM_order_75 : decode prog_7_method_34_code 75 = .ok (.iconst 1, 1) := by decide +kernel
theorem dM_order_76 : decode prog_7_method_34_code 76 = .ok (.ireturn, 1) := by decide +kernel
theorem dM_order_77 : decode prog_7_method_34_code 77 = .ok (.iconst 0, 1) := by decide +kernel
theorem dM_order_78 : decode prog_7_method_34_code 78 = .ok (.istore_n 2, 1) := by decide +kernel
theorem dM_order_79 : decode prog_7_method_34_code 79 = .ok (.iload_n 2, 1) := by decide +kernel
theorem dM_order_80 : decode prog_7_method_34_code 80 = .ok (.bipush 60, 2) := by decide +kernel
theorem dM_order_82 : decode prog_7_method_34_code 82 = .ok (.if_icmp .ge 42, 3) := by decide +kernel
theorem dM_order_85 : decode prog_7_method_34_code 85 = .ok (.aload_n 0, 1) := by decide +kernel
theorem dM_order_86 : decode prog_7_method_34_code 86 = .ok (.aload_n 0, 1) := by decide +kernel
theorem dM_order_87 : decode prog_7_method_34_code 87 = .ok (.getfield 128, 3) := by decide +kernel
theorem dM_order_90 : decode prog_7_method_34_code 90 = .ok (.iload_n 2, 1) := by decide +kernel
theorem dM_order_91 : decode prog_7_method_34_code 91 = .ok (.invokevirtual 163, 3) := by decide +kernel
theorem dM_order_94 : decode prog_7_method_34_code 94 = .ok (.ifCond .eq 24, 3) := by decide +kernel
theorem dM_order_97 : decode prog_7_method_34_code 97 = .ok (.aload_n 0, 1) := by decide +kernel
theorem dM_order_98 : decode prog_7_method_34_code 98 = .ok (.aload_n 0, 1) := by decide +kernel
theorem dM_order_99 : decode prog_7_method_34_code 99 = .ok (.getfield 65, 3) := by decide +kernel
theorem dM_order_102 : decode prog_7_method_34_code 102 = .ok (.iconst 0, 1) := by decide +kernel
theorem dM_order_103 : decode prog_7_method_34_code 103 = .ok (.laload, 1) := by decide +kernel
theorem dM_order_104 : decode prog_7_method_34_code 104 = .ok (.iload_n 2, 1) := by decide +kernel
theorem dM_order_105 : decode prog_7_method_34_code 105 = .ok (.invokevirtual 163, 3) := by decide +kernel
theorem dM_order_108 : decode prog_7_method_34_code 108 = .ok (.ifCond .ne 10, 3) := by decide +kernel
theorem dM_order_111 : decode prog_7_method_34_code 111 = .ok (.aload_n 0, 1) := by decide +kernel
theorem dM_order_112 : decode prog_7_method_34_code 112 = .ok (.iload_n 2, 1) := by decide +kernel
theorem dM_order_113 : decode prog_7_method_34_code 113 = .ok (.putfield 108, 3) := by decide +kernel
theorem dM_order_116 : decode prog_7_method_34_code 116 = .ok (.iconst 2, 1) := by decide +kernel
theorem dM_order_117 : decode prog_7_method_34_code 117 = .ok (.ireturn, 1) := by decide +kernel
theorem dM_order_118 : decode prog_7_method_34_code 118 = .ok (.iinc 2 1, 3) := by decide +kernel
theorem dM_order_121 : decode prog_7_method_34_code 121 = .ok (.goto (-42), 3) := by decide +kernel
theorem dM_order_124 : decode prog_7_method_34_code 124 = .ok (.aload_n 0, 1) := by decide +kernel
theorem dM_order_125 : decode prog_7_method_34_code 125 = .ok (.iconst 1, 1) := by decide +kernel
theorem dM_order_126 : decode prog_7_method_34_code 126 = .ok (.putfield 138, 3) := by decide +kernel
theorem dM_order_129 : decode prog_7_method_34_code 129 = .ok (.iconst 0, 1) := by decide +kernel
theorem dM_order_130 : decode prog_7_method_34_code 130 = .ok (.ireturn, 1) := by decide +kernel
theorem dM_outer_0 : decode prog_7_method_40_code 0 = .ok (.aload_n 0, 1) := by decide +kernel
theorem dM_outer_1 : decode prog_7_method_40_code 1 = .ok (.iconst 0, 1) := by decide +kernel
theorem dM_outer_2 : decode prog_7_method_40_code 2 = .ok (.putfield 115, 3) := by decide +kernel
theorem dM_outer_5 : decode prog_7_method_40_code 5 = .ok (.aload_n 0, 1) := by decide +kernel
theorem dM_outer_6 : decode prog_7_method_40_code 6 = .ok (.iload_n 1, 1) := by decide +kernel
theorem dM_outer_7 : decode prog_7_method_40_code 7 = .ok (.invokevirtual 149, 3) := by decide +kernel
theorem dM_outer_10 : decode prog_7_method_40_code 10 = .ok (.ifCond .eq 10, 3) := by decide +kernel
theorem dM_outer_13 : decode prog_7_method_40_code 13 = .ok (.iload_n 2, 1) := by decide +kernel
theorem dM_outer_14 : decode prog_7_method_40_code 14 = .ok (.invokestatic 145, 3) := by decide +kernel
theorem dM_outer_17 : decode prog_7_method_40_code 17 = .ok (.ifCond .ne 5, 3) := by decide +kernel
theorem dM_outer_20 : decode prog_7_method_40_code 20 = .ok (.iconst 0, 1) := by decide +kernel
theorem dM_outer_21 : decode prog_7_method_40_code 21 = .ok (.ireturn, 1) := by decide +kernel
theorem dM_outer_22 : decode prog_7_method_40_code 22 = .ok (.aload_n 0, 1) := by decide +kernel
theorem dM_outer_23 : decode prog_7_method_40_code 23 = .ok (.invokevirtual 217, 3) := by decide +kernel
theorem dM_outer_26 : decode prog_7_method_40_code 26 = .ok (.aload_n 0, 1) := by decide +kernel
theorem dM_outer_27 : decode prog_7_method_40_code 27 = .ok (.aload_n 0, 1) := by decide +kernel
theorem dM_outer_28 : decode prog_7_method_40_code 28 = .ok (.getfield 55, 3) := by decide +kernel
theorem dM_outer_31 : decode prog_7_method_40_code 31 = .ok (.iload_n 1, 1) := by decide +kernel
theorem dM_outer_32 : decode prog_7_method_40_code 32 = .ok (.laload, 1) := by decide +kernel
theorem dM_outer_33 : decode prog_7_method_40_code 33 = .ok (.iload_n 2, 1) := by decide +kernel
theorem dM_outer_34 : decode prog_7_method_40_code 34 = .ok (.invokevirtual 163, 3) := by decide +kernel
theorem dM_outer_37 : decode prog_7_method_40_code 37 = .ok (.ireturn, 1) := by decide +kernel
theorem dM_part_0 : decode prog_7_method_36_code 0 = .ok (.aload_n 0, 1) := by decide +kernel
theorem dM_part_1 : decode prog_7_method_36_code 1 = .ok (.iconst 0, 1) := by decide +kernel
theorem dM_part_2 : decode prog_7_method_36_code 2 = .ok (.putfield 115, 3) := by decide +kernel
theorem dM_part_5 : decode prog_7_method_36_code 5 = .ok (.aload_n 0, 1) := by decide +kernel
theorem dM_part_6 : decode prog_7_method_36_code 6 = .ok (.getfield 138, 3) := by decide +kernel
theorem dM_part_9 : decode prog_7_method_36_code 9 = .ok (.ifCond .eq 25, 3) := by decide +kernel
theorem dM_part_12 : decode prog_7_method_36_code 12 = .ok (.aload_n 0, 1) := by decide +kernel
theorem dM_part_13 : decode prog_7_method_36_code 13 = .ok (.iload_n 1, 1) := by decide +kernel
theorem dM_part_14 : decode prog_7_method_36_code 14 = .ok (.invokevirtual 149, 3) := by decide +kernel
theorem dM_part_17 : decode prog_7_method_36_code 17 = .ok (.ifCond .eq 17, 3) := by decide +kernel
theorem dM_part_20 : decode prog_7_method_36_code 20 = .ok (.iload_n 2, 1) := by decide +kernel
theorem dM_part_21 : decode prog_7_method_36_code 21 = .ok (.ifCond .lt 13, 3) := by decide +kernel
theorem dM_part_24 : decode prog_7_method_36_code 24 = .ok (.iload_n 2, 1) := by decide +kernel
theorem dM_part_25 : decode prog_7_method_36_code 25 = .ok (.aload_n 0, 1) := by decide +kernel
theorem dM_part_26 : decode prog_7_method_36_code 26 = .ok (.getfield 28, 3) := by decide +kernel
theorem dM_part_29 : decode prog_7_method_36_code 29 = .ok (.iload_n 1, 1) := by decide +kernel
theorem dM_part_30 : decode prog_7_method_36_code 30 = .ok (.iaload, 1) := by decide +kernel
theorem dM_part_31 : decode prog_7_method_36_code 31 = .ok (.if_icmp .lt 5, 3) := by decide +kernel
theorem dM_part_34 : decode prog_7_method_36_code 34 = .ok (.iconst (-1), 1) := by decide +kernel
theorem dM_part_35 : decode prog_7_method_36_code 35 = .ok (.ireturn, 1) := by decide +kernel
theorem dM_part_36 : decode prog_7_method_36_code 36 = .ok (.aload_n 0, 1) := by decide +kernel
theorem dM_part_37 : decode prog_7_method_36_code 37 = .ok (.getfield 31, 3) := by decide +kernel
theorem dM_part_40 : decode prog_7_method_36_code 40 = .ok (.iload_n 1, 1) := by decide +kernel
theorem dM_part_41 : decode prog_7_method_36_code 41 = .ok (.iaload, 1) := by decide +kernel
theorem dM_part_42 : decode prog_7_method_36_code 42 = .ok (.istore_n 3, 1) := by decide +kernel
theorem dM_part_43 : decode prog_7_method_36_code 43 = .ok (.aload_n 0, 1) := by decide +kernel
theorem dM_part_44 : decode prog_7_method_36_code 44 = .ok (.getfield 19, 3) := by decide +kernel
theorem dM_part_47 : decode prog_7_method_36_code 47 = .ok (.iload_n 1, 1) := by decide +kernel
theorem dM_part_48 : decode prog_7_method_36_code 48 = .ok (.iaload, 1) := by decide +kernel
theorem dM_part_49 : decode prog_7_method_36_code 49 = .ok (.ifCond .ne 25, 3) := by decide +kernel
theorem dM_part_52 : decode prog_7_method_36_code 52 = .ok (.aload_n 0, 1) := by decide +kernel
theorem dM_part_53 : decode prog_7_method_36_code 53 = .ok (.getfield 75, 3) := by decide +kernel
theorem dM_part_56 : decode prog_7_method_36_code 56 = .ok (.iload_n 3, 1) := by decide +kernel
theorem dM_part_57 : decode prog_7_method_36_code 57 = .ok (.iaload, 1) := by decide +kernel
theorem dM_part_58 : decode prog_7_method_36_code 58 = .ok (.iload_n 2, 1) := by decide +kernel
theorem dM_part_59 : decode prog_7_method_36_code 59 = .ok (.if_icmp .eq 13, 3) := by decide +kernel
theorem dM_part_62 : decode prog_7_method_36_code 62 = .ok (.aload_n 0, 1) := by decide +kernel
theorem dM_part_63 : decode prog_7_method_36_code 63 = .ok (.getfield 37, 3) := by decide +kernel
theorem dM_part_66 : decode prog_7_method_36_code 66 = .ok (.iload_n 3, 1) := by decide +kernel
theorem dM_part_67 : decode prog_7_method_36_code 67 = .ok (.iaload, 1) := by decide +kernel
theorem dM_part_68 : decode prog_7_method_36_code 68 = .ok (.istore_n 3, 1) := by decide +kernel
theorem dM_part_69 : decode prog_7_method_36_code 69 = .ok (.goto (-17), 3) := by decide +kernel
theorem dM_part_72 : decode prog_7_method_36_code 72 = .ok (.iload_n 3, 1) := by decide +kernel
theorem dM_part_73 : decode prog_7_method_36_code 73 = .ok (.ireturn, 1) := by decide +kernel
theorem dM_part_74 : decode prog_7_method_36_code 74 = .ok (.iconst 0, 1) := by decide +kernel
theorem dM_part_75 : decode prog_7_method_36_code 75 = .ok (.istore 4, 2) := by decide +kernel
theorem dM_part_77 : decode prog_7_method_36_code 77 = .ok (.iload 4, 2) := by decide +kernel
theorem dM_part_79 : decode prog_7_method_36_code 79 = .ok (.iload_n 2, 1) := by decide +kernel
theorem dM_part_80 : decode prog_7_method_36_code 80 = .ok (.if_icmp .ge 16, 3) := by decide +kernel
theorem dM_part_83 : decode prog_7_method_36_code 83 = .ok (.aload_n 0, 1) := by decide +kernel
theorem dM_part_84 : decode prog_7_method_36_code 84 = .ok (.getfield 37, 3) := by decide +kernel
theorem dM_part_87 : decode prog_7_method_36_code 87 = .ok (.iload_n 3, 1) := by decide +kernel
theorem dM_part_88 : decode prog_7_method_36_code 88 = .ok (.iaload, 1) := by decide +kernel
theorem dM_part_89 : decode prog_7_method_36_code 89 = .ok (.istore_n 3, 1) := by decide +kernel
theorem dM_part_90 : decode prog_7_method_36_code 90 = .ok (.iinc 4 1, 3) := by decide +kernel
theorem dM_part_93 : decode prog_7_method_36_code 93 = .ok (.goto (-16), 3) := by decide +kernel
theorem dM_part_96 : decode prog_7_method_36_code 96 = .ok (.iload_n 3, 1) := by decide +kernel
theorem dM_part_97 : decode prog_7_method_36_code 97 = .ok (.ireturn, 1) := by decide +kernel
theorem dM_predicate_0 : decode prog_7_method_5_code 0 = .ok (.aload_n 0, 1) := by decide +kernel
theorem dM_predicate_1 : decode prog_7_method_5_code 1 = .ok (.iconst 0, 1) := by decide +kernel
theorem dM_predicate_2 : decode prog_7_method_5_code 2 = .ok (.putfield 115, 3) := by decide +kernel
theorem dM_predicate_5 : decode prog_7_method_5_code 5 = .ok (.aload_n 0, 1) := by decide +kernel
theorem dM_predicate_6 : decode prog_7_method_5_code 6 = .ok (.getfield 142, 3) := by decide +kernel
theorem dM_predicate_9 : decode prog_7_method_5_code 9 = .ok (.bipush 60, 2) := by decide +kernel
theorem dM_predicate_11 : decode prog_7_method_5_code 11 = .ok (.if_icmp .eq 13, 3) := by decide +kernel
theorem dM_predicate_14 : decode prog_7_method_5_code 14 = .ok (.iload_n 1, 1) := by decide +kernel
theorem dM_predicate_15 : decode prog_7_method_5_code 15 = .ok (.ifCond .lt 9, 3) := by decide +kernel
theorem dM_predicate_18 : decode prog_7_method_5_code 18 = .ok (.iload_n 1, 1) := by decide +kernel
theorem dM_predicate_19 : decode prog_7_method_5_code 19 = .ok (.bipush 6, 2) := by decide +kernel
theorem dM_predicate_21 : decode prog_7_method_5_code 21 = .ok (.if_icmp .le 5, 3) := by decide +kernel
theorem dM_predicate_24 : decode prog_7_method_5_code 24 = .ok (.iconst (-1), 1) := by decide +kernel
theorem dM_predicate_25 : decode prog_7_method_5_code 25 = .ok (.ireturn, 1) := by decide +kernel
theorem dM_predicate_26 : decode prog_7_method_5_code 26 = .ok (.aload_n 0, 1) := by decide +kernel
theorem dM_predicate_27 : decode prog_7_method_5_code 27 = .ok (.getfield 7, 3) := by decide +kernel
theorem dM_predicate_30 : decode prog_7_method_5_code 30 = .ok (.aload_n 0, 1) := by decide +kernel
theorem dM_predicate_31 : decode prog_7_method_5_code 31 = .ok (.getfield 142, 3) := by decide +kernel
theorem dM_predicate_34 : decode prog_7_method_5_code 34 = .ok (.iload_n 1, 1) := by decide +kernel
theorem dM_predicate_35 : decode prog_7_method_5_code 35 = .ok (.iastore, 1) := by decide +kernel
theorem dM_predicate_36 : decode prog_7_method_5_code 36 = .ok (.aload_n 0, 1) := by decide +kernel
theorem dM_predicate_37 : decode prog_7_method_5_code 37 = .ok (.getfield 13, 3) := by decide +kernel
theorem dM_predicate_40 : decode prog_7_method_5_code 40 = .ok (.aload_n 0, 1) := by decide +kernel
theorem dM_predicate_41 : decode prog_7_method_5_code 41 = .ok (.getfield 142, 3) := by decide +kernel
theorem dM_predicate_44 : decode prog_7_method_5_code 44 = .ok (.iconst 0, 1) := by decide +kernel
theorem dM_predicate_45 : decode prog_7_method_5_code 45 = .ok (.iastore, 1) := by decide +kernel
theorem dM_predicate_46 : decode prog_7_method_5_code 46 = .ok (.aload_n 0, 1) := by decide +kernel
theorem dM_predicate_47 : decode prog_7_method_5_code 47 = .ok (.dup, 1) := by decide +kernel
theorem dM_predicate_48 : decode prog_7_method_5_code 48 = .ok (.getfield 142, 3) := by decide +kernel
theorem dM_predicate_51 : decode prog_7_method_5_code 51 = .ok (.iconst 1, 1) := by decide +kernel
theorem dM_predicate_52 : decode prog_7_method_5_code 52 = .ok (.iadd, 1) := by decide +kernel
theorem dM_predicate_53 : decode prog_7_method_5_code 53 = .ok (.putfield 142, 3) := by decide +kernel
theorem dM_predicate_56 : decode prog_7_method_5_code 56 = .ok (.aload_n 0, 1) := by decide +kernel
theorem dM_predicate_57 : decode prog_7_method_5_code 57 = .ok (.getfield 142, 3) := by decide +kernel
theorem dM_predicate_60 : decode prog_7_method_5_code 60 = .ok (.iconst 1, 1) := by decide +kernel
theorem dM_predicate_61 : decode prog_7_method_5_code 61 = .ok (.isub, 1) := by decide +kernel
theorem dM_predicate_62 : decode prog_7_method_5_code 62 = .ok (.ireturn, 1) := by decide +kernel
theorem dM_put_0 : decode prog_7_method_9_code 0 = .ok (.aload_n 0, 1) := by decide +kernel
theorem dM_put_1 : decode prog_7_method_9_code 1 = .ok (.iconst 0, 1) := by decide +kernel
theorem dM_put_2 : decode prog_7_method_9_code 2 = .ok (.putfield 115, 3) := by decide +kernel
theorem dM_put_5 : decode prog_7_method_9_code 5 = .ok (.aload_n 0, 1) := by decide +kernel
theorem dM_put_6 : decode prog_7_method_9_code 6 = .ok (.getfield 121, 3) := by decide +kernel
theorem dM_put_9 : decode prog_7_method_9_code 9 = .ok (.bipush 7, 2) := by decide +kernel
theorem dM_put_11 : decode prog_7_method_9_code 11 = .ok (.if_icmp .eq 10, 3) := by decide +kernel
theorem dM_put_14 : decode prog_7_method_9_code 14 = .ok (.iload_n 1, 1) := by decide +kernel
theorem dM_put_15 : decode prog_7_method_9_code 15 = .ok (.invokestatic 145, 3) := by decide +kernel
theorem dM_put_18 : decode prog_7_method_9_code 18 = .ok (.ifCond .ne 5, 3) := by decide +kernel
theorem dM_put_21 : decode prog_7_method_9_code 21 = .ok (.iconst 0, 1) := by decide +kernel
theorem dM_put_22 : decode prog_7_method_9_code 22 = .ok (.ireturn, 1) := by decide +kernel
theorem dM_put_23 : decode prog_7_method_9_code 23 = .ok (.aload_n 0, 1) := by decide +kernel
theorem dM_put_24 : decode prog_7_method_9_code 24 = .ok (.getfield 49, 3) := by decide +kernel
theorem dM_put_27 : decode prog_7_method_9_code 27 = .ok (.aload_n 0, 1) := by decide +kernel
theorem dM_put_28 : decode prog_7_method_9_code 28 = .ok (.getfield 121, 3) := by decide +kernel
theorem dM_put_31 : decode prog_7_method_9_code 31 = .ok (.iload_n 1, 1) := by decide +kernel
theorem dM_put_32 : decode prog_7_method_9_code 32 = .ok (.iastore, 1) := by decide +kernel
theorem dM_put_33 : decode prog_7_method_9_code 33 = .ok (.aload_n 0, 1) := by decide +kernel
theorem dM_put_34 : decode prog_7_method_9_code 34 = .ok (.dup, 1) := by decide +kernel
theorem dM_put_35 : decode prog_7_method_9_code 35 = .ok (.getfield 121, 3) := by decide +kernel
theorem dM_put_38 : decode prog_7_method_9_code 38 = .ok (.iconst 1, 1) := by decide +kernel
theorem dM_put_39 : decode prog_7_method_9_code 39 = .ok (.iadd, 1) := by decide +kernel
theorem dM_put_40 : decode prog_7_method_9_code 40 = .ok (.putfield 121, 3) := by decide +kernel
theorem dM_put_43 : decode prog_7_method_9_code 43 = .ok (.iconst 1, 1) := by decide +kernel
theorem dM_put_44 : decode prog_7_method_9_code 44 = .ok (.ireturn, 1) := by decide +kernel
end
section
theorem dM_row_0 : decode prog_7_method_29_code 0 = .ok (.aload_n 0, 1) := by decide +kernel
theorem dM_row_1 : decode prog_7_method_29_code 1 = .ok (.getfield 90, 3) := by decide +kernel
theorem dM_row_4 : decode prog_7_method_29_code 4 = .ok (.iload_n 1, 1) := by decide +kernel
theorem dM_row_5 : decode prog_7_method_29_code 5 = .ok (.iaload, 1) := by decide +kernel
theorem dM_row_6 : decode prog_7_method_29_code 6 = .ok (.ifCond .ne 73, 3) := by decide +kernel
theorem dM_row_9 : decode prog_7_method_29_code 9 = .ok (.aload_n 0, 1) := by decide +kernel
theorem dM_row_10 : decode prog_7_method_29_code 10 = .ok (.getfield 31, 3) := by decide +kernel
theorem dM_row_13 : decode prog_7_method_29_code 13 = .ok (.iload_n 2, 1) := by decide +kernel
theorem dM_row_14 : decode prog_7_method_29_code 14 = .ok (.iaload, 1) := by decide +kernel
theorem dM_row_15 : decode prog_7_method_29_code 15 = .ok (.istore_n 3, 1) := by decide +kernel
theorem dM_row_16 : decode prog_7_method_29_code 16 = .ok (.iload_n 3, 1) := by decide +kernel
theorem dM_row_17 : decode prog_7_method_29_code 17 = .ok (.iconst (-1), 1) := by decide +kernel
theorem dM_row_18 : decode prog_7_method_29_code 18 = .ok (.if_icmp .eq 20, 3) := by decide +kernel
theorem dM_row_21 : decode prog_7_method_29_code 21 = .ok (.aload_n 0, 1) := by decide +kernel
theorem dM_row_22 : decode prog_7_method_29_code 22 = .ok (.getfield 72, 3) := by decide +kernel
theorem dM_row_25 : decode prog_7_method_29_code 25 = .ok (.iload_n 3, 1) := by decide +kernel
theorem dM_row_26 : decode prog_7_method_29_code 26 = .ok (.iconst 0, 1) := by decide +kernel
theorem dM_row_27 : decode prog_7_method_29_code 27 = .ok (.bastore, 1) := by decide +kernel
theorem dM_row_28 : decode prog_7_method_29_code 28 = .ok (.aload_n 0, 1) := by decide +kernel
theorem dM_row_29 : decode prog_7_method_29_code 29 = .ok (.getfield 37, 3) := by decide +kernel
theorem dM_row_32 : decode prog_7_method_29_code 32 = .ok (.iload_n 3, 1) := by decide +kernel
theorem dM_row_33 : decode prog_7_method_29_code 33 = .ok (.iaload, 1) := by decide +kernel
theorem dM_row_34 : decode prog_7_method_29_code 34 = .ok (.istore_n 3, 1) := by decide +kernel
theorem dM_row_35 : decode prog_7_method_29_code 35 = .ok (.goto (-19), 3) := by decide +kernel
theorem dM_row_38 : decode prog_7_method_29_code 38 = .ok (.aload_n 0, 1) := by decide +kernel
theorem dM_row_39 : decode prog_7_method_29_code 39 = .ok (.getfield 90, 3) := by decide +kernel
theorem dM_row_42 : decode prog_7_method_29_code 42 = .ok (.iload_n 1, 1) := by decide +kernel
theorem dM_row_43 : decode prog_7_method_29_code 43 = .ok (.iconst 1, 1) := by decide +kernel
theorem dM_row_44 : decode prog_7_method_29_code 44 = .ok (.iastore, 1) := by decide +kernel
theorem dM_row_45 : decode prog_7_method_29_code 45 = .ok (.aload_n 0, 1) := by decide +kernel
theorem dM_row_46 : decode prog_7_method_29_code 46 = .ok (.getfield 93, 3) := by decide +kernel
theorem dM_row_49 : decode prog_7_method_29_code 49 = .ok (.iload_n 1, 1) := by decide +kernel
theorem dM_row_50 : decode prog_7_method_29_code 50 = .ok (.aload_n 0, 1) := by decide +kernel
theorem dM_row_51 : decode prog_7_method_29_code 51 = .ok (.getfield 31, 3) := by decide +kernel
theorem dM_row_54 : decode prog_7_method_29_code 54 = .ok (.iload_n 2, 1) := by decide +kernel
theorem dM_row_55 : decode prog_7_method_29_code 55 = .ok (.iaload, 1) := by decide +kernel
theorem dM_row_56 : decode prog_7_method_29_code 56 = .ok (.iastore, 1) := by decide +kernel
theorem dM_row_57 : decode prog_7_method_29_code 57 = .ok (.aload_n 0, 1) := by decide +kernel
theorem dM_row_58 : decode prog_7_method_29_code 58 = .ok (.getfield 99, 3) := by decide +kernel
theorem dM_row_61 : decode prog_7_method_29_code 61 = .ok (.iload_n 1, 1) := by decide +kernel
theorem dM_row_62 : decode prog_7_method_29_code 62 = .ok (.aload_n 0, 1) := by decide +kernel
theorem dM_row_63 : decode prog_7_method_29_code 63 = .ok (.getfield 62, 3) := by decide +kernel
theorem dM_row_66 : decode prog_7_method_29_code 66 = .ok (.iload_n 2, 1) := by decide +kernel
theorem dM_row_67 : decode prog_7_method_29_code 67 = .ok (.laload, 1) := by decide +kernel
theorem dM_row_68 : decode prog_7_method_29_code 68 = .ok (.lastore, 1) := by decide +kernel
theorem dM_row_69 : decode prog_7_method_29_code 69 = .ok (.aload_n 0, 1) := by decide +kernel
theorem dM_row_70 : decode prog_7_method_29_code 70 = .ok (.getfield 96, 3) := by decide +kernel
theorem dM_row_73 : decode prog_7_method_29_code 73 = .ok (.iload_n 1, 1) := by decide +kernel
theorem dM_row_74 : decode prog_7_method_29_code 74 = .ok (.iconst 0, 1) := by decide +kernel
theorem dM_row_75 : decode prog_7_method_29_code 75 = .ok (.iastore, 1) := by decide +kernel
theorem dM_row_76 : decode prog_7_method_29_code 76 = .ok (.goto 87, 3) := by decide +kernel
theorem dM_row_79 : decode prog_7_method_29_code 79 = .ok (.aload_n 0, 1) := by decide +kernel
theorem dM_row_80 : decode prog_7_method_29_code 80 = .ok (.getfield 93, 3) := by decide +kernel
theorem dM_row_83 : decode prog_7_method_29_code 83 = .ok (.iload_n 1, 1) := by decide +kernel
theorem dM_row_84 : decode prog_7_method_29_code 84 = .ok (.iaload, 1) := by decide +kernel
theorem dM_row_85 : decode prog_7_method_29_code 85 = .ok (.istore_n 3, 1) := by decide +kernel
theorem dM_row_86 : decode prog_7_method_29_code 86 = .ok (.aload_n 0, 1) := by decide +kernel
theorem dM_row_87 : decode prog_7_method_29_code 87 = .ok (.getfield 68, 3) := by decide +kernel
theorem dM_row_90 : decode prog_7_method_29_code 90 = .ok (.iload_n 3, 1) := by decide +kernel
theorem dM_row_91 : decode prog_7_method_29_code 91 = .ok (.baload, 1) := by decide +kernel
theorem dM_row_92 : decode prog_7_method_29_code 92 = .ok (.ifCond .eq 59, 3) := by decide +kernel
theorem dM_row_95 : decode prog_7_method_29_code 95 = .ok (.aload_n 0, 1) := by decide +kernel
theorem dM_row_96 : decode prog_7_method_29_code 96 = .ok (.getfield 72, 3) := by decide +kernel
theorem dM_row_99 : decode prog_7_method_29_code 99 = .ok (.iload_n 3, 1) := by decide +kernel
theorem dM_row_100 : decode prog_7_method_29_code 100 = .ok (.iconst 1, 1) := by decide +kernel
theorem dM_row_101 : decode prog_7_method_29_code 101 = .ok (.bastore, 1) := by decide +kernel
theorem dM_row_102 : decode prog_7_method_29_code 102 = .ok (.aload_n 0, 1) := by decide +kernel
theorem dM_row_103 : decode prog_7_method_29_code 103 = .ok (.getfield 75, 3) := by decide +kernel
theorem dM_row_106 : decode prog_7_method_29_code 106 = .ok (.iload_n 3, 1) := by decide +kernel
theorem dM_row_107 : decode prog_7_method_29_code 107 = .ok (.aload_n 0, 1) := by decide +kernel
theorem dM_row_108 : decode prog_7_method_29_code 108 = .ok (.getfield 96, 3) := by decide +kernel
theorem dM_row_111 : decode prog_7_method_29_code 111 = .ok (.iload_n 1, 1) := by decide +kernel
theorem dM_row_112 : decode prog_7_method_29_code 112 = .ok (.iaload, 1) := by decide +kernel
theorem dM_row_113 : decode prog_7_method_29_code 113 = .ok (.iastore, 1) := by decide +kernel
theorem dM_row_114 : decode prog_7_method_29_code 114 = .ok (.aload_n 0, 1) := by decide +kernel
theorem dM_row_115 : decode prog_7_method_29_code 115 = .ok (.getfield 96, 3) := by decide +kernel
theorem dM_row_118 : decode prog_7_method_29_code 118 = .ok (.iload_n 1, 1) := by decide +kernel
theorem dM_row_119 : decode prog_7_method_29_code 119 = .ok (.dup2, 1) := by decide +kernel
theorem dM_row_120 : decode prog_7_method_29_code 120 = .ok (.iaload, 1) := by decide +kernel
theorem dM_row_121 : decode prog_7_method_29_code 121 = .ok (.iconst 1, 1) := by decide +kernel
theorem dM_row_122 : decode prog_7_method_29_code 122 = .ok (.iadd, 1) := by decide +kernel
theorem dM_row_123 : decode prog_7_method_29_code 123 = .ok (.iastore, 1) := by decide +kernel
theorem dM_row_124 : decode prog_7_method_29_code 124 = .ok (.aload_n 0, 1) := by decide +kernel
theorem dM_row_125 : decode prog_7_method_29_code 125 = .ok (.getfield 99, 3) := by decide +kernel
theorem dM_row_128 : decode prog_7_method_29_code 128 = .ok (.iload_n 1, 1) := by decide +kernel
theorem dM_row_129 : decode prog_7_method_29_code 129 = .ok (.aload_n 0, 1) := by decide +kernel
theorem dM_row_130 : decode prog_7_method_29_code 130 = .ok (.getfield 65, 3) := by decide +kernel
theorem dM_row_133 : decode prog_7_method_29_code 133 = .ok (.iload_n 3, 1) := by decide +kernel
theorem dM_row_134 : decode prog_7_method_29_code 134 = .ok (.laload, 1) := by decide +kernel
theorem dM_row_135 : decode prog_7_method_29_code 135 = .ok (.lastore, 1) := by decide +kernel
theorem dM_row_136 : decode prog_7_method_29_code 136 = .ok (.aload_n 0, 1) := by decide +kernel
theorem dM_row_137 : decode prog_7_method_29_code 137 = .ok (.getfield 93, 3) := by decide +kernel
theorem dM_row_140 : decode prog_7_method_29_code 140 = .ok (.iload_n 1, 1) := by decide +kernel
theorem dM_row_141 : decode prog_7_method_29_code 141 = .ok (.aload_n 0, 1) := by decide +kernel
theorem dM_row_142 : decode prog_7_method_29_code 142 = .ok (.getfield 31, 3) := by decide +kernel
theorem dM_row_145 : decode prog_7_method_29_code 145 = .ok (.iload_n 2, 1) := by decide +kernel
theorem dM_row_146 : decode prog_7_method_29_code 146 = .ok (.iaload, 1) := by decide +kernel
theorem dM_row_147 : decode prog_7_method_29_code 147 = .ok (.iastore, 1) := by decide +kernel
theorem dM_row_148 : decode prog_7_method_29_code 148 = .ok (.goto 15, 3) := by decide +kernel
theorem dM_row_151 : decode prog_7_method_29_code 151 = .ok (.aload_n 0, 1) := by decide +kernel
theorem dM_row_152 : decode prog_7_method_29_code 152 = .ok (.getfield 93, 3) := by decide +kernel
theorem dM_row_155 : decode prog_7_method_29_code 155 = .ok (.iload_n 1, 1) := by decide +kernel
theorem dM_row_156 : decode prog_7_method_29_code 156 = .ok (.aload_n 0, 1) := by decide +kernel
theorem dM_row_157 : decode prog_7_method_29_code 157 = .ok (.getfield 37, 3) := by decide +kernel
theorem dM_row_160 : decode prog_7_method_29_code 160 = .ok (.iload_n 3, 1) := by decide +kernel
theorem dM_row_161 : decode prog_7_method_29_code 161 = .ok (.iaload, 1) := by decide +kernel
theorem dM_row_162 : decode prog_7_method_29_code 162 = .ok (.iastore, 1) := by decide +kernel
theorem dM_row_163 : decode prog_7_method_29_code 163 = .ok (.aload_n 0, 1) := by decide +kernel
theorem dM_row_164 : decode prog_7_method_29_code 164 = .ok (.getfield 93, 3) := by decide +kernel
theorem dM_row_167 : decode prog_7_method_29_code 167 = .ok (.iload_n 1, 1) := by decide +kernel
theorem dM_row_168 : decode prog_7_method_29_code 168 = .ok (.iaload, 1) := by decide +kernel
theorem dM_row_169 : decode prog_7_method_29_code 169 = .ok (.iconst (-1), 1) := by decide +kernel
theorem dM_row_170 : decode prog_7_method_29_code 170 = .ok (.if_icmp .eq 37, 3) := by decide +kernel
theorem dM_row_173 : decode prog_7_method_29_code 173 = .ok (.aload_n 0, 1) := by decide +kernel
theorem dM_row_174 : decode prog_7_method_29_code 174 = .ok (.getfield 72, 3) := by decide +kernel
theorem dM_row_177 : decode prog_7_method_29_code 177 = .ok (.aload_n 0, 1) := by decide +kernel
theorem dM_row_178 : decode prog_7_method_29_code 178 = .ok (.getfield 93, 3) := by decide +kernel
theorem dM_row_181 : decode prog_7_method_29_code 181 = .ok (.iload_n 1, 1) := by decide +kernel
theorem dM_row_182 : decode prog_7_method_29_code 182 = .ok (.iaload, 1) := by decide +kernel
theorem dM_row_183 : decode prog_7_method_29_code 183 = .ok (.baload, 1) := by decide +kernel
theorem dM_row_184 : decode prog_7_method_29_code 184 = .ok (.ifCond .eq 23, 3) := by decide +kernel
theorem dM_row_187 : decode prog_7_method_29_code 187 = .ok (.aload_n 0, 1) := by decide +kernel
theorem dM_row_188 : decode prog_7_method_29_code 188 = .ok (.getfield 93, 3) := by decide +kernel
theorem dM_row_191 : decode prog_7_method_29_code 191 = .ok (.iload_n 1, 1) := by decide +kernel
theorem dM_row_192 : decode prog_7_method_29_code 192 = .ok (.aload_n 0, 1) := by decide +kernel
theorem dM_row_193 : decode prog_7_method_29_code 193 = .ok (.getfield 37, 3) := by decide +kernel
theorem dM_row_196 : decode prog_7_method_29_code 196 = .ok (.aload_n 0, 1) := by decide +kernel
theorem dM_row_197 : decode prog_7_method_29_code 197 = .ok (.getfield 93, 3) := by decide +kernel
theorem dM_row_200 : decode prog_7_method_29_code 200 = .ok (.iload_n 1, 1) := by decide +kernel
theorem dM_row_201 : decode prog_7_method_29_code 201 = .ok (.iaload, 1) := by decide +kernel
theorem dM_row_202 : decode prog_7_method_29_code 202 = .ok (.iaload, 1) := by decide +kernel
theorem dM_row_203 : decode prog_7_method_29_code 203 = .ok (.iastore, 1) := by decide +kernel
theorem dM_row_204 : decode prog_7_method_29_code 204 = .ok (.goto (-41), 3) := by decide +kernel
theorem dM_row_207 : decode prog_7_method_29_code 207 = .ok (.aload_n 0, 1) := by decide +kernel
theorem dM_row_208 : decode prog_7_method_29_code 208 = .ok (.getfield 93, 3) := by decide +kernel
theorem dM_row_211 : decode prog_7_method_29_code 211 = .ok (.iload_n 1, 1) := by decide +kernel
theorem dM_row_212 : decode prog_7_method_29_code 212 = .ok (.iaload, 1) := by decide +kernel
theorem dM_row_213 : decode prog_7_method_29_code 213 = .ok (.iconst (-1), 1) := by decide +kernel
theorem dM_row_214 : decode prog_7_method_29_code 214 = .ok (.if_icmp .eq 20, 3) := by decide +kernel
theorem dM_row_217 : decode prog_7_method_29_code 217 = .ok (.aload_n 0, 1) := by decide +kernel
theorem dM_row_218 : decode prog_7_method_29_code 218 = .ok (.aload_n 0, 1) := by decide +kernel
theorem dM_row_219 : decode prog_7_method_29_code 219 = .ok (.getfield 93, 3) := by decide +kernel
theorem dM_row_222 : decode prog_7_method_29_code 222 = .ok (.iload_n 1, 1) := by decide +kernel
theorem dM_row_223 : decode prog_7_method_29_code 223 = .ok (.iaload, 1) := by decide +kernel
theorem dM_row_224 : decode prog_7_method_29_code 224 = .ok (.aload_n 0, 1) := by decide +kernel
theorem dM_row_225 : decode prog_7_method_29_code 225 = .ok (.getfield 99, 3) := by decide +kernel
theorem dM_row_228 : decode prog_7_method_29_code 228 = .ok (.iload_n 1, 1) := by decide +kernel
theorem dM_row_229 : decode prog_7_method_29_code 229 = .ok (.laload, 1) := by decide +kernel
theorem dM_row_230 : decode prog_7_method_29_code 230 = .ok (.invokevirtual 207, 3) := by decide +kernel
theorem dM_row_233 : decode prog_7_method_29_code 233 = .ok (.ireturn, 1) := by decide +kernel
theorem dM_row_234 : decode prog_7_method_29_code 234 = .ok (.aload_n 0, 1) := by decide +kernel
theorem dM_row_235 : decode prog_7_method_29_code 235 = .ok (.getfield 31, 3) := by decide +kernel
theorem dM_row_238 : decode prog_7_method_29_code 238 = .ok (.iload_n 2, 1) := by decide +kernel
theorem dM_row_239 : decode prog_7_method_29_code 239 = .ok (.iaload, 1) := by decide +kernel
theorem dM_row_240 : decode prog_7_method_29_code 240 = .ok (.istore_n 3, 1) := by decide +kernel
theorem dM_row_241 : decode prog_7_method_29_code 241 = .ok (.iload_n 3, 1) := by decide +kernel
theorem dM_row_242 : decode prog_7_method_29_code 242 = .ok (.iconst (-1), 1) := by decide +kernel
theorem dM_row_243 : decode prog_7_method_29_code 243 = .ok (.if_icmp .eq 39, 3) := by decide +kernel
theorem dM_row_246 : decode prog_7_method_29_code 246 = .ok (.aload_n 0, 1) := by decide +kernel
theorem dM_row_247 : decode prog_7_method_29_code 247 = .ok (.getfield 84, 3) := by decide +kernel
theorem dM_row_250 : decode prog_7_method_29_code 250 = .ok (.iload_n 2, 1) := by decide +kernel
theorem dM_row_251 : decode prog_7_method_29_code 251 = .ok (.iaload, 1) := by decide +kernel
theorem dM_row_252 : decode prog_7_method_29_code 252 = .ok (.iconst (-1), 1) := by decide +kernel
theorem dM_row_253 : decode prog_7_method_29_code 253 = .ok (.if_icmp .ne 29, 3) := by decide +kernel
theorem dM_row_256 : decode prog_7_method_29_code 256 = .ok (.aload_n 0, 1) := by decide +kernel
theorem dM_row_257 : decode prog_7_method_29_code 257 = .ok (.getfield 72, 3) := by decide +kernel
theorem dM_row_260 : decode prog_7_method_29_code 260 = .ok (.iload_n 3, 1) := by decide +kernel
theorem dM_row_261 : decode prog_7_method_29_code 261 = .ok (.baload, 1) := by decide +kernel
theorem dM_row_262 : decode prog_7_method_29_code 262 = .ok (.ifCond .ne 10, 3) := by decide +kernel
theorem dM_row_265 : decode prog_7_method_29_code 265 = .ok (.aload_n 0, 1) := by decide +kernel
theorem dM_row_266 : decode prog_7_method_29_code 266 = .ok (.getfield 84, 3) := by decide +kernel
theorem dM_row_269 : decode prog_7_method_29_code 269 = .ok (.iload_n 2, 1) := by decide +kernel
theorem dM_row_270 : decode prog_7_method_29_code 270 = .ok (.iload_n 3, 1) := by decide +kernel
theorem dM_row_271 : decode prog_7_method_29_code 271 = .ok (.iastore, 1) := by decide +kernel
theorem dM_row_272 : decode prog_7_method_29_code 272 = .ok (.aload_n 0, 1) := by decide +kernel
theorem dM_row_273 : decode prog_7_method_29_code 273 = .ok (.getfield 37, 3) := by decide +kernel
theorem dM_row_276 : decode prog_7_method_29_code 276 = .ok (.iload_n 3, 1) := by decide +kernel
theorem dM_row_277 : decode prog_7_method_29_code 277 = .ok (.iaload, 1) := by decide +kernel
theorem dM_row_278 : decode prog_7_method_29_code 278 = .ok (.istore_n 3, 1) := by decide +kernel
theorem dM_row_279 : decode prog_7_method_29_code 279 = .ok (.goto (-38), 3) := by decide +kernel
theorem dM_row_282 : decode prog_7_method_29_code 282 = .ok (.aload_n 0, 1) := by decide +kernel
theorem dM_row_283 : decode prog_7_method_29_code 283 = .ok (.iload_n 2, 1) := by decide +kernel
theorem dM_row_284 : decode prog_7_method_29_code 284 = .ok (.aload_n 0, 1) := by decide +kernel
theorem dM_row_285 : decode prog_7_method_29_code 285 = .ok (.getfield 84, 3) := by decide +kernel
theorem dM_row_288 : decode prog_7_method_29_code 288 = .ok (.iload_n 2, 1) := by decide +kernel
theorem dM_row_289 : decode prog_7_method_29_code 289 = .ok (.iaload, 1) := by decide +kernel
theorem dM_row_290 : decode prog_7_method_29_code 290 = .ok (.iconst (-1), 1) := by decide +kernel
theorem dM_row_291 : decode prog_7_method_29_code 291 = .ok (.if_icmp .ne 7, 3) := by decide +kernel
theorem dM_row_294 : decode prog_7_method_29_code 294 = .ok (.iconst 1, 1) := by decide +kernel
theorem dM_row_295 : decode prog_7_method_29_code 295 = .ok (.goto 4, 3) := by decide +kernel
theorem dM_row_298 : decode prog_7_method_29_code 298 = .ok (.iconst 0, 1) := by decide +kernel
theorem dM_row_299 : decode prog_7_method_29_code 299 = .ok (.aload_n 0, 1) := by decide +kernel
theorem dM_row_300 : decode prog_7_method_29_code 300 = .ok (.getfield 99, 3) := by decide +kernel
theorem dM_row_303 : decode prog_7_method_29_code 303 = .ok (.iload_n 1, 1) := by decide +kernel
theorem dM_row_304 : decode prog_7_method_29_code 304 = .ok (.laload, 1) := by decide +kernel
theorem dM_row_305 : decode prog_7_method_29_code 305 = .ok (.invokevirtual 211, 3) := by decide +kernel
theorem dM_row_308 : decode prog_7_method_29_code 308 = .ok (.iconst 1, 1) := by decide +kernel
theorem dM_row_309 : decode prog_7_method_29_code 309 = .ok (.ireturn, 1) := by decide +kernel
theorem dM_rowOf_0 : decode prog_7_method_17_code 0 = .ok (.lconst 0, 1) := by decide +kernel
theorem dM_rowOf_1 : decode prog_7_method_17_code 1 = .ok (.lstore_n 3, 1) := by decide +kernel
theorem dM_rowOf_2 : decode prog_7_method_17_code 2 = .ok (.iload_n 2, 1) := by decide +kernel
theorem dM_rowOf_3 : decode prog_7_method_17_code 3 = .ok (.istore 5, 2) := by decide +kernel
theorem dM_rowOf_5 : decode prog_7_method_17_code 5 = .ok (.iload 5, 2) := by decide +kernel
theorem dM_rowOf_7 : decode prog_7_method_17_code 7 = .ok (.aload_n 0, 1) := by decide +kernel
theorem dM_rowOf_8 : decode prog_7_method_17_code 8 = .ok (.getfield 43, 3) := by decide +kernel
theorem dM_rowOf_11 : decode prog_7_method_17_code 11 = .ok (.iload_n 1, 1) := by decide +kernel
theorem dM_rowOf_12 : decode prog_7_method_17_code 12 = .ok (.iaload, 1) := by decide +kernel
theorem dM_rowOf_13 : decode prog_7_method_17_code 13 = .ok (.if_icmp .ge 26, 3) := by decide +kernel
theorem dM_rowOf_16 : decode prog_7_method_17_code 16 = .ok (.lload_n 3, 1) := by decide +kernel
theorem dM_rowOf_17 : decode prog_7_method_17_code 17 = .ok (.lconst 1, 1) := by decide +kernel
theorem dM_rowOf_18 : decode prog_7_method_17_code 18 = .ok (.aload_n 0, 1) := by decide +kernel
theorem dM_rowOf_19 : decode prog_7_method_17_code 19 = .ok (.getfield 46, 3) := by decide +kernel
theorem dM_rowOf_22 : decode prog_7_method_17_code 22 = .ok (.bipush 7, 2) := by decide +kernel
theorem dM_rowOf_24 : decode prog_7_method_17_code 24 = .ok (.iload_n 1, 1) := by decide +kernel
theorem dM_rowOf_25 : decode prog_7_method_17_code 25 = .ok (.imul, 1) := by decide +kernel
theorem dM_rowOf_26 : decode prog_7_method_17_code 26 = .ok (.iload 5, 2) := by decide +kernel
theorem dM_rowOf_28 : decode prog_7_method_17_code 28 = .ok (.iadd, 1) := by decide +kernel
theorem dM_rowOf_29 : decode prog_7_method_17_code 29 = .ok (.iaload, 1) := by decide +kernel
theorem dM_rowOf_30 : decode prog_7_method_17_code 30 = .ok (.lshl, 1) := by decide +kernel
theorem dM_rowOf_31 : decode prog_7_method_17_code 31 = .ok (.lor, 1) := by decide +kernel
theorem dM_rowOf_32 : decode prog_7_method_17_code 32 = .ok (.lstore_n 3, 1) := by decide +kernel
theorem dM_rowOf_33 : decode prog_7_method_17_code 33 = .ok (.iinc 5 1, 3) := by decide +kernel
theorem dM_rowOf_36 : decode prog_7_method_17_code 36 = .ok (.goto (-31), 3) := by decide +kernel
theorem dM_rowOf_39 : decode prog_7_method_17_code 39 = .ok (.lload_n 3, 1) := by decide +kernel
theorem dM_rowOf_40 : decode prog_7_method_17_code 40 = .ok (.lreturn, 1) := by decide +kernel
theorem dM_same_0 : decode prog_7_method_23_code 0 = .ok (.aload_n 0, 1) := by decide +kernel
theorem dM_same_1 : decode prog_7_method_23_code 1 = .ok (.lload 4, 2) := by decide +kernel
theorem dM_same_3 : decode prog_7_method_23_code 3 = .ok (.iload_n 2, 1) := by decide +kernel
theorem dM_same_4 : decode prog_7_method_23_code 4 = .ok (.invokevirtual 163, 3) := by decide +kernel
theorem dM_same_7 : decode prog_7_method_23_code 7 = .ok (.istore 6, 2) := by decide +kernel
theorem dM_same_9 : decode prog_7_method_23_code 9 = .ok (.aload_n 0, 1) := by decide +kernel
theorem dM_same_10 : decode prog_7_method_23_code 10 = .ok (.lload 4, 2) := by decide +kernel
theorem dM_same_12 : decode prog_7_method_23_code 12 = .ok (.iload_n 3, 1) := by decide +kernel
theorem dM_same_13 : decode prog_7_method_23_code 13 = .ok (.invokevirtual 163, 3) := by decide +kernel
theorem dM_same_16 : decode prog_7_method_23_code 16 = .ok (.istore 7, 2) := by decide +kernel
theorem dM_same_18 : decode prog_7_method_23_code 18 = .ok (.iload 6, 2) := by decide +kernel
theorem dM_same_20 : decode prog_7_method_23_code 20 = .ok (.ifCond .ne 9, 3) := by decide +kernel
theorem dM_same_23 : decode prog_7_method_23_code 23 = .ok (.iload 7, 2) := by decide +kernel
theorem dM_same_25 : decode prog_7_method_23_code 25 = .ok (.ifCond .ne 4, 3) := by decide +kernel
theorem dM_same_28 : decode prog_7_method_23_code 28 = .ok (.return_, 1) := by decide +kernel
theorem dM_same_29 : decode prog_7_method_23_code 29 = .ok (.aload_n 0, 1) := by decide +kernel
theorem dM_same_30 : decode prog_7_method_23_code 30 = .ok (.iload_n 1, 1) := by decide +kernel
theorem dM_same_31 : decode prog_7_method_23_code 31 = .ok (.iload 6, 2) := by decide +kernel
theorem dM_same_33 : decode prog_7_method_23_code 33 = .ok (.ifCond .eq 12, 3) := by decide +kernel
theorem dM_same_36 : decode prog_7_method_23_code 36 = .ok (.iload 7, 2) := by decide +kernel
theorem dM_same_38 : decode prog_7_method_23_code 38 = .ok (.ifCond .eq 7, 3) := by decide +kernel
theorem dM_same_41 : decode prog_7_method_23_code 41 = .ok (.iconst 1, 1) := by decide +kernel
theorem dM_same_42 : decode prog_7_method_23_code 42 = .ok (.goto 13, 3) := by decide +kernel
theorem dM_same_45 : decode prog_7_method_23_code 45 = .ok (.iload 6, 2) := by decide +kernel
theorem dM_same_47 : decode prog_7_method_23_code 47 = .ok (.ifCond .eq 7, 3) := by decide +kernel
theorem dM_same_50 : decode prog_7_method_23_code 50 = .ok (.iconst 2, 1) := by decide +kernel
theorem dM_same_51 : decode prog_7_method_23_code 51 = .ok (.goto 4, 3) := by decide +kernel
theorem dM_same_54 : decode prog_7_method_23_code 54 = .ok (.iconst 3, 1) := by decide +kernel
theorem dM_same_55 : decode prog_7_method_23_code 55 = .ok (.lload 4, 2) := by decide +kernel
theorem dM_same_57 : decode prog_7_method_23_code 57 = .ok (.lconst 1, 1) := by decide +kernel
theorem dM_same_58 : decode prog_7_method_23_code 58 = .ok (.iload_n 2, 1) := by decide +kernel
theorem dM_same_59 : decode prog_7_method_23_code 59 = .ok (.lshl, 1) := by decide +kernel
theorem dM_same_60 : decode prog_7_method_23_code 60 = .ok (.lor, 1) := by decide +kernel
theorem dM_same_61 : decode prog_7_method_23_code 61 = .ok (.lconst 1, 1) := by decide +kernel
theorem dM_same_62 : decode prog_7_method_23_code 62 = .ok (.iload_n 3, 1) := by decide +kernel
theorem dM_same_63 : decode prog_7_method_23_code 63 = .ok (.lshl, 1) := by decide +kernel
theorem dM_same_64 : decode prog_7_method_23_code 64 = .ok (.lor, 1) := by decide +kernel
theorem dM_same_65 : decode prog_7_method_23_code 65 = .ok (.invokevirtual 167, 3) := by decide +kernel
theorem dM_same_68 : decode prog_7_method_23_code 68 = .ok (.return_, 1) := by decide +kernel
theorem dM_stuck_0 : decode prog_7_method_35_code 0 = .ok (.aload_n 0, 1) := by decide +kernel
theorem dM_stuck_1 : decode prog_7_method_35_code 1 = .ok (.iconst 0, 1) := by decide +kernel
theorem dM_stuck_2 : decode prog_7_method_35_code 2 = .ok (.putfield 115, 3) := by decide +kernel
theorem dM_stuck_5 : decode prog_7_method_35_code 5 = .ok (.aload_n 0, 1) := by decide +kernel
theorem dM_stuck_6 : decode prog_7_method_35_code 6 = .ok (.getfield 108, 3) := by decide +kernel
theorem dM_stuck_9 : decode prog_7_method_35_code 9 = .ok (.ireturn, 1) := by decide +kernel
theorem dM_stuckOf_0 : decode prog_7_method_33_code 0 = .ok (.iconst 0, 1) := by decide +kernel
theorem dM_stuckOf_1 : decode prog_7_method_33_code 1 = .ok (.istore_n 1, 1) := by decide +kernel
theorem dM_stuckOf_2 : decode prog_7_method_33_code 2 = .ok (.aload_n 0, 1) := by decide +kernel
theorem dM_stuckOf_3 : decode prog_7_method_33_code 3 = .ok (.getfield 19, 3) := by decide +kernel
theorem dM_stuckOf_6 : decode prog_7_method_33_code 6 = .ok (.iload_n 1, 1) := by decide +kernel
theorem dM_stuckOf_7 : decode prog_7_method_33_code 7 = .ok (.iaload, 1) := by decide +kernel
theorem dM_stuckOf_8 : decode prog_7_method_33_code 8 = .ok (.iconst 3, 1) := by decide +kernel
theorem dM_stuckOf_9 : decode prog_7_method_33_code 9 = .ok (.if_icmp .gt 23, 3) := by decide +kernel
theorem dM_stuckOf_12 : decode prog_7_method_33_code 12 = .ok (.aload_n 0, 1) := by decide +kernel
theorem dM_stuckOf_13 : decode prog_7_method_33_code 13 = .ok (.getfield 84, 3) := by decide +kernel
theorem dM_stuckOf_16 : decode prog_7_method_33_code 16 = .ok (.iload_n 1, 1) := by decide +kernel
theorem dM_stuckOf_17 : decode prog_7_method_33_code 17 = .ok (.iaload, 1) := by decide +kernel
theorem dM_stuckOf_18 : decode prog_7_method_33_code 18 = .ok (.iconst (-1), 1) := by decide +kernel
theorem dM_stuckOf_19 : decode prog_7_method_33_code 19 = .ok (.if_icmp .eq 13, 3) := by decide +kernel
theorem dM_stuckOf_22 : decode prog_7_method_33_code 22 = .ok (.aload_n 0, 1) := by decide +kernel
theorem dM_stuckOf_23 : decode prog_7_method_33_code 23 = .ok (.getfield 84, 3) := by decide +kernel
theorem dM_stuckOf_26 : decode prog_7_method_33_code 26 = .ok (.iload_n 1, 1) := by decide +kernel
theorem dM_stuckOf_27 : decode prog_7_method_33_code 27 = .ok (.iaload, 1) := by decide +kernel
theorem dM_stuckOf_28 : decode prog_7_method_33_code 28 = .ok (.istore_n 1, 1) := by decide +kernel
theorem dM_stuckOf_29 : decode prog_7_method_33_code 29 = .ok (.goto (-27), 3) := by decide +kernel
theorem dM_stuckOf_32 : decode prog_7_method_33_code 32 = .ok (.iload_n 1, 1) := by decide +kernel
theorem dM_stuckOf_33 : decode prog_7_method_33_code 33 = .ok (.ireturn, 1) := by decide +kernel
theorem dM_test_0 : decode prog_7_method_32_code 0 = .ok (.aload_n 0, 1) := by decide +kernel
theorem dM_test_1 : decode prog_7_method_32_code 1 = .ok (.getfield 28, 3) := by decide +kernel
theorem dM_test_4 : decode prog_7_method_32_code 4 = .ok (.iload_n 2, 1) := by decide +kernel
theorem dM_test_5 : decode prog_7_method_32_code 5 = .ok (.iaload, 1) := by decide +kernel
theorem dM_test_6 : decode prog_7_method_32_code 6 = .ok (.iconst 3, 1) := by decide +kernel
theorem dM_test_7 : decode prog_7_method_32_code 7 = .ok (.if_icmp .ge 12, 3) := by decide +kernel
theorem dM_test_10 : decode prog_7_method_32_code 10 = .ok (.aload_n 0, 1) := by decide +kernel
theorem dM_test_11 : decode prog_7_method_32_code 11 = .ok (.iload_n 2, 1) := by decide +kernel
theorem dM_test_12 : decode prog_7_method_32_code 12 = .ok (.iconst 0, 1) := by decide +kernel
theorem dM_test_13 : decode prog_7_method_32_code 13 = .ok (.lconst 0, 1) := by decide +kernel
theorem dM_test_14 : decode prog_7_method_32_code 14 = .ok (.invokevirtual 211, 3) := by decide +kernel
theorem dM_test_17 : decode prog_7_method_32_code 17 = .ok (.iconst 1, 1) := by decide +kernel
theorem dM_test_18 : decode prog_7_method_32_code 18 = .ok (.ireturn, 1) := by decide +kernel
theorem dM_test_19 : decode prog_7_method_32_code 19 = .ok (.aload_n 0, 1) := by decide +kernel
theorem dM_test_20 : decode prog_7_method_32_code 20 = .ok (.getfield 31, 3) := by decide +kernel
theorem dM_test_23 : decode prog_7_method_32_code 23 = .ok (.iload_n 2, 1) := by decide +kernel
theorem dM_test_24 : decode prog_7_method_32_code 24 = .ok (.iaload, 1) := by decide +kernel
theorem dM_test_25 : decode prog_7_method_32_code 25 = .ok (.istore_n 3, 1) := by decide +kernel
theorem dM_test_26 : decode prog_7_method_32_code 26 = .ok (.aload_n 0, 1) := by decide +kernel
theorem dM_test_27 : decode prog_7_method_32_code 27 = .ok (.getfield 37, 3) := by decide +kernel
theorem dM_test_30 : decode prog_7_method_32_code 30 = .ok (.iload_n 3, 1) := by decide +kernel
theorem dM_test_31 : decode prog_7_method_32_code 31 = .ok (.iaload, 1) := by decide +kernel
theorem dM_test_32 : decode prog_7_method_32_code 32 = .ok (.istore 4, 2) := by decide +kernel
theorem dM_test_34 : decode prog_7_method_32_code 34 = .ok (.aload_n 0, 1) := by decide +kernel
theorem dM_test_35 : decode prog_7_method_32_code 35 = .ok (.getfield 37, 3) := by decide +kernel
theorem dM_test_38 : decode prog_7_method_32_code 38 = .ok (.iload 4, 2) := by decide +kernel
theorem dM_test_40 : decode prog_7_method_32_code 40 = .ok (.iaload, 1) := by decide +kernel
theorem dM_test_41 : decode prog_7_method_32_code 41 = .ok (.istore 5, 2) := by decide +kernel
theorem dM_test_43 : decode prog_7_method_32_code 43 = .ok (.aload_n 0, 1) := by decide +kernel
theorem dM_test_44 : decode prog_7_method_32_code 44 = .ok (.getfield 90, 3) := by decide +kernel
theorem dM_test_47 : decode prog_7_method_32_code 47 = .ok (.iload_n 1, 1) := by decide +kernel
theorem dM_test_48 : decode prog_7_method_32_code 48 = .ok (.iaload, 1) := by decide +kernel
theorem dM_test_49 : decode prog_7_method_32_code 49 = .ok (.ifCond .ne 7, 3) := by decide +kernel
theorem dM_test_52 : decode prog_7_method_32_code 52 = .ok (.iconst (-1), 1) := by decide +kernel
theorem dM_test_53 : decode prog_7_method_32_code 53 = .ok (.goto 34, 3) := by decide +kernel
theorem dM_test_56 : decode prog_7_method_32_code 56 = .ok (.aload_n 0, 1) := by decide +kernel
theorem dM_test_57 : decode prog_7_method_32_code 57 = .ok (.getfield 90, 3) := by decide +kernel
theorem dM_test_60 : decode prog_7_method_32_code 60 = .ok (.iload_n 1, 1) := by decide +kernel
theorem dM_test_61 : decode prog_7_method_32_code 61 = .ok (.iaload, 1) := by decide +kernel
theorem dM_test_62 : decode prog_7_method_32_code 62 = .ok (.iconst 1, 1) := by decide +kernel
theorem dM_test_63 : decode prog_7_method_32_code 63 = .ok (.if_icmp .ne 7, 3) := by decide +kernel
theorem dM_test_66 : decode prog_7_method_32_code 66 = .ok (.iload_n 3, 1) := by decide +kernel
theorem dM_test_67 : decode prog_7_method_32_code 67 = .ok (.goto 20, 3) := by decide +kernel
theorem dM_test_70 : decode prog_7_method_32_code 70 = .ok (.aload_n 0, 1) := by decide +kernel
theorem dM_test_71 : decode prog_7_method_32_code 71 = .ok (.getfield 90, 3) := by decide +kernel
theorem dM_test_74 : decode prog_7_method_32_code 74 = .ok (.iload_n 1, 1) := by decide +kernel
theorem dM_test_75 : decode prog_7_method_32_code 75 = .ok (.iaload, 1) := by decide +kernel
theorem dM_test_76 : decode prog_7_method_32_code 76 = .ok (.iconst 2, 1) := by decide +kernel
theorem dM_test_77 : decode prog_7_method_32_code 77 = .ok (.if_icmp .ne 8, 3) := by decide +kernel
theorem dM_test_80 : decode prog_7_method_32_code 80 = .ok (.iload 4, 2) := by decide +kernel
theorem dM_test_82 : decode prog_7_method_32_code 82 = .ok (.goto 5, 3) := by decide +kernel
theorem dM_test_85 : decode prog_7_method_32_code 85 = .ok (.iload 5, 2) := by decide +kernel
theorem dM_test_87 : decode prog_7_method_32_code 87 = .ok (.istore 6, 2) := by decide +kernel
theorem dM_test_89 : decode prog_7_method_32_code 89 = .ok (.iload 6, 2) := by decide +kernel
theorem dM_test_91 : decode prog_7_method_32_code 91 = .ok (.iconst (-1), 1) := by decide +kernel
theorem dM_test_92 : decode prog_7_method_32_code 92 = .ok (.if_icmp .eq 17, 3) := by decide +kernel
theorem dM_test_95 : decode prog_7_method_32_code 95 = .ok (.aload_n 0, 1) := by decide +kernel
theorem dM_test_96 : decode prog_7_method_32_code 96 = .ok (.getfield 68, 3) := by decide +kernel
theorem dM_test_99 : decode prog_7_method_32_code 99 = .ok (.iload 6, 2) := by decide +kernel
theorem dM_test_101 : decode prog_7_method_32_code 101 = .ok (.baload, 1) := by decide +kernel
theorem dM_test_102 : decode prog_7_method_32_code 102 = .ok (.ifCond .ne 7, 3) := by decide +kernel
theorem dM_test_105 : decode prog_7_method_32_code 105 = .ok (.iconst 1, 1) := by decide +kernel
theorem dM_test_106 : decode prog_7_method_32_code 106 = .ok (.goto 4, 3) := by decide +kernel
theorem dM_test_109 : decode prog_7_method_32_code 109 = .ok (.iconst 0, 1) := by decide +kernel
theorem dM_test_110 : decode prog_7_method_32_code 110 = .ok (.istore 7, 2) := by decide +kernel
theorem dM_test_112 : decode prog_7_method_32_code 112 = .ok (.iload 7, 2) := by decide +kernel
theorem dM_test_114 : decode prog_7_method_32_code 114 = .ok (.ifCond .eq 11, 3) := by decide +kernel
theorem dM_test_117 : decode prog_7_method_32_code 117 = .ok (.aload_n 0, 1) := by decide +kernel
theorem dM_test_118 : decode prog_7_method_32_code 118 = .ok (.getfield 84, 3) := by decide +kernel
theorem dM_test_121 : decode prog_7_method_32_code 121 = .ok (.iload_n 2, 1) := by decide +kernel
theorem dM_test_122 : decode prog_7_method_32_code 122 = .ok (.iload 6, 2) := by decide +kernel
theorem dM_test_124 : decode prog_7_method_32_code 124 = .ok (.iastore, 1) := by decide +kernel
theorem dM_test_125 : decode prog_7_method_32_code 125 = .ok (.iload 7, 2) := by decide +kernel
theorem dM_test_127 : decode prog_7_method_32_code 127 = .ok (.ifCond .ne 50, 3) := by decide +kernel
theorem dM_test_130 : decode prog_7_method_32_code 130 = .ok (.aload_n 0, 1) := by decide +kernel
theorem dM_test_131 : decode prog_7_method_32_code 131 = .ok (.getfield 90, 3) := by decide +kernel
theorem dM_test_134 : decode prog_7_method_32_code 134 = .ok (.iload_n 1, 1) := by decide +kernel
theorem dM_test_135 : decode prog_7_method_32_code 135 = .ok (.iaload, 1) := by decide +kernel
theorem dM_test_136 : decode prog_7_method_32_code 136 = .ok (.iconst 1, 1) := by decide +kernel
theorem dM_test_137 : decode prog_7_method_32_code 137 = .ok (.if_icmp .ne 49, 3) := by decide +kernel
theorem dM_test_140 : decode prog_7_method_32_code 140 = .ok (.aload_n 0, 1) := by decide +kernel
theorem dM_test_141 : decode prog_7_method_32_code 141 = .ok (.getfield 65, 3) := by decide +kernel
theorem dM_test_144 : decode prog_7_method_32_code 144 = .ok (.iload_n 3, 1) := by decide +kernel
theorem dM_test_145 : decode prog_7_method_32_code 145 = .ok (.laload, 1) := by decide +kernel
theorem dM_test_146 : decode prog_7_method_32_code 146 = .ok (.aload_n 0, 1) := by decide +kernel
theorem dM_test_147 : decode prog_7_method_32_code 147 = .ok (.getfield 62, 3) := by decide +kernel
theorem dM_test_150 : decode prog_7_method_32_code 150 = .ok (.iload_n 2, 1) := by decide +kernel
theorem dM_test_151 : decode prog_7_method_32_code 151 = .ok (.laload, 1) := by decide +kernel
theorem dM_test_152 : decode prog_7_method_32_code 152 = .ok (.ldc2_w 215, 3) := by decide +kernel
theorem dM_test_155 : decode prog_7_method_32_code 155 = .ok (.lxor, 1) := by decide +kernel
theorem dM_test_156 : decode prog_7_method_32_code 156 = .ok (.land, 1) := by decide +kernel
theorem dM_test_157 : decode prog_7_method_32_code 157 = .ok (.aload_n 0, 1) := by decide +kernel
theorem dM_test_158 : decode prog_7_method_32_code 158 = .ok (.getfield 55, 3) := by decide +kernel
theorem dM_test_161 : decode prog_7_method_32_code 161 = .ok (.iload_n 2, 1) := by decide +kernel
theorem dM_test_162 : decode prog_7_method_32_code 162 = .ok (.laload, 1) := by decide +kernel
theorem dM_test_163 : decode prog_7_method_32_code 163 = .ok (.aload_n 0, 1) := by decide +kernel
theorem dM_test_164 : decode prog_7_method_32_code 164 = .ok (.getfield 59, 3) := by decide +kernel
theorem dM_test_167 : decode prog_7_method_32_code 167 = .ok (.iload 5, 2) := by decide +kernel
theorem dM_test_169 : decode prog_7_method_32_code 169 = .ok (.laload, 1) := by decide +kernel
theorem dM_test_170 : decode prog_7_method_32_code 170 = .ok (.lor, 1) := by decide +kernel
theorem dM_test_171 : decode prog_7_method_32_code 171 = .ok (.land, 1) := by decide +kernel
theorem dM_test_172 : decode prog_7_method_32_code 172 = .ok (.lconst 0, 1) := by decide +kernel
theorem dM_test_173 : decode prog_7_method_32_code 173 = .ok (.lcmp, 1) := by decide +kernel
theorem dM_test_174 : decode prog_7_method_32_code 174 = .ok (.ifCond .eq 12, 3) := by decide +kernel
theorem dM_test_177 : decode prog_7_method_32_code 177 = .ok (.aload_n 0, 1) := by decide +kernel
theorem dM_test_178 : decode prog_7_method_32_code 178 = .ok (.iload_n 2, 1) := by decide +kernel
theorem dM_test_179 : decode prog_7_method_32_code 179 = .ok (.iconst 0, 1) := by decide +kernel
theorem dM_test_180 : decode prog_7_method_32_code 180 = .ok (.lconst 0, 1) := by decide +kernel
theorem dM_test_181 : decode prog_7_method_32_code 181 = .ok (.invokevirtual 211, 3) := by decide +kernel
theorem dM_test_184 : decode prog_7_method_32_code 184 = .ok (.iconst 1, 1) := by decide +kernel
theorem dM_test_185 : decode prog_7_method_32_code 185 = .ok (.ireturn, 1) := by decide +kernel
theorem dM_test_186 : decode prog_7_method_32_code 186 = .ok (.aload_n 0, 1) := by decide +kernel
theorem dM_test_187 : decode prog_7_method_32_code 187 = .ok (.getfield 90, 3) := by decide +kernel
theorem dM_test_190 : decode prog_7_method_32_code 190 = .ok (.iload_n 1, 1) := by decide +kernel
theorem dM_test_191 : decode prog_7_method_32_code 191 = .ok (.dup2, 1) := by decide +kernel
theorem dM_test_192 : decode prog_7_method_32_code 192 = .ok (.iaload, 1) := by decide +kernel
theorem dM_test_193 : decode prog_7_method_32_code 193 = .ok (.iconst 1, 1) := by decide +kernel
theorem dM_test_194 : decode prog_7_method_32_code 194 = .ok (.iadd, 1) := by decide +kernel
theorem dM_test_195 : decode prog_7_method_32_code 195 = .ok (.iastore, 1) := by decide +kernel
theorem dM_test_196 : decode prog_7_method_32_code 196 = .ok (.aload_n 0, 1) := by decide +kernel
theorem dM_test_197 : decode prog_7_method_32_code 197 = .ok (.getfield 90, 3) := by decide +kernel
theorem dM_test_200 : decode prog_7_method_32_code 200 = .ok (.iload_n 1, 1) := by decide +kernel
theorem dM_test_201 : decode prog_7_method_32_code 201 = .ok (.iaload, 1) := by decide +kernel
theorem dM_test_202 : decode prog_7_method_32_code 202 = .ok (.iconst 1, 1) := by decide +kernel
theorem dM_test_203 : decode prog_7_method_32_code 203 = .ok (.if_icmp .ne 15, 3) := by decide +kernel
theorem dM_test_206 : decode prog_7_method_32_code 206 = .ok (.aload_n 0, 1) := by decide +kernel
theorem dM_test_207 : decode prog_7_method_32_code 207 = .ok (.iload_n 3, 1) := by decide +kernel
theorem dM_test_208 : decode prog_7_method_32_code 208 = .ok (.aload_n 0, 1) := by decide +kernel
theorem dM_test_209 : decode prog_7_method_32_code 209 = .ok (.getfield 62, 3) := by decide +kernel
theorem dM_test_212 : decode prog_7_method_32_code 212 = .ok (.iload_n 2, 1) := by decide +kernel
theorem dM_test_213 : decode prog_7_method_32_code 213 = .ok (.laload, 1) := by decide +kernel
theorem dM_test_214 : decode prog_7_method_32_code 214 = .ok (.invokevirtual 207, 3) := by decide +kernel
theorem dM_test_217 : decode prog_7_method_32_code 217 = .ok (.ireturn, 1) := by decide +kernel
theorem dM_test_218 : decode prog_7_method_32_code 218 = .ok (.aload_n 0, 1) := by decide +kernel
theorem dM_test_219 : decode prog_7_method_32_code 219 = .ok (.getfield 90, 3) := by decide +kernel
theorem dM_test_222 : decode prog_7_method_32_code 222 = .ok (.iload_n 1, 1) := by decide +kernel
theorem dM_test_223 : decode prog_7_method_32_code 223 = .ok (.iaload, 1) := by decide +kernel
theorem dM_test_224 : decode prog_7_method_32_code 224 = .ok (.iconst 2, 1) := by decide +kernel
theorem dM_test_225 : decode prog_7_method_32_code 225 = .ok (.if_icmp .ne 16, 3) := by decide +kernel
theorem dM_test_228 : decode prog_7_method_32_code 228 = .ok (.aload_n 0, 1) := by decide +kernel
theorem dM_test_229 : decode prog_7_method_32_code 229 = .ok (.iload 4, 2) := by decide +kernel
theorem dM_test_231 : decode prog_7_method_32_code 231 = .ok (.aload_n 0, 1) := by decide +kernel
theorem dM_test_232 : decode prog_7_method_32_code 232 = .ok (.getfield 65, 3) := by decide +kernel
theorem dM_test_235 : decode prog_7_method_32_code 235 = .ok (.iload_n 3, 1) := by decide +kernel
theorem dM_test_236 : decode prog_7_method_32_code 236 = .ok (.laload, 1) := by decide +kernel
theorem dM_test_237 : decode prog_7_method_32_code 237 = .ok (.invokevirtual 207, 3) := by decide +kernel
theorem dM_test_240 : decode prog_7_method_32_code 240 = .ok (.ireturn, 1) := by decide +kernel
theorem dM_test_241 : decode prog_7_method_32_code 241 = .ok (.aload_n 0, 1) := by decide +kernel
theorem dM_test_242 : decode prog_7_method_32_code 242 = .ok (.getfield 90, 3) := by decide +kernel
theorem dM_test_245 : decode prog_7_method_32_code 245 = .ok (.iload_n 1, 1) := by decide +kernel
theorem dM_test_246 : decode prog_7_method_32_code 246 = .ok (.iaload, 1) := by decide +kernel
theorem dM_test_247 : decode prog_7_method_32_code 247 = .ok (.iconst 3, 1) := by decide +kernel
theorem dM_test_248 : decode prog_7_method_32_code 248 = .ok (.if_icmp .ne 16, 3) := by decide +kernel
theorem dM_test_251 : decode prog_7_method_32_code 251 = .ok (.aload_n 0, 1) := by decide +kernel
theorem dM_test_252 : decode prog_7_method_32_code 252 = .ok (.iload 5, 2) := by decide +kernel
theorem dM_test_254 : decode prog_7_method_32_code 254 = .ok (.aload_n 0, 1) := by decide +kernel
theorem dM_test_255 : decode prog_7_method_32_code 255 = .ok (.getfield 62, 3) := by decide +kernel
theorem dM_test_258 : decode prog_7_method_32_code 258 = .ok (.iload_n 2, 1) := by decide +kernel
theorem dM_test_259 : decode prog_7_method_32_code 259 = .ok (.laload, 1) := by decide +kernel
theorem dM_test_260 : decode prog_7_method_32_code 260 = .ok (.invokevirtual 207, 3) := by decide +kernel
theorem dM_test_263 : decode prog_7_method_32_code 263 = .ok (.ireturn, 1) := by decide +kernel
theorem dM_test_264 : decode prog_7_method_32_code 264 = .ok (.aload_n 0, 1) := by decide +kernel
theorem dM_test_265 : decode prog_7_method_32_code 265 = .ok (.getfield 55, 3) := by decide +kernel
theorem dM_test_268 : decode prog_7_method_32_code 268 = .ok (.iload_n 2, 1) := by decide +kernel
theorem dM_test_269 : decode prog_7_method_32_code 269 = .ok (.laload, 1) := by decide +kernel
theorem dM_test_270 : decode prog_7_method_32_code 270 = .ok (.aload_n 0, 1) := by decide +kernel
theorem dM_test_271 : decode prog_7_method_32_code 271 = .ok (.getfield 62, 3) := by decide +kernel
theorem dM_test_274 : decode prog_7_method_32_code 274 = .ok (.iload_n 2, 1) := by decide +kernel
theorem dM_test_275 : decode prog_7_method_32_code 275 = .ok (.laload, 1) := by decide +kernel
theorem dM_test_276 : decode prog_7_method_32_code 276 = .ok (.ldc2_w 215, 3) := by decide +kernel
theorem dM_test_279 : decode prog_7_method_32_code 279 = .ok (.lxor, 1) := by decide +kernel
theorem dM_test_280 : decode prog_7_method_32_code 280 = .ok (.land, 1) := by decide +kernel
theorem dM_test_281 : decode prog_7_method_32_code 281 = .ok (.lstore 8, 2) := by decide +kernel
theorem dM_test_283 : decode prog_7_method_32_code 283 = .ok (.aload_n 0, 1) := by decide +kernel
theorem dM_test_284 : decode prog_7_method_32_code 284 = .ok (.iload_n 2, 1) := by decide +kernel
theorem dM_test_285 : decode prog_7_method_32_code 285 = .ok (.aload_n 0, 1) := by decide +kernel
theorem dM_test_286 : decode prog_7_method_32_code 286 = .ok (.getfield 65, 3) := by decide +kernel
theorem dM_test_289 : decode prog_7_method_32_code 289 = .ok (.iload 4, 2) := by decide +kernel
theorem dM_test_291 : decode prog_7_method_32_code 291 = .ok (.laload, 1) := by decide +kernel
theorem dM_test_292 : decode prog_7_method_32_code 292 = .ok (.lload 8, 2) := by decide +kernel
theorem dM_test_294 : decode prog_7_method_32_code 294 = .ok (.land, 1) := by decide +kernel
theorem dM_test_295 : decode prog_7_method_32_code 295 = .ok (.aload_n 0, 1) := by decide +kernel
theorem dM_test_296 : decode prog_7_method_32_code 296 = .ok (.getfield 65, 3) := by decide +kernel
theorem dM_test_299 : decode prog_7_method_32_code 299 = .ok (.iload 5, 2) := by decide +kernel
theorem dM_test_301 : decode prog_7_method_32_code 301 = .ok (.laload, 1) := by decide +kernel
theorem dM_test_302 : decode prog_7_method_32_code 302 = .ok (.lload 8, 2) := by decide +kernel
theorem dM_test_304 : decode prog_7_method_32_code 304 = .ok (.land, 1) := by decide +kernel
theorem dM_test_305 : decode prog_7_method_32_code 305 = .ok (.lcmp, 1) := by decide +kernel
theorem dM_test_306 : decode prog_7_method_32_code 306 = .ok (.ifCond .ne 7, 3) := by decide +kernel
theorem dM_test_309 : decode prog_7_method_32_code 309 = .ok (.iconst 1, 1) := by decide +kernel
theorem dM_test_310 : decode prog_7_method_32_code 310 = .ok (.goto 4, 3) := by decide +kernel
theorem dM_test_313 : decode prog_7_method_32_code 313 = .ok (.iconst 0, 1) := by decide +kernel
theorem dM_test_314 : decode prog_7_method_32_code 314 = .ok (.aload_n 0, 1) := by decide +kernel
theorem dM_test_315 : decode prog_7_method_32_code 315 = .ok (.getfield 62, 3) := by decide +kernel
theorem dM_test_318 : decode prog_7_method_32_code 318 = .ok (.iload_n 2, 1) := by decide +kernel
theorem dM_test_319 : decode prog_7_method_32_code 319 = .ok (.laload, 1) := by decide +kernel
theorem dM_test_320 : decode prog_7_method_32_code 320 = .ok (.aload_n 0, 1) := by decide +kernel
theorem dM_test_321 : decode prog_7_method_32_code 321 = .ok (.getfield 65, 3) := by decide +kernel
theorem dM_test_324 : decode prog_7_method_32_code 324 = .ok (.iload 4, 2) := by decide +kernel
theorem dM_test_326 : decode prog_7_method_32_code 326 = .ok (.laload, 1) := by decide +kernel
theorem dM_test_327 : decode prog_7_method_32_code 327 = .ok (.aload_n 0, 1) := by decide +kernel
theorem dM_test_328 : decode prog_7_method_32_code 328 = .ok (.getfield 65, 3) := by decide +kernel
theorem dM_test_331 : decode prog_7_method_32_code 331 = .ok (.iload 5, 2) := by decide +kernel
theorem dM_test_333 : decode prog_7_method_32_code 333 = .ok (.laload, 1) := by decide +kernel
theorem dM_test_334 : decode prog_7_method_32_code 334 = .ok (.land, 1) := by decide +kernel
theorem dM_test_335 : decode prog_7_method_32_code 335 = .ok (.lload 8, 2) := by decide +kernel
theorem dM_test_337 : decode prog_7_method_32_code 337 = .ok (.land, 1) := by decide +kernel
theorem dM_test_338 : decode prog_7_method_32_code 338 = .ok (.lor, 1) := by decide +kernel
theorem dM_test_339 : decode prog_7_method_32_code 339 = .ok (.invokevirtual 211, 3) := by decide +kernel
theorem dM_test_342 : decode prog_7_method_32_code 342 = .ok (.iconst 1, 1) := by decide +kernel
theorem dM_test_343 : decode prog_7_method_32_code 343 = .ok (.ireturn, 1) := by decide +kernel
theorem dM_tried_0 : decode prog_7_method_26_code 0 = .ok (.aload_n 0, 1) := by decide +kernel
theorem dM_tried_1 : decode prog_7_method_26_code 1 = .ok (.getfield 186, 3) := by decide +kernel
theorem dM_tried_4 : decode prog_7_method_26_code 4 = .ok (.sipush 20000, 3) := by decide +kernel
theorem dM_tried_7 : decode prog_7_method_26_code 7 = .ok (.if_icmp .ne 5, 3) := by decide +kernel
theorem dM_tried_10 : decode prog_7_method_26_code 10 = .ok (.iconst 0, 1) := by decide +kernel
theorem dM_tried_11 : decode prog_7_method_26_code 11 = .ok (.ireturn, 1) := by decide +kernel
theorem dM_tried_12 : decode prog_7_method_26_code 12 = .ok (.aload_n 0, 1) := by decide +kernel
theorem dM_tried_13 : decode prog_7_method_26_code 13 = .ok (.dup, 1) := by decide +kernel
theorem dM_tried_14 : decode prog_7_method_26_code 14 = .ok (.getfield 186, 3) := by decide +kernel
theorem dM_tried_17 : decode prog_7_method_26_code 17 = .ok (.iconst 1, 1) := by decide +kernel
theorem dM_tried_18 : decode prog_7_method_26_code 18 = .ok (.iadd, 1) := by decide +kernel
theorem dM_tried_19 : decode prog_7_method_26_code 19 = .ok (.putfield 186, 3) := by decide +kernel
theorem dM_tried_22 : decode prog_7_method_26_code 22 = .ok (.aload_n 0, 1) := by decide +kernel
theorem dM_tried_23 : decode prog_7_method_26_code 23 = .ok (.getfield 62, 3) := by decide +kernel
theorem dM_tried_26 : decode prog_7_method_26_code 26 = .ok (.iload_n 1, 1) := by decide +kernel
theorem dM_tried_27 : decode prog_7_method_26_code 27 = .ok (.lload_n 2, 1) := by decide +kernel
theorem dM_tried_28 : decode prog_7_method_26_code 28 = .ok (.lastore, 1) := by decide +kernel
theorem dM_tried_29 : decode prog_7_method_26_code 29 = .ok (.aload_n 0, 1) := by decide +kernel
theorem dM_tried_30 : decode prog_7_method_26_code 30 = .ok (.getfield 68, 3) := by decide +kernel
theorem dM_tried_33 : decode prog_7_method_26_code 33 = .ok (.iload_n 1, 1) := by decide +kernel
theorem dM_tried_34 : decode prog_7_method_26_code 34 = .ok (.iconst 0, 1) := by decide +kernel
theorem dM_tried_35 : decode prog_7_method_26_code 35 = .ok (.bastore, 1) := by decide +kernel
theorem dM_tried_36 : decode prog_7_method_26_code 36 = .ok (.aload_n 0, 1) := by decide +kernel
theorem dM_tried_37 : decode prog_7_method_26_code 37 = .ok (.getfield 84, 3) := by decide +kernel
theorem dM_tried_40 : decode prog_7_method_26_code 40 = .ok (.iload_n 1, 1) := by decide +kernel
theorem dM_tried_41 : decode prog_7_method_26_code 41 = .ok (.iconst (-1), 1) := by decide +kernel
theorem dM_tried_42 : decode prog_7_method_26_code 42 = .ok (.iastore, 1) := by decide +kernel
theorem dM_tried_43 : decode prog_7_method_26_code 43 = .ok (.aload_n 0, 1) := by decide +kernel
theorem dM_tried_44 : decode prog_7_method_26_code 44 = .ok (.getfield 19, 3) := by decide +kernel
theorem dM_tried_47 : decode prog_7_method_26_code 47 = .ok (.iload_n 1, 1) := by decide +kernel
theorem dM_tried_48 : decode prog_7_method_26_code 48 = .ok (.iaload, 1) := by decide +kernel
theorem dM_tried_49 : decode prog_7_method_26_code 49 = .ok (.iconst 3, 1) := by decide +kernel
theorem dM_tried_50 : decode prog_7_method_26_code 50 = .ok (.if_icmp .le 10, 3) := by decide +kernel
theorem dM_tried_53 : decode prog_7_method_26_code 53 = .ok (.aload_n 0, 1) := by decide +kernel
theorem dM_tried_54 : decode prog_7_method_26_code 54 = .ok (.iload_n 1, 1) := by decide +kernel
theorem dM_tried_55 : decode prog_7_method_26_code 55 = .ok (.invokevirtual 189, 3) := by decide +kernel
theorem dM_tried_58 : decode prog_7_method_26_code 58 = .ok (.iconst 1, 1) := by decide +kernel
theorem dM_tried_59 : decode prog_7_method_26_code 59 = .ok (.ireturn, 1) := by decide +kernel
theorem dM_tried_60 : decode prog_7_method_26_code 60 = .ok (.aload_n 0, 1) := by decide +kernel
theorem dM_tried_61 : decode prog_7_method_26_code 61 = .ok (.getfield 87, 3) := by decide +kernel
theorem dM_tried_64 : decode prog_7_method_26_code 64 = .ok (.aload_n 0, 1) := by decide +kernel
theorem dM_tried_65 : decode prog_7_method_26_code 65 = .ok (.getfield 193, 3) := by decide +kernel
theorem dM_tried_68 : decode prog_7_method_26_code 68 = .ok (.iload_n 1, 1) := by decide +kernel
theorem dM_tried_69 : decode prog_7_method_26_code 69 = .ok (.iastore, 1) := by decide +kernel
theorem dM_tried_70 : decode prog_7_method_26_code 70 = .ok (.aload_n 0, 1) := by decide +kernel
theorem dM_tried_71 : decode prog_7_method_26_code 71 = .ok (.getfield 90, 3) := by decide +kernel
theorem dM_tried_74 : decode prog_7_method_26_code 74 = .ok (.aload_n 0, 1) := by decide +kernel
theorem dM_tried_75 : decode prog_7_method_26_code 75 = .ok (.getfield 193, 3) := by decide +kernel
theorem dM_tried_78 : decode prog_7_method_26_code 78 = .ok (.iconst 0, 1) := by decide +kernel
theorem dM_tried_79 : decode prog_7_method_26_code 79 = .ok (.iastore, 1) := by decide +kernel
theorem dM_tried_80 : decode prog_7_method_26_code 80 = .ok (.aload_n 0, 1) := by decide +kernel
theorem dM_tried_81 : decode prog_7_method_26_code 81 = .ok (.dup, 1) := by decide +kernel
theorem dM_tried_82 : decode prog_7_method_26_code 82 = .ok (.getfield 193, 3) := by decide +kernel
theorem dM_tried_85 : decode prog_7_method_26_code 85 = .ok (.iconst 1, 1) := by decide +kernel
theorem dM_tried_86 : decode prog_7_method_26_code 86 = .ok (.iadd, 1) := by decide +kernel
theorem dM_tried_87 : decode prog_7_method_26_code 87 = .ok (.putfield 193, 3) := by decide +kernel
theorem dM_tried_90 : decode prog_7_method_26_code 90 = .ok (.iconst 1, 1) := by decide +kernel
theorem dM_tried_91 : decode prog_7_method_26_code 91 = .ok (.ireturn, 1) := by decide +kernel
theorem dM_wanted_0 : decode prog_7_method_16_code 0 = .ok (.aload_n 0, 1) := by decide +kernel
theorem dM_wanted_1 : decode prog_7_method_16_code 1 = .ok (.iconst 0, 1) := by decide +kernel
theorem dM_wanted_2 : decode prog_7_method_16_code 2 = .ok (.putfield 115, 3) := by decide +kernel
theorem dM_wanted_5 : decode prog_7_method_16_code 5 = .ok (.iload_n 1, 1) := by decide +kernel
theorem dM_wanted_6 : decode prog_7_method_16_code 6 = .ok (.invokestatic 145, 3) := by decide +kernel
theorem dM_wanted_9 : decode prog_7_method_16_code 9 = .ok (.ifCond .eq 25, 3) := by decide +kernel
theorem dM_wanted_12 : decode prog_7_method_16_code 12 = .ok (.aload_n 0, 1) := by decide +kernel
theorem dM_wanted_13 : decode prog_7_method_16_code 13 = .ok (.getfield 128, 3) := by decide +kernel
theorem dM_wanted_16 : decode prog_7_method_16_code 16 = .ok (.iload_n 1, 1) := by decide +kernel
theorem dM_wanted_17 : decode prog_7_method_16_code 17 = .ok (.lshr, 1) := by decide +kernel
theorem dM_wanted_18 : decode prog_7_method_16_code 18 = .ok (.lconst 1, 1) := by decide +kernel
theorem dM_wanted_19 : decode prog_7_method_16_code 19 = .ok (.land, 1) := by decide +kernel
theorem dM_wanted_20 : decode prog_7_method_16_code 20 = .ok (.lconst 1, 1) := by decide +kernel
theorem dM_wanted_21 : decode prog_7_method_16_code 21 = .ok (.lcmp, 1) := by decide +kernel
theorem dM_wanted_22 : decode prog_7_method_16_code 22 = .ok (.ifCond .ne 7, 3) := by decide +kernel
theorem dM_wanted_25 : decode prog_7_method_16_code 25 = .ok (.iconst 1, 1) := by decide +kernel
theorem dM_wanted_26 : decode prog_7_method_16_code 26 = .ok (.goto 4, 3) := by decide +kernel
theorem dM_wanted_29 : decode prog_7_method_16_code 29 = .ok (.iconst 0, 1) := by decide +kernel
theorem dM_wanted_30 : decode prog_7_method_16_code 30 = .ok (.iload_n 2, 1) := by decide +kernel
theorem dM_wanted_31 : decode prog_7_method_16_code 31 = .ok (.if_icmp .ne 5, 3) := by decide +kernel
theorem dM_wanted_34 : decode prog_7_method_16_code 34 = .ok (.iconst 0, 1) := by decide +kernel
theorem dM_wanted_35 : decode prog_7_method_16_code 35 = .ok (.ireturn, 1) := by decide +kernel
theorem dM_wanted_36 : decode prog_7_method_16_code 36 = .ok (.aload_n 0, 1) := by decide +kernel
theorem dM_wanted_37 : decode prog_7_method_16_code 37 = .ok (.aload_n 0, 1) := by decide +kernel
theorem dM_wanted_38 : decode prog_7_method_16_code 38 = .ok (.getfield 128, 3) := by decide +kernel
theorem dM_wanted_41 : decode prog_7_method_16_code 41 = .ok (.lconst 1, 1) := by decide +kernel
theorem dM_wanted_42 : decode prog_7_method_16_code 42 = .ok (.iload_n 1, 1) := by decide +kernel
theorem dM_wanted_43 : decode prog_7_method_16_code 43 = .ok (.lshl, 1) := by decide +kernel
theorem dM_wanted_44 : decode prog_7_method_16_code 44 = .ok (.lxor, 1) := by decide +kernel
theorem dM_wanted_45 : decode prog_7_method_16_code 45 = .ok (.putfield 128, 3) := by decide +kernel
theorem dM_wanted_48 : decode prog_7_method_16_code 48 = .ok (.aload_n 0, 1) := by decide +kernel
theorem dM_wanted_49 : decode prog_7_method_16_code 49 = .ok (.invokevirtual 135, 3) := by decide +kernel
theorem dM_wanted_52 : decode prog_7_method_16_code 52 = .ok (.iconst 1, 1) := by decide +kernel
theorem dM_wanted_53 : decode prog_7_method_16_code 53 = .ok (.ireturn, 1) := by decide +kernel
end
section
/-! more rows of the machine, small numbers, sets as longs -/
section JMM
variable {l : Launch} {D : mD} {M : mM} {d mc ms : Nat} {Q : Option aV → aS → Prop} {uc us pc : Nat} {ls : List (Option aV)} {sk : List aV} {st : aS}
theorem jm_getq {k i j ci idx c0 t : Nat} (hl : jm_FL M.1.cls idx ci j) (hd : decode M.2.1 pc = .ok (.getfield idx, 3)) (hk : kob k = some ci) (hc : kly k j = c0 + 3) (hr : st.2.2.1 k i j = some t) (kk : MS l D M d mc ms Q uc us (pc + 3) ls (vR (some (c0, t)) :: sk) st) : MS l D M d mc ms Q uc us pc ls (vR (some (k, i)) :: sk) st := by
  refine jm_getr hl hd hk hc ?_
  rw [hr]
  exact kk
theorem jm_getn {k i j ci idx c0 : Nat} (hl : jm_FL M.1.cls idx ci j) (hd : decode M.2.1 pc = .ok (.getfield idx, 3)) (hk : kob k = some ci) (hc : kly k j = c0 + 3) (hr : st.2.2.1 k i j = none) (kk : MS l D M d mc ms Q uc us (pc + 3) ls (vR none :: sk) st) : MS l D M d mc ms Q uc us pc ls (vR (some (k, i)) :: sk) st := by
  refine jm_getr hl hd hk hc ?_
  rw [hr]
  exact kk
theorem jm_aalq {k i c0 t : Nat} {x : Int32} (hd : decode M.2.1 pc = .ok (.aaload, 1)) (hk : kob k = none) (hn : kat k < katn) (ht : (katy (kat k)).isReference = true) (hc : ∀ j, kly k j = c0 + 3) (hin : vp_in x (kln k)) (hr : st.2.2.1 k i x.toNatClampNeg = some t) (kk : MS l D M d mc ms Q uc us (pc + 1) ls (vR (some (c0, t)) :: sk) st) : MS l D M d mc ms Q uc us pc ls (vI x :: vR (some (k, i)) :: sk) st := by
  refine jm_aald hd hk hn ht hc hin ?_
  rw [hr]
  exact kk
theorem MS.to {ls' : List (Option aV)} {sk' : List aV} {st' : aS} (h : MS l D M d mc ms Q uc us pc ls' sk' st') (e1 : ls = ls') (e2 : sk = sk') (e3 : st = st') : MS l D M d mc ms Q uc us pc ls sk st := by
  subst e1; subst e2; subst e3
  exact h
end JMM
/-- a condition as Java's boolean -/
def jb (p : Prop) [Decidable p] : Int32 := if p then 1 else 0
theorem jb_t {p : Prop} [Decidable p] (h : p) : jb p = 1 := if_pos h
theorem jb_f {p : Prop} [Decidable p] (h : ¬ p) : jb p = 0 := if_neg h
theorem jb_01 (p : Prop) [Decidable p] : jb p = 0 ∨ jb p = 1 := by
  unfold jb
  split
  · exact Or.inr rfl
  · exact Or.inl rfl
theorem jb_eq0 {p : Prop} [Decidable p] (h : jb p = 0) : ¬ p := by
  intro hp
  rw [jb_t hp] at h
  exact absurd h (by decide)
theorem jb_ne0 {p : Prop} [Decidable p] (h : ¬ jb p = 0) : p := by
  by_cases hp : p
  · exact hp
  · exact absurd (jb_f hp) h
theorem jb_congr {p q : Prop} [Decidable p] [Decidable q] (h : p ↔ q) : jb p = jb q := by
  by_cases hp : p
  · rw [jb_t hp, jb_t (h.mp hp)]
  · rw [jb_f hp, jb_f (fun z => hp (h.mpr z))]
theorem lg0 {x : Int64} : lg_cmp x 0 = 0 ↔ x = 0 := by
  unfold lg_cmp
  split
  · next h =>
    constructor
    · intro q; exact absurd q (by decide)
    · intro q; subst q; exact absurd h (by decide)
  · split
    · next h => exact ⟨fun _ => h, fun _ => rfl⟩
    · next h => exact ⟨fun q => absurd q (by decide), fun q => absurd q h⟩
theorem ni1 (k : Nat) : nI k + Int32.ofInt 1 = nI (k + 1) := nI_1 k
theorem nim1 (k : Nat) : nI (k + 1) + Int32.ofInt (-1) = nI k := by
  rw [← ni1, Int32.add_assoc]
  have : Int32.ofInt 1 + Int32.ofInt (-1) = 0 := by decide
  rw [this, Int32.add_zero]
/-- one variable as a set -/
def b1 (v : Nat) : Int64 := (1 : Int64) <<< ((nI v).toInt64 &&& 63)
/-- the variables of a row from k on, n of them -/
def rsF (vr : Nat → Nat) : Nat → Nat → Int64 → Int64
  | 0, _, s => s
  | n + 1, k, s => rsF vr n (k + 1) (s ||| b1 (vr k))
def rowS (w : Nat) (vr : Nat → Nat) (fr : Nat) : Int64 := rsF vr (w - fr) fr 0
/-- bit k of a set, by the unsigned shift -/
def hB (S : Int64) (x : Int32) : Int64 := (S.toUInt64 >>> (x.toInt64.toUInt64 &&& Int64.toUInt64 63)).toInt64 &&& 1
def hP (p k : Int32) : Int32 := (p.toUInt32 >>> (k.toUInt32 &&& Int32.toUInt32 31)).toInt32 &&& 1
/-- the IN places of a row, n of them from k on -/
def insF (o : Int32) (vr : Nat → Nat) : Nat → Nat → Int64 → Int64
  | 0, _, s => s
  | n + 1, k, s => insF o vr n (k + 1) (if hP o (nI k) = 0 then s ||| b1 (vr k) else s)
def insS (o : Int32) (w : Nat) (vr : Nat → Nat) : Int64 := insF o vr w 0 0
/-- a node's row -/
def nV (st : aS) (i w : Nat) (vr : Nat → Nat) : Prop := st.1 0 i 2 = nI w ∧ w ≤ 7 ∧ st.2.2.1 0 i 1 = some i ∧ ∀ k, k < w → st.1 6 i k = nI (vr k) ∧ vr k < 60
/-- what isn't in a set -/
def nt (a : Int64) : Int64 := a ^^^ (-1)
theorem jbt {p : Prop} [Decidable p] (h : p) : (some (vI 1) : Option aV) = some (vI (jb p)) := by rw [jb_t h]
theorem jbf {p : Prop} [Decidable p] (h : ¬ p) : (some (vI 0) : Option aV) = some (vI (jb p)) := by rw [jb_f h]
end
section
/-! what an atom does: its way and what it makes; none where it can't -/
def sameR (x y S : Int64) : Option (Int32 × Int64) := if (x ||| y) &&& nt S = 0 then some (1, 0) else if x &&& nt S = 0 then some (2, y) else if y &&& nt S = 0 then some (3, x) else none
def formR (x o S : Int64) : Option (Int32 × Int64) := if x &&& nt S = 0 then some (1, o) else if o &&& nt S = 0 then some (2, x) else none
def sumR (x o S : Int64) : Option (Int32 × Int64) := if o &&& nt S = 0 then some (if x &&& nt S = 0 then 1 else 2, x) else none
def allR (o S : Int64) : Option (Int32 × Int64) := if o &&& nt S = 0 then some (1, 0) else none
def callR (ins : Nat → Int64) (all S : Int64) : Nat → Nat → Option (Int32 × Int64)
  | 0, _ => none
  | n + 1, m => if ins m &&& nt S = 0 then some (nI m, all) else callR ins all S n (m + 1)
def atomR (s w : Nat) (vr : Nat → Nat) (md : Nat) (ou : Nat → Int32) (S : Int64) : Option (Int32 × Int64) :=
  if s = 6 then sameR (b1 (vr 0)) (b1 (vr 1)) S
  else if s = 7 then allR (rowS w vr 0) S
  else if s = 8 then formR (b1 (vr 0)) (rowS w vr 1) S
  else if s = 9 then sumR (b1 (vr 0)) (rowS w vr 1) S
  else if s = 10 then sumR (b1 (vr 0)) (rowS w vr 1) S
  else if s = 11 then allR (rowS w vr 0) S
  else if s = 12 then callR (fun m => insS (ou m) w vr) (rowS w vr 0) S md 0
  else some (0, 0)
def stt (st : aS) (i : Nat) (w : Int32) (m : Int64) : aS := sL (sI st 0 i 15 w) 0 i 14 (st.2.1 0 i 13 ||| m)
def aP (st : aS) (i : Nat) (r : Option (Int32 × Int64)) (v : Option aV) (s' : aS) : Prop := match r with
  | some q => s' = stt st i q.1 q.2 ∧ v = some (vI 1)
  | none => st = s' ∧ v = some (vI 0)
theorem aP_s {st : aS} {i : Nat} {r : Option (Int32 × Int64)} {w : Int32} {m : Int64} (h : r = some (w, m)) : aP st i r (some (vI 1)) (stt st i w m) := by
  rw [h]
  exact ⟨rfl, rfl⟩
theorem aP_n {st : aS} {i : Nat} {r : Option (Int32 × Int64)} (h : r = none) : aP st i r (some (vI 0)) st := by
  rw [h]
  exact ⟨rfl, rfl⟩
/-- the predicates: how many, their arguments, their modes, the OUT bits -/
def pR (st : aS) (np : Nat) (ar md : Nat → Nat) (ou : Nat → Nat → Int32) : Prop := st.2.2.1 1 0 0 = some 0 ∧ st.2.2.1 1 0 1 = some 0 ∧ st.2.2.1 1 0 2 = some 0 ∧ st.1 1 0 3 = nI np ∧ np ≤ 60 ∧ (∀ p, p < np → st.1 7 0 p = nI (ar p) ∧ ar p ≤ 6 ∧ st.1 8 0 p = nI (md p) ∧ md p ≤ 4) ∧ (∀ p m, p < np → m < md p → st.1 9 0 (4 * p + m) = ou p m) ∧ ∀ p, np ≤ p → p < 60 → st.1 8 0 p = 0
theorem aP_v {st s' : aS} {i : Nat} {r : Option (Int32 × Int64)} {v : Option aV} (h : aP st i r v s') : ∃ b : Int32, v = some (vI b) ∧ (b = 0 ∨ b = 1) := by
  cases r with
  | none => exact ⟨0, h.2, Or.inl rfl⟩
  | some q => exact ⟨1, h.2, Or.inr rfl⟩
end
section
/-! THE SPEC OF TRYING. A tree: how many nodes, sorts, parts, parents, depths, rows (how many, which), predicates of calls, outer and inner sets; the predicates. -/
abbrev EE : Type := Nat × (Nat → Nat) × (Nat → List Nat) × (Nat → Nat) × (Nat → Nat) × (Nat → Nat) × (Nat → Nat → Nat) × (Nat → Nat) × (Nat → Int64) × (Nat → Int64) × Nat × (Nat → Nat) × (Nat → Nat) × (Nat → Nat → Int32)
abbrev eN (E : EE) : Nat := E.1
abbrev eS (E : EE) : Nat → Nat := E.2.1
abbrev eK (E : EE) : Nat → List Nat := E.2.2.1
abbrev eP (E : EE) : Nat → Nat := E.2.2.2.1
abbrev eD (E : EE) : Nat → Nat := E.2.2.2.2.1
abbrev eW (E : EE) : Nat → Nat := E.2.2.2.2.2.1
abbrev eV (E : EE) : Nat → Nat → Nat := E.2.2.2.2.2.2.1
abbrev eQ (E : EE) : Nat → Nat := E.2.2.2.2.2.2.2.1
abbrev eO (E : EE) : Nat → Int64 := E.2.2.2.2.2.2.2.2.1
abbrev eI (E : EE) : Nat → Int64 := E.2.2.2.2.2.2.2.2.2.1
abbrev eNp (E : EE) : Nat := E.2.2.2.2.2.2.2.2.2.2.1
abbrev eAr (E : EE) : Nat → Nat := E.2.2.2.2.2.2.2.2.2.2.2.1
abbrev eMd (E : EE) : Nat → Nat := E.2.2.2.2.2.2.2.2.2.2.2.2.1
abbrev eOu (E : EE) : Nat → Nat → Int32 := E.2.2.2.2.2.2.2.2.2.2.2.2.2
def eA (E : EE) (i : Nat) (S : Int64) : Option (Int32 × Int64) := atomR (eS E i) (eW E i) (eV E i) (eMd E (eQ E i)) (eOu E (eQ E i)) S
/-- what a try gives: what is ground behind, or the stuck node; and how many tries -/
abbrev RR : Type := (Int64 ⊕ Nat) × Nat
def stk (r : Int64 ⊕ Nat) (q : Nat) : Nat := match r with
  | .inr s => s
  | .inl _ => q
def scanF (f : Nat → Int64 → RR) (S : Int64) : List Nat → Option (Nat × Int64) × Nat
  | [] => (none, 0)
  | p :: ps => match (f p S).1 with
    | .inl B => (some (p, B), (f p S).2)
    | .inr _ => ((scanF f S ps).1, (f p S).2 + (scanF f S ps).2)
def rowF (f : Nat → Int64 → RR) : Nat → List Nat → Int64 → RR × List (Nat × Int64)
  | 0, _, S => ((.inl S, 0), [])
  | _ + 1, [], S => ((.inl S, 0), [])
  | n + 1, q :: qs, S => match (scanF f S (q :: qs)).1 with
    | some z => (((rowF f n ((q :: qs).erase z.1) z.2).1.1, (scanF f S (q :: qs)).2 + (rowF f n ((q :: qs).erase z.1) z.2).1.2), (z.1, S) :: (rowF f n ((q :: qs).erase z.1) z.2).2)
    | none => ((.inr (stk (f q S).1 q), (scanF f S (q :: qs)).2), [])
def chF (f : Nat → Int64 → RR) (S : Int64) : List Nat → Int64 → Int64 → ((Int64 × Int64) ⊕ Nat) × Nat
  | [], e, s => (.inl (e, s), 0)
  | p :: ps, e, s => match (f p S).1 with
    | .inr t => (.inr t, (f p S).2)
    | .inl B => ((chF f S ps (e &&& B) (s ||| B)).1, (f p S).2 + (chF f S ps (e &&& B) (s ||| B)).2)
def joinF (i : Nat) (S O e s : Int64) : Int64 ⊕ Nat := if (O &&& nt S) &&& s &&& nt e = 0 then .inl (S ||| ((O &&& nt S) &&& s)) else .inr i
def notF (i : Nat) (S O : Int64) (r : Int64 ⊕ Nat) : Int64 ⊕ Nat := match r with
  | .inr t => .inr t
  | .inl B => if (B &&& nt S) &&& O = 0 then .inl S else .inr i
def testF (f : Nat → Int64 → RR) (i : Nat) (S O I : Int64) (a b c : Nat) : RR := match (f a S).1 with
  | .inr t => (.inr t, (f a S).2)
  | .inl A => if (A &&& nt S) &&& (O ||| I) = 0 then
      match (f b A).1 with
      | .inr t => (.inr t, (f a S).2 + (f b A).2)
      | .inl B => match (f c S).1 with
        | .inr t => (.inr t, (f a S).2 + (f b A).2 + (f c S).2)
        | .inl C => (joinF i S O (B &&& C) (B ||| C), (f a S).2 + (f b A).2 + (f c S).2)
    else (.inr i, (f a S).2)
def tryF (E : EE) : Nat → Nat → Int64 → RR
  | 0, i, _ => (.inr i, 1)
  | f + 1, i, S =>
    if eS E i = 0 then ((rowF (tryF E f) (eK E i).length (eK E i) S).1.1, 1 + (rowF (tryF E f) (eK E i).length (eK E i) S).1.2)
    else if eS E i = 1 then (match (chF (tryF E f) S (eK E i) (-1) 0).1 with
        | .inr t => .inr t
        | .inl z => joinF i S (eO E i) z.1 z.2, 1 + (chF (tryF E f) S (eK E i) (-1) 0).2)
    else if eS E i = 2 then (match eK E i with
        | [] => (.inr i, 1)
        | p :: _ => (notF i S (eO E i) (tryF E f p S).1, 1 + (tryF E f p S).2))
    else if eS E i = 3 then (match eK E i with
        | a :: b :: c :: _ => ((testF (tryF E f) i S (eO E i) (eI E c) a b c).1, 1 + (testF (tryF E f) i S (eO E i) (eI E c) a b c).2)
        | _ => (.inr i, 1))
    else (match eA E i S with
        | some z => .inl (S ||| z.2)
        | none => .inr i, 1)
/-- after a try that could be done: each node below with its set ahead, and a row's order -/
def finF (E : EE) : Nat → Nat → Int64 → List (Nat × Int64 × List Nat)
  | 0, _, _ => []
  | f + 1, i, S =>
    if eS E i = 0 then (i, S, (rowF (tryF E f) (eK E i).length (eK E i) S).2.map Prod.fst) :: (rowF (tryF E f) (eK E i).length (eK E i) S).2.flatMap (fun q => finF E f q.1 q.2)
    else if eS E i = 1 then (i, S, []) :: (eK E i).flatMap (fun p => finF E f p S)
    else if eS E i = 2 then (i, S, []) :: (match eK E i with
        | [] => []
        | p :: _ => finF E f p S)
    else if eS E i = 3 then (i, S, []) :: (match eK E i with
        | a :: b :: c :: _ => (match (tryF E f a S).1 with
            | .inl A => finF E f a S ++ finF E f b A ++ finF E f c S
            | .inr _ => [])
        | _ => [])
    else [(i, S, [])]
/-! below a node -/
def itP (par : Nat → Nat) : Nat → Nat → Nat
  | 0, m => m
  | k + 1, m => itP par k (par m)
def subP (par : Nat → Nat) (i m : Nat) : Prop := ∃ k, itP par k m = i
theorem itP_add (par : Nat → Nat) : ∀ a b m, itP par (a + b) m = itP par b (itP par a m)
  | 0, b, m => by rw [Nat.zero_add]; rfl
  | a + 1, b, m => by
    rw [show a + 1 + b = (a + b) + 1 by omega]
    show itP par (a + b) (par m) = itP par b (itP par a (par m))
    exact itP_add par a b (par m)
theorem itP_le {par : Nat → Nat} (h : ∀ j, par j ≤ j) : ∀ k m, itP par k m ≤ m
  | 0, _ => Nat.le_refl _
  | k + 1, m => Nat.le_trans (itP_le h k (par m)) (h m)
theorem subP_self {par : Nat → Nat} {i : Nat} : subP par i i := ⟨0, rfl⟩
theorem subP_up {par : Nat → Nat} {i p m : Nat} (h : par p = i) (hs : subP par p m) : subP par i m := by
  obtain ⟨k, hk⟩ := hs
  refine ⟨k + 1, ?_⟩
  rw [itP_add par k 1 m, hk]
  exact h
theorem subP_gt {par : Nat → Nat} (h : ∀ j, par j ≤ j) {i m : Nat} (hs : subP par i m) : i ≤ m := by
  obtain ⟨k, hk⟩ := hs
  rw [← hk]
  exact itP_le h k m
theorem subP_apart {par : Nat → Nat} (h : ∀ j, par j ≤ j) {i p q m : Nat} (hp : par p = i) (hq : par q = i) (hip : i < p) (hiq : i < q) (hne : p ≠ q) (h1 : subP par p m) (h2 : subP par q m) : False := by
  have key : ∀ {p q : Nat}, par p = i → i < q → p ≠ q → ∀ a b, a ≤ b → itP par a m = p → itP par b m = q → False := by
    intro p q hp hiq hne a b hab ea eb
    obtain ⟨c, rfl⟩ : ∃ c, b = a + c := ⟨b - a, by omega⟩
    rw [itP_add, ea] at eb
    cases c with
    | zero => exact hne eb
    | succ c =>
      have e2 : itP par c (par p) = q := eb
      rw [hp] at e2
      have := itP_le h c i
      omega
  obtain ⟨a, ea⟩ := h1
  obtain ⟨b, eb⟩ := h2
  by_cases hab : a ≤ b
  · exact key hp hiq hne a b hab ea eb
  · exact key hq hip (Ne.symm hne) b a (by omega) eb ea
/-! what a try may change -/
def SE (st s' : aS) : Prop := s'.2.2.2 = st.2.2.2 ∧ (∀ k i j, ¬ (k = 0 ∧ (j = 15 ∨ j = 16 ∨ j = 17)) → ¬ (k = 3 ∧ (j = 2 ∨ j = 3)) → s'.1 k i j = st.1 k i j) ∧ (∀ k i j, ¬ (k = 0 ∧ (j = 13 ∨ j = 14)) → s'.2.1 k i j = st.2.1 k i j) ∧ ∀ k i j, ¬ (k = 0 ∧ (j = 18 ∨ j = 19)) → s'.2.2.1 k i j = st.2.2.1 k i j
def NF (X : Nat → Prop) (st s' : aS) : Prop := ∀ m, ¬ X m → ∀ j, s'.1 0 m j = st.1 0 m j ∧ s'.2.1 0 m j = st.2.1 0 m j ∧ s'.2.2.1 0 m j = st.2.2.1 0 m j
def TF (E : EE) (i : Nat) (st s' : aS) : Prop := SE st s' ∧ NF (subP (eP E) i) st s' ∧ s'.1 0 i 17 = st.1 0 i 17 ∧ s'.2.2.1 0 i 19 = st.2.2.1 0 i 19
theorem SE.rf {st : aS} : SE st st := ⟨rfl, fun _ _ _ _ _ => rfl, fun _ _ _ _ => rfl, fun _ _ _ _ => rfl⟩
theorem SE.tr {a b c : aS} (h : SE a b) (g : SE b c) : SE a c := ⟨g.1.trans h.1, fun k i j x y => (g.2.1 k i j x y).trans (h.2.1 k i j x y), fun k i j x => (g.2.2.1 k i j x).trans (h.2.2.1 k i j x), fun k i j x => (g.2.2.2 k i j x).trans (h.2.2.2 k i j x)⟩
theorem NF.rf {X : Nat → Prop} {st : aS} : NF X st st := fun _ _ _ => ⟨rfl, rfl, rfl⟩
theorem NF.tr {X : Nat → Prop} {a b c : aS} (h : NF X a b) (g : NF X b c) : NF X a c := fun m hm j => ⟨(g m hm j).1.trans (h m hm j).1, (g m hm j).2.1.trans (h m hm j).2.1, (g m hm j).2.2.trans (h m hm j).2.2⟩
theorem NF.up {X Y : Nat → Prop} {a b : aS} (h : NF X a b) (hxy : ∀ m, X m → Y m) : NF Y a b := fun m hm j => h m (fun q => hm (hxy m q)) j
theorem TF.rf {E : EE} {i : Nat} {st : aS} : TF E i st st := ⟨SE.rf, NF.rf, rfl, rfl⟩
theorem TF.tr {E : EE} {i : Nat} {a b c : aS} (h : TF E i a b) (g : TF E i b c) : TF E i a c := ⟨h.1.tr g.1, h.2.1.tr g.2.1, g.2.2.1.trans h.2.2.1, g.2.2.2.trans h.2.2.2⟩
/-- what a tree is -/
def TR (E : EE) : Prop := eN E ≤ 250 ∧ (∀ j, eP E j ≤ j) ∧ ∀ i, i < eN E → eS E i ≤ 12 ∧ eD E i ≤ 20 ∧ (eK E i).Nodup ∧ (∀ p ∈ eK E i, p < eN E ∧ i < p ∧ eP E p = i ∧ eD E p = eD E i + 1) ∧ (eS E i = 6 → eW E i = 2) ∧ (eS E i = 8 ∨ eS E i = 9 ∨ eS E i = 10 → 1 ≤ eW E i) ∧ (eS E i = 12 → eQ E i < eNp E) ∧ (3 < eS E i → eI E i = rowS (eW E i) (eV E i) 0)
/-- the class's tree and predicates, as a try sees them -/
def TC (E : EE) (st : aS) : Prop := TR E ∧ pR st (eNp E) (eAr E) (eMd E) (eOu E) ∧ st.2.2.1 3 0 0 = some 0 ∧ ∀ i, i < eN E → st.1 0 i 0 = nI i ∧ st.1 0 i 3 = nI (eS E i) ∧ st.1 0 i 6 = nI (eK E i).length ∧ st.2.2.1 0 i 8 = (eK E i).head? ∧ (∀ k p, (eK E i)[k]? = some p → st.2.2.1 0 p 10 = (eK E i)[k + 1]?) ∧ st.2.1 0 i 11 = eI E i ∧ st.2.1 0 i 12 ||| st.2.1 3 0 1 = eO E i ∧ nV st i (eW E i) (eV E i) ∧ (eS E i = 12 → st.1 0 i 4 = nI (eQ E i))
end
section
/-! what stays over a try -/
theorem nV.mv {st s' : aS} {i w : Nat} {vr : Nat → Nat} (h : nV st i w vr) (g : SE st s') : nV s' i w vr := ⟨(g.2.1 0 i 2 (by decide) (by decide)).trans h.1, h.2.1, (g.2.2.2 0 i 1 (by decide)).trans h.2.2.1, fun k hk => ⟨(g.2.1 6 i k (by omega) (by omega)).trans (h.2.2.2 k hk).1, (h.2.2.2 k hk).2⟩⟩
theorem pR.mv {st s' : aS} {np : Nat} {ar md : Nat → Nat} {ou : Nat → Nat → Int32} (h : pR st np ar md ou) (g : SE st s') : pR s' np ar md ou := by
  obtain ⟨h1, h2, h3, h4, h5, h6, h7, h8⟩ := h
  refine ⟨(g.2.2.2 1 0 0 (by decide)).trans h1, (g.2.2.2 1 0 1 (by decide)).trans h2, (g.2.2.2 1 0 2 (by decide)).trans h3, (g.2.1 1 0 3 (by decide) (by decide)).trans h4, h5, fun p hp => ⟨(g.2.1 7 0 p (by omega) (by omega)).trans (h6 p hp).1, (h6 p hp).2.1, (g.2.1 8 0 p (by omega) (by omega)).trans (h6 p hp).2.2.1, (h6 p hp).2.2.2⟩, fun p m hp hm => (g.2.1 9 0 _ (by omega) (by omega)).trans (h7 p m hp hm), fun p hp hq => (g.2.1 8 0 p (by omega) (by omega)).trans (h8 p hp hq)⟩
theorem TC.mv {E : EE} {st s' : aS} (h : TC E st) (g : SE st s') : TC E s' := by
  obtain ⟨h1, h2, h3, h4⟩ := h
  refine ⟨h1, h2.mv g, (g.2.2.2 3 0 0 (by decide)).trans h3, fun i hi => ?_⟩
  obtain ⟨a1, a2, a3, a4, a5, a6, a7, a8, a9⟩ := h4 i hi
  refine ⟨(g.2.1 0 i 0 (by decide) (by decide)).trans a1, (g.2.1 0 i 3 (by decide) (by decide)).trans a2, (g.2.1 0 i 6 (by decide) (by decide)).trans a3, (g.2.2.2 0 i 8 (by decide)).trans a4, fun k p hk => (g.2.2.2 0 p 10 (by decide)).trans (a5 k p hk), (g.2.2.1 0 i 11 (by decide)).trans a6, ?_, a8.mv g, fun q => (g.2.1 0 i 4 (by decide) (by decide)).trans (a9 q)⟩
  rw [g.2.2.1 0 i 12 (by decide), g.2.2.1 3 0 1 (by decide)]
  exact a7
theorem TF.pI {E : EE} {i a j : Nat} {st : aS} {v : Int32} (ha : subP (eP E) i a) (hj : j = 15 ∨ j = 16 ∨ (j = 17 ∧ a ≠ i)) : TF E i st (sI st 0 a j v) := by
  refine ⟨⟨rfl, fun k b c x y => ?_, fun _ _ _ _ => rfl, fun _ _ _ _ => rfl⟩, fun m hm c => ⟨?_, rfl, rfl⟩, ?_, rfl⟩
  · show u3 _ _ _ _ _ k b c = _
    unfold u3
    rw [if_neg (fun q => x ⟨q.1, by omega⟩)]
  · show u3 _ _ _ _ _ 0 m c = _
    unfold u3
    rw [if_neg (fun q => hm (by rw [q.2.1]; exact ha))]
  · show u3 _ _ _ _ _ 0 i 17 = _
    unfold u3
    rw [if_neg (fun q => by omega)]
theorem TF.pT {E : EE} {i j : Nat} {st : aS} {v : Int32} (hj : j = 2 ∨ j = 3) : TF E i st (sI st 3 0 j v) := by
  refine ⟨⟨rfl, fun k b c x y => ?_, fun _ _ _ _ => rfl, fun _ _ _ _ => rfl⟩, fun m hm c => ⟨?_, rfl, rfl⟩, ?_, rfl⟩
  · show u3 st.1 3 0 j v k b c = _
    unfold u3
    rw [if_neg (fun q => y ⟨q.1, by omega⟩)]
  · show u3 st.1 3 0 j v 0 m c = _
    unfold u3
    rw [if_neg (fun q => by omega)]
  · show u3 st.1 3 0 j v 0 i 17 = _
    unfold u3
    rw [if_neg (fun q => by omega)]
theorem TF.pL {E : EE} {i a j : Nat} {st : aS} {v : Int64} (ha : subP (eP E) i a) (hj : j = 13 ∨ j = 14) : TF E i st (sL st 0 a j v) := by
  refine ⟨⟨rfl, fun _ _ _ _ _ => rfl, fun k b c x => ?_, fun _ _ _ _ => rfl⟩, fun m hm c => ⟨rfl, ?_, rfl⟩, rfl, rfl⟩
  · show u3 _ _ _ _ _ k b c = _
    unfold u3
    rw [if_neg (fun q => x ⟨q.1, by omega⟩)]
  · show u3 _ _ _ _ _ 0 m c = _
    unfold u3
    rw [if_neg (fun q => hm (by rw [q.2.1]; exact ha))]
theorem TF.pR {E : EE} {i a j : Nat} {st : aS} {v : Option Nat} (ha : subP (eP E) i a) (hj : j = 18 ∨ (j = 19 ∧ a ≠ i)) : TF E i st (sR st 0 a j v) := by
  refine ⟨⟨rfl, fun _ _ _ _ _ => rfl, fun _ _ _ _ => rfl, fun k b c x => ?_⟩, fun m hm c => ⟨rfl, rfl, ?_⟩, rfl, ?_⟩
  · show u3 _ _ _ _ _ k b c = _
    unfold u3
    rw [if_neg (fun q => x ⟨q.1, by omega⟩)]
  · show u3 _ _ _ _ _ 0 m c = _
    unfold u3
    rw [if_neg (fun q => hm (by rw [q.2.1]; exact ha))]
  · show u3 _ _ _ _ _ 0 i 19 = _
    unfold u3
    rw [if_neg (fun q => by omega)]
theorem TR.kid {E : EE} (h : TR E) {i p : Nat} (hi : i < eN E) (hp : p ∈ eK E i) : p < eN E ∧ i < p ∧ eP E p = i ∧ eD E p = eD E i + 1 := (h.2.2 i hi).2.2.2.1 p hp
theorem TR.sub {E : EE} (h : TR E) {i p m : Nat} (hi : i < eN E) (hp : p ∈ eK E i) (hs : subP (eP E) p m) : subP (eP E) i m := subP_up (h.kid hi hp).2.2.1 hs
theorem TR.nself {E : EE} (h : TR E) {i p : Nat} (hi : i < eN E) (hp : p ∈ eK E i) : ¬ subP (eP E) p i := fun q => by
  have := subP_gt h.2.1 q
  have := (h.kid hi hp).2.1
  omega
theorem TR.apart {E : EE} (h : TR E) {i p q m : Nat} (hi : i < eN E) (hp : p ∈ eK E i) (hq : q ∈ eK E i) (hne : p ≠ q) (h1 : subP (eP E) p m) (h2 : subP (eP E) q m) : False := subP_apart h.2.1 (h.kid hi hp).2.2.1 (h.kid hi hq).2.2.1 (h.kid hi hp).2.1 (h.kid hi hq).2.1 hne h1 h2
theorem TF.at {E : EE} (h : TR E) {i p : Nat} {st s' : aS} (hi : i < eN E) (hp : p ∈ eK E i) (g : TF E p st s') (j : Nat) : s'.1 0 i j = st.1 0 i j ∧ s'.2.1 0 i j = st.2.1 0 i j ∧ s'.2.2.1 0 i j = st.2.2.1 0 i j := g.2.1 i (h.nself hi hp) j
theorem TF.up {E : EE} (h : TR E) {i p : Nat} {st s' : aS} (hi : i < eN E) (hp : p ∈ eK E i) (g : TF E p st s') : TF E i st s' := ⟨g.1, g.2.1.up (fun m q => h.sub hi hp q), (g.at h hi hp 17).1, (g.at h hi hp 19).2.2⟩
theorem TF.sib {E : EE} (h : TR E) {i p q m : Nat} {st s' : aS} (hi : i < eN E) (hp : p ∈ eK E i) (hq : q ∈ eK E i) (hne : p ≠ q) (hm : subP (eP E) q m) (g : TF E p st s') (j : Nat) : s'.1 0 m j = st.1 0 m j ∧ s'.2.1 0 m j = st.2.1 0 m j ∧ s'.2.2.1 0 m j = st.2.2.1 0 m j := g.2.1 m (fun z => h.apart hi hp hq hne z hm) j
/-! what a done try leaves -/
def dn (s' : aS) (m : Nat) (ord : List Nat) : Prop := s'.2.2.1 0 m 18 = ord.head? ∧ ∀ k p, ord[k]? = some p → s'.2.2.1 0 p 19 = ord[k + 1]?
def gd (E : EE) (s' : aS) (L : List (Nat × Int64 × List Nat)) : Prop := ∀ q ∈ L, s'.2.1 0 q.1 13 = q.2.1 ∧ (3 < eS E q.1 → ∃ w m, eA E q.1 q.2.1 = some (w, m) ∧ s'.1 0 q.1 15 = w) ∧ (eS E q.1 = 0 → dn s' q.1 q.2.2)
theorem gd.app {E : EE} {s' : aS} {A B : List (Nat × Int64 × List Nat)} (h : gd E s' A) (g : gd E s' B) : gd E s' (A ++ B) := fun q hq => (List.mem_append.mp hq).elim (h q) (g q)
theorem gd.cons {E : EE} {s' : aS} {q : Nat × Int64 × List Nat} {B : List (Nat × Int64 × List Nat)} (h1 : s'.2.1 0 q.1 13 = q.2.1) (h2 : 3 < eS E q.1 → ∃ w m, eA E q.1 q.2.1 = some (w, m) ∧ s'.1 0 q.1 15 = w) (h3 : eS E q.1 = 0 → dn s' q.1 q.2.2) (g : gd E s' B) : gd E s' (q :: B) := fun z hz => (List.mem_cons.mp hz).elim (fun e => by rw [e]; exact ⟨h1, h2, h3⟩) (g z)
theorem gd.keep {E : EE} {st s' : aS} {L : List (Nat × Int64 × List Nat)} (h : gd E st L) (h1 : ∀ q ∈ L, s'.2.1 0 q.1 13 = st.2.1 0 q.1 13 ∧ s'.1 0 q.1 15 = st.1 0 q.1 15 ∧ s'.2.2.1 0 q.1 18 = st.2.2.1 0 q.1 18) (h2 : ∀ q ∈ L, ∀ p ∈ q.2.2, s'.2.2.1 0 p 19 = st.2.2.1 0 p 19) : gd E s' L := by
  intro q hq
  obtain ⟨a, b, c⟩ := h q hq
  obtain ⟨e1, e2, e3⟩ := h1 q hq
  refine ⟨by rw [e1]; exact a, fun z => ?_, fun z => ⟨by rw [e3]; exact (c z).1, fun k p hk => ?_⟩⟩
  · obtain ⟨w, m, r1, r2⟩ := b z
    exact ⟨w, m, r1, by rw [e2]; exact r2⟩
  · rw [h2 q hq p (List.mem_of_getElem? hk)]
    exact (c z).2 k p hk
theorem scanF_mem {f : Nat → Int64 → RR} {S : Int64} : ∀ {rem : List Nat} {z : Nat × Int64}, (scanF f S rem).1 = some z → z.1 ∈ rem ∧ (f z.1 S).1 = .inl z.2
  | [], z, h => by simp [scanF] at h
  | p :: ps, z, h => by
    unfold scanF at h
    split at h
    · next B hB => cases h; exact ⟨List.mem_cons_self, hB⟩
    · have := scanF_mem (rem := ps) h
      exact ⟨List.mem_cons_of_mem _ this.1, this.2⟩
theorem rowF_mem {f : Nat → Int64 → RR} : ∀ {n : Nat} {rem : List Nat} {S : Int64} {z : Nat × Int64}, z ∈ (rowF f n rem S).2 → z.1 ∈ rem ∧ ∃ B, (f z.1 z.2).1 = .inl B
  | 0, _, _, _, h => by simp [rowF] at h
  | _ + 1, [], _, _, h => by simp [rowF] at h
  | n + 1, q :: qs, S, z, h => by
    unfold rowF at h
    split at h
    · next y hy =>
      rcases List.mem_cons.mp h with rfl | h
      · exact ⟨(scanF_mem hy).1, y.2, (scanF_mem hy).2⟩
      · have := rowF_mem h
        exact ⟨List.mem_of_mem_erase this.1, this.2⟩
    · cases h
theorem finF_sub {E : EE} (hT : TR E) : ∀ (f : Nat) {i : Nat} {S : Int64}, i < eN E → ∀ q ∈ finF E f i S, subP (eP E) i q.1 ∧ ∀ p ∈ q.2.2, subP (eP E) i p ∧ i < p
  | 0, _, _, _, q, hq => by simp [finF] at hq
  | f + 1, i, S, hi, q, hq => by
    have kid : ∀ {p : Nat} {S' : Int64}, p ∈ eK E i → q ∈ finF E f p S' → subP (eP E) i q.1 ∧ ∀ p ∈ q.2.2, subP (eP E) i p ∧ i < p := by
      intro p S' hp h
      have h1 := finF_sub hT f (hT.kid hi hp).1 q h
      exact ⟨hT.sub hi hp h1.1, fun r hr => ⟨hT.sub hi hp (h1.2 r hr).1, Nat.lt_trans (hT.kid hi hp).2.1 (h1.2 r hr).2⟩⟩
    unfold finF at hq
    split at hq
    · rcases List.mem_cons.mp hq with rfl | h
      · refine ⟨subP_self, fun p hp => ?_⟩
        obtain ⟨z, hz, rfl⟩ := List.mem_map.mp hp
        have hk := (rowF_mem hz).1
        exact ⟨hT.sub hi hk subP_self, (hT.kid hi hk).2.1⟩
      · obtain ⟨z, hz, h⟩ := List.mem_flatMap.mp h
        exact kid (rowF_mem hz).1 h
    · split at hq
      · rcases List.mem_cons.mp hq with rfl | h
        · exact ⟨subP_self, fun p hp => by cases hp⟩
        · obtain ⟨z, hz, h⟩ := List.mem_flatMap.mp h
          exact kid hz h
      · split at hq
        · rcases List.mem_cons.mp hq with rfl | h
          · exact ⟨subP_self, fun p hp => by cases hp⟩
          · split at h
            · cases h
            · next p ps hk => exact kid (by rw [hk]; exact List.mem_cons_self) h
        · split at hq
          · rcases List.mem_cons.mp hq with rfl | h
            · exact ⟨subP_self, fun p hp => by cases hp⟩
            · split at h
              · next a b c r hk =>
                split at h
                · rcases List.mem_append.mp h with h | h
                  · rcases List.mem_append.mp h with h | h
                    · exact kid (by rw [hk]; simp) h
                    · exact kid (by rw [hk]; simp) h
                  · exact kid (by rw [hk]; simp) h
                · cases h
              · cases h
          · rw [List.mem_singleton] at hq
            subst hq
            exact ⟨subP_self, fun p hp => by cases hp⟩
/-- the data of a part stays while its siblings are tried -/
theorem gd.sib {E : EE} (hT : TR E) {i p q : Nat} {S : Int64} {f : Nat} {st s' : aS} (hi : i < eN E) (hp : p ∈ eK E i) (hq : q ∈ eK E i) (hne : p ≠ q) (g : TF E p st s') (h : gd E st (finF E f q S)) : gd E s' (finF E f q S) := by
  refine h.keep (fun z hz => ?_) (fun z hz r hr => ?_)
  · have h1 := (finF_sub hT f (hT.kid hi hq).1 z hz).1
    exact ⟨(g.sib hT hi hp hq hne h1 13).2.1, (g.sib hT hi hp hq hne h1 15).1, (g.sib hT hi hp hq hne h1 18).2.2⟩
  · exact (g.sib hT hi hp hq hne ((finF_sub hT f (hT.kid hi hq).1 z hz).2 r hr).1 19).2.2
end
section
section CLeaf
variable {l : Launch} {D : mD} {d : Nat} {st : aS}
set_option maxRecDepth 100000 in
set_option maxHeartbeats 4000000 in
theorem c_G_isVariable (x : Int32)  : MC l D mG_isVariable d 0 0 [vI x] st (fun v s' => st = s' ∧ v = some (vI (jb (¬ x < 0 ∧ ¬ 60 ≤ x)))) := by
  refine jm_start (ls0 := [some (vI x)]) (by decide) (Nat.le_of_ble_eq_true rfl) rfl ?_
  refine jm_iload_n (pc := 0) dG_isVariable_0 rfl ?_
  refine jm_if_lt (pc := 1) (tgt := 14) dG_isVariable_1 (by decide) (fun h1 => ?_) (fun h1 => ?_)
  · refine jm_iconst (pc := 14) (v := 0) dG_isVariable_14 (by decide) ?_
    refine jm_zret (pc := 15) dG_isVariable_15 rfl (by first | exact Or.inl rfl | exact Or.inr rfl | assumption) ⟨Nat.le_refl _, Nat.le_refl _⟩ ?_
    refine ⟨rfl, ?_⟩
    first | exact jbt ⟨h1, h7⟩ | exact jbf (fun q => q.1 h1) | exact jbf (fun q => q.2 h7)
  · refine jm_iload_n (pc := 4) dG_isVariable_4 rfl ?_
    refine jm_bipush (pc := 5) (v := 60) dG_isVariable_5 (by decide) ?_
    refine jm_icmp_ge (pc := 7) (tgt := 14) dG_isVariable_7 (by decide) (fun h7 => ?_) (fun h7 => ?_)
    · refine jm_iconst (pc := 14) (v := 0) dG_isVariable_14 (by decide) ?_
      refine jm_zret (pc := 15) dG_isVariable_15 rfl (by first | exact Or.inl rfl | exact Or.inr rfl | assumption) ⟨Nat.le_refl _, Nat.le_refl _⟩ ?_
      refine ⟨rfl, ?_⟩
      first | exact jbt ⟨h1, h7⟩ | exact jbf (fun q => q.1 h1) | exact jbf (fun q => q.2 h7)
    · refine jm_iconst (pc := 10) (v := 1) dG_isVariable_10 (by decide) ?_
      refine jm_goto (pc := 11) (tgt := 15) dG_isVariable_11 (by decide) ?_
      refine jm_zret (pc := 15) dG_isVariable_15 rfl (by first | exact Or.inl rfl | exact Or.inr rfl | assumption) ⟨Nat.le_refl _, Nat.le_refl _⟩ ?_
      refine ⟨rfl, ?_⟩
      first | exact jbt ⟨h1, h7⟩ | exact jbf (fun q => q.1 h1) | exact jbf (fun q => q.2 h7)
set_option maxRecDepth 100000 in
set_option maxHeartbeats 4000000 in
theorem c_G_holds (S : Int64) (x : Int32)  : MC l D mG_holds d 0 0 [vL S, vI x] st (fun v s' => st = s' ∧ v = some (vI (jb (¬ hB S x = 0)))) := by
  refine jm_start (ls0 := [some (vL S), none, some (vI x)]) (by decide) (Nat.le_of_ble_eq_true rfl) rfl ?_
  refine jm_lload_n (pc := 0) dG_holds_0 rfl ?_
  refine jm_iload_n (pc := 1) dG_holds_1 rfl ?_
  refine jm_lushr (pc := 2) dG_holds_2 ?_
  refine jm_lconst (pc := 3) (v := 1) dG_holds_3 (by decide) ?_
  refine jm_land (pc := 4) dG_holds_4 ?_
  refine jm_lconst (pc := 5) (v := 0) dG_holds_5 (by decide) ?_
  refine jm_lcmp (pc := 6) dG_holds_6 ?_
  refine jm_if_eq (pc := 7) (tgt := 14) dG_holds_7 (by decide) (fun h7 => ?_) (fun h7 => ?_)
  · refine jm_iconst (pc := 14) (v := 0) dG_holds_14 (by decide) ?_
    refine jm_zret (pc := 15) dG_holds_15 rfl (by first | exact Or.inl rfl | exact Or.inr rfl | assumption) ⟨Nat.le_refl _, Nat.le_refl _⟩ ?_
    refine ⟨rfl, ?_⟩
    first | exact jbt (fun q => h7 (lg0.mpr q)) | exact jbf (fun q => q (lg0.mp h7))
  · refine jm_iconst (pc := 10) (v := 1) dG_holds_10 (by decide) ?_
    refine jm_goto (pc := 11) (tgt := 15) dG_holds_11 (by decide) ?_
    refine jm_zret (pc := 15) dG_holds_15 rfl (by first | exact Or.inl rfl | exact Or.inr rfl | assumption) ⟨Nat.le_refl _, Nat.le_refl _⟩ ?_
    refine ⟨rfl, ?_⟩
    first | exact jbt (fun q => h7 (lg0.mpr q)) | exact jbf (fun q => q (lg0.mp h7))
set_option maxRecDepth 100000 in
set_option maxHeartbeats 4000000 in
theorem c_G_hasPlace (p k : Int32)  : MC l D mG_hasPlace d 0 0 [vI p, vI k] st (fun v s' => st = s' ∧ v = some (vI (jb (¬ hP p k = 0)))) := by
  refine jm_start (ls0 := [some (vI p), some (vI k)]) (by decide) (Nat.le_of_ble_eq_true rfl) rfl ?_
  refine jm_iload_n (pc := 0) dG_hasPlace_0 rfl ?_
  refine jm_iload_n (pc := 1) dG_hasPlace_1 rfl ?_
  refine jm_iushr (pc := 2) dG_hasPlace_2 ?_
  refine jm_iconst (pc := 3) (v := 1) dG_hasPlace_3 (by decide) ?_
  refine jm_iand (pc := 4) dG_hasPlace_4 ?_
  refine jm_if_eq (pc := 5) (tgt := 12) dG_hasPlace_5 (by decide) (fun h5 => ?_) (fun h5 => ?_)
  · refine jm_iconst (pc := 12) (v := 0) dG_hasPlace_12 (by decide) ?_
    refine jm_zret (pc := 13) dG_hasPlace_13 rfl (by first | exact Or.inl rfl | exact Or.inr rfl | assumption) ⟨Nat.le_refl _, Nat.le_refl _⟩ ?_
    refine ⟨rfl, ?_⟩
    first | exact jbt h5 | exact jbf (fun q => q h5)
  · refine jm_iconst (pc := 8) (v := 1) dG_hasPlace_8 (by decide) ?_
    refine jm_goto (pc := 9) (tgt := 13) dG_hasPlace_9 (by decide) ?_
    refine jm_zret (pc := 13) dG_hasPlace_13 rfl (by first | exact Or.inl rfl | exact Or.inr rfl | assumption) ⟨Nat.le_refl _, Nat.le_refl _⟩ ?_
    refine ⟨rfl, ?_⟩
    first | exact jbt h5 | exact jbf (fun q => q h5)
set_option maxRecDepth 100000 in
set_option maxHeartbeats 4000000 in
theorem c_N_variableAt {i j w : Nat} {vr : Nat → Nat} (hv : nV st i w vr) (hj : j < w) : MC l D mN_variableAt d 0 0 [vR (some (0, i)), vI (nI j)] st (fun v s' => st = s' ∧ v = some (vL (b1 (vr j)))) := by
  refine jm_start (ls0 := [some (vR (some (0, i))), some (vI (nI j))]) (by decide) (Nat.le_of_ble_eq_true rfl) rfl ?_
  refine jm_iload_n (pc := 0) dN_variableAt_0 rfl ?_
  refine jm_if_lt (pc := 1) (tgt := 23) dN_variableAt_1 (by decide) (fun h1 => ?_) (fun h1 => ?_)
  · first
      | exact absurd h1 (nI_pos (by have := hv.2.1; omega))
      | exact absurd (by rw [hv.1] at h9; exact h9) (nI_ge hj (by have := hv.2.1; omega))
  · refine jm_iload_n (pc := 4) dN_variableAt_4 rfl ?_
    refine jm_aload_n (pc := 5) dN_variableAt_5 rfl ?_
    refine jm_geti (pc := 6) lN_25 dN_variableAt_6 rfl (fun _ => rfl) ?_
    refine jm_icmp_ge (pc := 9) (tgt := 23) dN_variableAt_9 (by decide) (fun h9 => ?_) (fun h9 => ?_)
    · first
        | exact absurd h1 (nI_pos (by have := hv.2.1; omega))
        | exact absurd (by rw [hv.1] at h9; exact h9) (nI_ge hj (by have := hv.2.1; omega))
    · refine jm_lconst (pc := 12) (v := 1) dN_variableAt_12 (by decide) ?_
      refine jm_aload_n (pc := 13) dN_variableAt_13 rfl ?_
      refine jm_getq (pc := 14) lN_15 dN_variableAt_14 rfl rfl (hv.2.2.1) ?_
      refine jm_iload_n (pc := 17) dN_variableAt_17 rfl ?_
      refine jm_iald (pc := 18) dN_variableAt_18 rfl (by decide) rfl (fun _ => rfl) ?hin ?_
      case hin =>
        exact vp_in_nI (N := 7) (by have := hv.2.1; omega) (by decide)
      refine jm_lshl (pc := 19) dN_variableAt_19 ?_
      refine jm_goto (pc := 20) (tgt := 24) dN_variableAt_20 (by decide) ?_
      refine jm_lret (pc := 24) dN_variableAt_24 rfl ⟨Nat.le_refl _, Nat.le_refl _⟩ ?_
      exact ⟨rfl, by rw [nI_clamp (by have := hv.2.1; omega), (hv.2.2.2 j hj).1]; rfl⟩
set_option maxRecDepth 100000 in
set_option maxHeartbeats 4000000 in
theorem lp_N_variablesFrom {i w fr : Nat} {vr : Nat → Nat} {fx : Int32} (hv : nV st i w vr) : ∀ (n : Nat) (k : Nat) (x : Int32) (S : Int64), x = nI k → k ≤ w → w - k < n → rsF vr (w - k) k S = rowS w vr fr → MS l D mN_variablesFrom d 0 0 (fun v s' => st = s' ∧ v = some (vL (rowS w vr fr))) 0 0 5 [some (vR (some (0, i))), some (vI fx), some (vL S), none, some (vI x)] [] st := by
  intro n
  induction n with
  | zero =>
    intro k x S hx hk hn hS
    omega
  | succ n ih =>
    intro k x S hx hk hn hS
    refine jm_iload (pc := 5) dN_variablesFrom_5 rfl ?_
    refine jm_aload_n (pc := 7) dN_variablesFrom_7 rfl ?_
    refine jm_geti (pc := 8) lN_25 dN_variablesFrom_8 rfl (fun _ => rfl) ?_
    refine jm_icmp_ge (pc := 11) (tgt := 32) dN_variablesFrom_11 (by decide) (fun h11 => ?_) (fun h11 => ?_)
    · refine jm_lload_n (pc := 32) dN_variablesFrom_32 rfl ?_
      refine jm_lret (pc := 33) dN_variablesFrom_33 rfl ⟨Nat.le_refl _, Nat.le_refl _⟩ ?_
      have hkw : ¬ k < w := fun q => nI_ge q (by have := hv.2.1; omega) (by rw [hv.1, hx] at h11; exact h11)
      rw [show w - k = 0 by omega] at hS
      exact ⟨rfl, by rw [← hS]; rfl⟩
    · have h7 := hv.2.1
      have hkw : k < w := Nat.lt_of_not_le fun q => h11 (by rw [hv.1, hx]; exact nI_le q (by omega))
      refine jm_lload_n (pc := 14) dN_variablesFrom_14 rfl ?_
      refine jm_lconst (pc := 15) (v := 1) dN_variablesFrom_15 (by decide) ?_
      refine jm_aload_n (pc := 16) dN_variablesFrom_16 rfl ?_
      refine jm_getq (pc := 17) lN_15 dN_variablesFrom_17 rfl rfl (hv.2.2.1) ?_
      refine jm_iload (pc := 20) dN_variablesFrom_20 rfl ?_
      refine jm_iald (pc := 22) dN_variablesFrom_22 rfl (by decide) rfl (fun _ => rfl) ?hin ?_
      case hin =>
        rw [hx]; exact vp_in_nI (N := 7) (by omega) (by decide)
      refine jm_lshl (pc := 23) dN_variablesFrom_23 ?_
      refine jm_lor (pc := 24) dN_variablesFrom_24 ?_
      refine jm_lstore_n (pc := 25) dN_variablesFrom_25 (by decide) ?_
      refine jm_iinc (pc := 26) dN_variablesFrom_26 rfl (by decide) ?_
      refine jm_goto (pc := 29) (tgt := 5) dN_variablesFrom_29 (by decide) ?_
      refine ih (k + 1) _ _ (by rw [hx]; exact ni1 k) (by omega) (by omega) ?_
      rw [← hS, show w - k = (w - (k + 1)) + 1 by omega]
      show rsF vr (w - (k + 1)) (k + 1) _ = rsF vr (w - (k + 1)) (k + 1) _
      rw [hx, nI_clamp (by omega), (hv.2.2.2 k hkw).1]
      rfl
set_option maxRecDepth 100000 in
set_option maxHeartbeats 4000000 in
theorem c_N_variablesFrom {i w fr : Nat} {vr : Nat → Nat} (hv : nV st i w vr) (hf : fr ≤ w) : MC l D mN_variablesFrom d 0 0 [vR (some (0, i)), vI (nI fr)] st (fun v s' => st = s' ∧ v = some (vL (rowS w vr fr))) := by
  refine jm_start (ls0 := [some (vR (some (0, i))), some (vI (nI fr)), none, none, none]) (by decide) (Nat.le_of_ble_eq_true rfl) rfl ?_
  refine jm_lconst (pc := 0) (v := 0) dN_variablesFrom_0 (by decide) ?_
  refine jm_lstore_n (pc := 1) dN_variablesFrom_1 (by decide) ?_
  refine jm_iload_n (pc := 2) dN_variablesFrom_2 rfl ?_
  refine jm_istore (pc := 3) dN_variablesFrom_3 (by decide) ?_
  exact lp_N_variablesFrom hv (w - fr + 1) fr _ _ rfl hf (by omega) rfl
set_option maxRecDepth 100000 in
set_option maxHeartbeats 4000000 in
theorem c_R_isGround {i : Nat} (S : Int64)  : MC l D mR_isGround d 0 0 [vR (some (0, i)), vL S] st (fun v s' => st = s' ∧ v = some (vI (jb (S &&& nt (st.2.1 0 i 13) = 0)))) := by
  refine jm_start (ls0 := [some (vR (some (0, i))), some (vL S), none]) (by decide) (Nat.le_of_ble_eq_true rfl) rfl ?_
  refine jm_lload_n (pc := 0) dR_isGround_0 rfl ?_
  refine jm_aload_n (pc := 1) dR_isGround_1 rfl ?_
  refine jm_getl (pc := 2) lR_31 dR_isGround_2 rfl (fun _ => rfl) ?_
  refine jm_ldc2 (pc := 5) dR_isGround_5 klR_91 ?_
  refine jm_lxor (pc := 8) dR_isGround_8 ?_
  refine jm_land (pc := 9) dR_isGround_9 ?_
  refine jm_lconst (pc := 10) (v := 0) dR_isGround_10 (by decide) ?_
  refine jm_lcmp (pc := 11) dR_isGround_11 ?_
  refine jm_if_ne (pc := 12) (tgt := 19) dR_isGround_12 (by decide) (fun h12 => ?_) (fun h12 => ?_)
  · refine jm_iconst (pc := 19) (v := 0) dR_isGround_19 (by decide) ?_
    refine jm_zret (pc := 20) dR_isGround_20 rfl (by first | exact Or.inl rfl | exact Or.inr rfl | assumption) ⟨Nat.le_refl _, Nat.le_refl _⟩ ?_
    refine ⟨rfl, ?_⟩
    first | exact jbt (lg0.mp h12) | exact jbf (fun q => h12 (lg0.mpr q))
  · refine jm_iconst (pc := 15) (v := 1) dR_isGround_15 (by decide) ?_
    refine jm_goto (pc := 16) (tgt := 20) dR_isGround_16 (by decide) ?_
    refine jm_zret (pc := 20) dR_isGround_20 rfl (by first | exact Or.inl rfl | exact Or.inr rfl | assumption) ⟨Nat.le_refl _, Nat.le_refl _⟩ ?_
    refine ⟨rfl, ?_⟩
    first | exact jbt (lg0.mp h12) | exact jbf (fun q => h12 (lg0.mpr q))
set_option maxRecDepth 100000 in
set_option maxHeartbeats 4000000 in
theorem c_R_settle {i : Nat} (w : Int32) (S : Int64)  : MC l D mR_settle d 0 0 [vR (some (0, i)), vI w, vL S] st (fun v s' => s' = sL (sI st 0 i 15 w) 0 i 14 (st.2.1 0 i 13 ||| S) ∧ v = some (vI 1)) := by
  refine jm_start (ls0 := [some (vR (some (0, i))), some (vI w), some (vL S), none]) (by decide) (Nat.le_of_ble_eq_true rfl) rfl ?_
  refine jm_aload_n (pc := 0) dR_settle_0 rfl ?_
  refine jm_iload_n (pc := 1) dR_settle_1 rfl ?_
  refine jm_puti (pc := 2) pR_settle_168 dR_settle_2 rfl rfl ?_
  refine jm_aload_n (pc := 5) dR_settle_5 rfl ?_
  refine jm_aload_n (pc := 6) dR_settle_6 rfl ?_
  refine jm_getl (pc := 7) lR_31 dR_settle_7 rfl (fun _ => rfl) ?_
  refine jm_lload_n (pc := 10) dR_settle_10 rfl ?_
  refine jm_lor (pc := 11) dR_settle_11 ?_
  refine jm_putl (pc := 12) pR_settle_36 dR_settle_12 rfl rfl ?_
  refine jm_iconst (pc := 15) (v := 1) dR_settle_15 (by decide) ?_
  refine jm_zret (pc := 16) dR_settle_16 rfl (by first | exact Or.inl rfl | exact Or.inr rfl | assumption) ⟨Nat.le_refl _, Nat.le_refl _⟩ ?_
  exact ⟨rfl, rfl⟩
set_option maxRecDepth 100000 in
set_option maxHeartbeats 4000000 in
theorem c_R_outerOf {i t : Nat}  : MC l D mR_outerOf d 0 0 [vR (some (3, t)), vR (some (0, i))] st (fun v s' => st = s' ∧ v = some (vL (st.2.1 0 i 12 ||| st.2.1 3 t 1))) := by
  refine jm_start (ls0 := [some (vR (some (3, t))), some (vR (some (0, i)))]) (by decide) (Nat.le_of_ble_eq_true rfl) rfl ?_
  refine jm_aload_n (pc := 0) dR_outerOf_0 rfl ?_
  refine jm_getl (pc := 1) lR_115 dR_outerOf_1 rfl (fun _ => rfl) ?_
  refine jm_aload_n (pc := 4) dR_outerOf_4 rfl ?_
  refine jm_getl (pc := 5) lR_15 dR_outerOf_5 rfl (fun _ => rfl) ?_
  refine jm_lor (pc := 8) dR_outerOf_8 ?_
  refine jm_lret (pc := 9) dR_outerOf_9 rfl ⟨Nat.le_refl _, Nat.le_refl _⟩ ?_
  exact ⟨rfl, rfl⟩
set_option maxRecDepth 100000 in
set_option maxHeartbeats 4000000 in
theorem c_R_madeBy {i : Nat}  : MC l D mR_madeBy d 0 0 [vR (some (0, i))] st (fun v s' => st = s' ∧ v = some (vL (st.2.1 0 i 14 &&& nt (st.2.1 0 i 13)))) := by
  refine jm_start (ls0 := [some (vR (some (0, i)))]) (by decide) (Nat.le_of_ble_eq_true rfl) rfl ?_
  refine jm_aload_n (pc := 0) dR_madeBy_0 rfl ?_
  refine jm_getl (pc := 1) lR_36 dR_madeBy_1 rfl (fun _ => rfl) ?_
  refine jm_aload_n (pc := 4) dR_madeBy_4 rfl ?_
  refine jm_getl (pc := 5) lR_31 dR_madeBy_5 rfl (fun _ => rfl) ?_
  refine jm_ldc2 (pc := 8) dR_madeBy_8 klR_91 ?_
  refine jm_lxor (pc := 11) dR_madeBy_11 ?_
  refine jm_land (pc := 12) dR_madeBy_12 ?_
  refine jm_lret (pc := 13) dR_madeBy_13 rfl ⟨Nat.le_refl _, Nat.le_refl _⟩ ?_
  exact ⟨rfl, rfl⟩
end CLeaf
end
section
section CAtom
variable {l : Launch} {D : mD} {d : Nat} {st : aS}
set_option maxRecDepth 100000 in
set_option maxHeartbeats 4000000 in
theorem c_P_has (x : Int32)  : MC l D mP_has d 0 0 [vR (some (1, 0)), vI x] st (fun v s' => st = s' ∧ v = some (vI (jb (¬ x < 0 ∧ ¬ st.1 1 0 3 ≤ x)))) := by
  refine jm_start (ls0 := [some (vR (some (1, 0))), some (vI x)]) (by decide) (Nat.le_of_ble_eq_true rfl) rfl ?_
  refine jm_iload_n (pc := 0) dP_has_0 rfl ?_
  refine jm_if_lt (pc := 1) (tgt := 16) dP_has_1 (by decide) (fun h1 => ?_) (fun h1 => ?_)
  · refine jm_iconst (pc := 16) (v := 0) dP_has_16 (by decide) ?_
    refine jm_zret (pc := 17) dP_has_17 rfl (by first | exact Or.inl rfl | exact Or.inr rfl | assumption) ⟨Nat.le_refl _, Nat.le_refl _⟩ ?_
    refine ⟨rfl, ?_⟩
    first | exact jbt ⟨h1, h9⟩ | exact jbf (fun q => q.1 h1) | exact jbf (fun q => q.2 h9)
  · refine jm_iload_n (pc := 4) dP_has_4 rfl ?_
    refine jm_aload_n (pc := 5) dP_has_5 rfl ?_
    refine jm_geti (pc := 6) lP_21 dP_has_6 rfl (fun _ => rfl) ?_
    refine jm_icmp_ge (pc := 9) (tgt := 16) dP_has_9 (by decide) (fun h9 => ?_) (fun h9 => ?_)
    · refine jm_iconst (pc := 16) (v := 0) dP_has_16 (by decide) ?_
      refine jm_zret (pc := 17) dP_has_17 rfl (by first | exact Or.inl rfl | exact Or.inr rfl | assumption) ⟨Nat.le_refl _, Nat.le_refl _⟩ ?_
      refine ⟨rfl, ?_⟩
      first | exact jbt ⟨h1, h9⟩ | exact jbf (fun q => q.1 h1) | exact jbf (fun q => q.2 h9)
    · refine jm_iconst (pc := 12) (v := 1) dP_has_12 (by decide) ?_
      refine jm_goto (pc := 13) (tgt := 17) dP_has_13 (by decide) ?_
      refine jm_zret (pc := 17) dP_has_17 rfl (by first | exact Or.inl rfl | exact Or.inr rfl | assumption) ⟨Nat.le_refl _, Nat.le_refl _⟩ ?_
      refine ⟨rfl, ?_⟩
      first | exact jbt ⟨h1, h9⟩ | exact jbf (fun q => q.1 h1) | exact jbf (fun q => q.2 h9)
set_option maxRecDepth 100000 in
set_option maxHeartbeats 4000000 in
theorem c_P_modesOf {np p : Nat} {ar md : Nat → Nat} {ou : Nat → Nat → Int32} (hp : pR st np ar md ou) (hpn : p < np) (hd : 1 ≤ d) : MC l D mP_modesOf d 0 0 [vR (some (1, 0)), vI (nI p)] st (fun v s' => st = s' ∧ v = some (vI (nI (md p)))) := by
  refine jm_start (ls0 := [some (vR (some (1, 0))), some (vI (nI p))]) (by decide) (Nat.le_of_ble_eq_true rfl) rfl ?_
  refine jm_aload_n (pc := 0) dP_modesOf_0 rfl ?_
  refine jm_iload_n (pc := 1) dP_modesOf_1 rfl ?_
  refine jm_callV (pc := 2) (c_P_has (d := d - 1) _) fP_has vP_has cP_25 dP_modesOf_2 rfl rfl rfl rfl (by omega) ⟨Nat.le_refl _, Nat.le_refl _⟩ rfl (Nat.le_of_ble_eq_true rfl) (fun v s2 hq => ?_)
  obtain ⟨rfl, rfl⟩ := hq
  refine jm_if_eq (pc := 5) (tgt := 17) dP_modesOf_5 (by decide) (fun h5 => ?_) (fun h5 => ?_)
  · exact absurd ⟨nI_pos (by have := hp.2.2.2.2.1; omega), by rw [hp.2.2.2.1]; exact nI_ge hpn (by have := hp.2.2.2.2.1; omega)⟩ (jb_eq0 h5)
  · refine jm_aload_n (pc := 8) dP_modesOf_8 rfl ?_
    refine jm_getq (pc := 9) lP_15 dP_modesOf_9 rfl rfl (hp.2.1) ?_
    refine jm_iload_n (pc := 12) dP_modesOf_12 rfl ?_
    refine jm_iald (pc := 13) dP_modesOf_13 rfl (by decide) rfl (fun _ => rfl) ?hin ?_
    case hin =>
      exact vp_in_nI (N := 60) (by have := hp.2.2.2.2.1; omega) (by decide)
    refine jm_goto (pc := 14) (tgt := 18) dP_modesOf_14 (by decide) ?_
    refine jm_iret (pc := 18) dP_modesOf_18 rfl ⟨Nat.le_refl _, Nat.le_refl _⟩ ?_
    exact ⟨rfl, by rw [nI_clamp (by have := hp.2.2.2.2.1; omega), (hp.2.2.2.2.2.1 p hpn).2.2.1]⟩
set_option maxRecDepth 100000 in
set_option maxHeartbeats 4000000 in
theorem c_P_argumentsOf {np p : Nat} {ar md : Nat → Nat} {ou : Nat → Nat → Int32} (hp : pR st np ar md ou) (hpn : p < np) (hd : 1 ≤ d) : MC l D mP_argumentsOf d 0 0 [vR (some (1, 0)), vI (nI p)] st (fun v s' => st = s' ∧ v = some (vI (nI (ar p)))) := by
  refine jm_start (ls0 := [some (vR (some (1, 0))), some (vI (nI p))]) (by decide) (Nat.le_of_ble_eq_true rfl) rfl ?_
  refine jm_aload_n (pc := 0) dP_argumentsOf_0 rfl ?_
  refine jm_iload_n (pc := 1) dP_argumentsOf_1 rfl ?_
  refine jm_callV (pc := 2) (c_P_has (d := d - 1) _) fP_has vP_has cP_25 dP_argumentsOf_2 rfl rfl rfl rfl (by omega) ⟨Nat.le_refl _, Nat.le_refl _⟩ rfl (Nat.le_of_ble_eq_true rfl) (fun v s2 hq => ?_)
  obtain ⟨rfl, rfl⟩ := hq
  refine jm_if_eq (pc := 5) (tgt := 17) dP_argumentsOf_5 (by decide) (fun h5 => ?_) (fun h5 => ?_)
  · exact absurd ⟨nI_pos (by have := hp.2.2.2.2.1; omega), by rw [hp.2.2.2.1]; exact nI_ge hpn (by have := hp.2.2.2.2.1; omega)⟩ (jb_eq0 h5)
  · refine jm_aload_n (pc := 8) dP_argumentsOf_8 rfl ?_
    refine jm_getq (pc := 9) lP_9 dP_argumentsOf_9 rfl rfl (hp.1) ?_
    refine jm_iload_n (pc := 12) dP_argumentsOf_12 rfl ?_
    refine jm_iald (pc := 13) dP_argumentsOf_13 rfl (by decide) rfl (fun _ => rfl) ?hin ?_
    case hin =>
      exact vp_in_nI (N := 60) (by have := hp.2.2.2.2.1; omega) (by decide)
    refine jm_goto (pc := 14) (tgt := 18) dP_argumentsOf_14 (by decide) ?_
    refine jm_iret (pc := 18) dP_argumentsOf_18 rfl ⟨Nat.le_refl _, Nat.le_refl _⟩ ?_
    exact ⟨rfl, by rw [nI_clamp (by have := hp.2.2.2.2.1; omega), (hp.2.2.2.2.2.1 p hpn).1]⟩
set_option maxRecDepth 100000 in
set_option maxHeartbeats 4000000 in
theorem c_P_outsOf {np p : Nat} {ar md : Nat → Nat} {ou : Nat → Nat → Int32} {m : Nat} (hp : pR st np ar md ou) (hpn : p < np) (hm : m < md p) (hd : 2 ≤ d) : MC l D mP_outsOf d 0 0 [vR (some (1, 0)), vI (nI p), vI (nI m)] st (fun v s' => st = s' ∧ v = some (vI (ou p m))) := by
  refine jm_start (ls0 := [some (vR (some (1, 0))), some (vI (nI p)), some (vI (nI m))]) (by decide) (Nat.le_of_ble_eq_true rfl) rfl ?_
  have hn6 := hp.2.2.2.2.1
  have hm4 := (hp.2.2.2.2.2.1 p hpn).2.2.2
  have e4 : nI p * 4 + nI m = nI (4 * p + m) := by
    have e5 : nI p * 4 = nI (p * 4) := pk_mul p 4
    rw [e5, nI_add, Nat.mul_comm]
  refine jm_iload_n (pc := 0) dP_outsOf_0 rfl ?_
  refine jm_if_lt (pc := 1) (tgt := 26) dP_outsOf_1 (by decide) (fun h1 => ?_) (fun h1 => ?_)
  · first
      | exact absurd h1 (nI_pos (by omega))
      | exact absurd h10 (nI_ge hm (by omega))
  · refine jm_iload_n (pc := 4) dP_outsOf_4 rfl ?_
    refine jm_aload_n (pc := 5) dP_outsOf_5 rfl ?_
    refine jm_iload_n (pc := 6) dP_outsOf_6 rfl ?_
    refine jm_callV (pc := 7) (c_P_modesOf (d := d - 1) hp hpn (by omega)) fP_modesOf vP_modesOf cP_29 dP_outsOf_7 rfl rfl rfl rfl (by omega) ⟨Nat.le_refl _, Nat.le_refl _⟩ rfl (Nat.le_of_ble_eq_true rfl) (fun v s2 hq => ?_)
    obtain ⟨rfl, rfl⟩ := hq
    refine jm_icmp_ge (pc := 10) (tgt := 26) dP_outsOf_10 (by decide) (fun h10 => ?_) (fun h10 => ?_)
    · first
        | exact absurd h1 (nI_pos (by omega))
        | exact absurd h10 (nI_ge hm (by omega))
    · refine jm_aload_n (pc := 13) dP_outsOf_13 rfl ?_
      refine jm_getq (pc := 14) lP_18 dP_outsOf_14 rfl rfl (hp.2.2.1) ?_
      refine jm_iload_n (pc := 17) dP_outsOf_17 rfl ?_
      refine jm_iconst (pc := 18) (v := 4) dP_outsOf_18 (by decide) ?_
      refine jm_imul (pc := 19) dP_outsOf_19 ?_
      refine jm_iload_n (pc := 20) dP_outsOf_20 rfl ?_
      refine jm_iadd (pc := 21) dP_outsOf_21 ?_
      refine jm_iald (pc := 22) dP_outsOf_22 rfl (by decide) rfl (fun _ => rfl) ?hin ?_
      case hin =>
        rw [e4]; exact vp_in_nI (N := 240) (by omega) (by decide)
      refine jm_goto (pc := 23) (tgt := 27) dP_outsOf_23 (by decide) ?_
      refine jm_iret (pc := 27) dP_outsOf_27 rfl ⟨Nat.le_refl _, Nat.le_refl _⟩ ?_
      exact ⟨rfl, by rw [e4, nI_clamp (by omega), hp.2.2.2.2.2.2.1 p m hpn hm]⟩

set_option maxRecDepth 100000 in
set_option maxHeartbeats 4000000 in
theorem lp_R_insOf {i w : Nat} {vr : Nat → Nat} {o : Int32} (hv : nV st i w vr) (hd : 1 ≤ d) : ∀ (n : Nat) (k : Nat) (x : Int32) (S : Int64), x = nI k → k ≤ w → w - k < n → insF o vr (w - k) k S = insS o w vr → MS l D mR_insOf d 0 0 (fun v s' => st = s' ∧ v = some (vL (insS o w vr))) 0 0 5 [some (vR (some (0, i))), some (vI o), some (vL S), none, some (vI x)] [] st := by
  intro n
  induction n with
  | zero =>
    intro k x S hx hk hn hS
    omega
  | succ n ih =>
    intro k x S hx hk hn hS
    refine jm_iload (pc := 5) dR_insOf_5 rfl ?_
    refine jm_aload_n (pc := 7) dR_insOf_7 rfl ?_
    refine jm_geti (pc := 8) lR_161 dR_insOf_8 rfl (fun _ => rfl) ?_
    refine jm_icmp_ge (pc := 11) (tgt := 38) dR_insOf_11 (by decide) (fun h11 => ?_) (fun h11 => ?_)
    · refine jm_lload_n (pc := 38) dR_insOf_38 rfl ?_
      refine jm_lret (pc := 39) dR_insOf_39 rfl ⟨Nat.le_refl _, Nat.le_refl _⟩ ?_
      have hkw : ¬ k < w := fun q => nI_ge q (by have := hv.2.1; omega) (by rw [hv.1, hx] at h11; exact h11)
      rw [show w - k = 0 by omega] at hS
      exact ⟨rfl, by rw [← hS]; rfl⟩
    · have h7 := hv.2.1
      have hkw : k < w := Nat.lt_of_not_le fun q => h11 (by rw [hv.1, hx]; exact nI_le q (by omega))
      subst hx
      rw [show w - k = (w - (k + 1)) + 1 by omega] at hS
      refine jm_iload_n (pc := 14) dR_insOf_14 rfl ?_
      refine jm_iload (pc := 15) dR_insOf_15 rfl ?_
      refine jm_callS (pc := 17) (c_G_hasPlace (d := d - 1) _ _) fG_hasPlace sG_hasPlace cR_164 dR_insOf_17 rfl (by omega) ⟨Nat.le_refl _, Nat.le_refl _⟩ rfl (Nat.le_of_ble_eq_true rfl) (fun v s2 hq => ?_)
      obtain ⟨rfl, rfl⟩ := hq
      refine jm_if_ne (pc := 20) (tgt := 32) dR_insOf_20 (by decide) (fun h20 => ?_) (fun h20 => ?_)
      · refine jm_iinc (pc := 32) dR_insOf_32 rfl (by decide) ?_
        refine jm_goto (pc := 35) (tgt := 5) dR_insOf_35 (by decide) ?_
        refine ih (k + 1) _ _ (ni1 k) (by omega) (by omega) ?_
        rw [← hS]
        show insF o vr (w - (k + 1)) (k + 1) _ = insF o vr (w - (k + 1)) (k + 1) _
        first
          | exact congrArg _ (if_neg (jb_ne0 h20)).symm
          | exact congrArg _ (if_pos (Classical.not_not.mp (jb_eq0 h20))).symm
      · refine jm_lload_n (pc := 23) dR_insOf_23 rfl ?_
        refine jm_aload_n (pc := 24) dR_insOf_24 rfl ?_
        refine jm_iload (pc := 25) dR_insOf_25 rfl ?_
        refine jm_callV (pc := 27) (c_N_variableAt (d := d - 1) hv hkw) fN_variableAt vN_variableAt cR_137 dR_insOf_27 rfl rfl rfl rfl (by omega) ⟨Nat.le_refl _, Nat.le_refl _⟩ rfl (Nat.le_of_ble_eq_true rfl) (fun v s2 hq => ?_)
        obtain ⟨rfl, rfl⟩ := hq
        refine jm_lor (pc := 30) dR_insOf_30 ?_
        refine jm_lstore_n (pc := 31) dR_insOf_31 (by decide) ?_
        refine jm_iinc (pc := 32) dR_insOf_32 rfl (by decide) ?_
        refine jm_goto (pc := 35) (tgt := 5) dR_insOf_35 (by decide) ?_
        refine ih (k + 1) _ _ (ni1 k) (by omega) (by omega) ?_
        rw [← hS]
        show insF o vr (w - (k + 1)) (k + 1) _ = insF o vr (w - (k + 1)) (k + 1) _
        first
          | exact congrArg _ (if_neg (jb_ne0 h20)).symm
          | exact congrArg _ (if_pos (Classical.not_not.mp (jb_eq0 h20))).symm
set_option maxRecDepth 100000 in
set_option maxHeartbeats 4000000 in
theorem c_R_insOf {i w : Nat} {vr : Nat → Nat} {o : Int32} (hv : nV st i w vr) (hd : 1 ≤ d) : MC l D mR_insOf d 0 0 [vR (some (0, i)), vI o] st (fun v s' => st = s' ∧ v = some (vL (insS o w vr))) := by
  refine jm_start (ls0 := [some (vR (some (0, i))), some (vI o), none, none, none]) (by decide) (Nat.le_of_ble_eq_true rfl) rfl ?_
  refine jm_lconst (pc := 0) (v := 0) dR_insOf_0 (by decide) ?_
  refine jm_lstore_n (pc := 1) dR_insOf_1 (by decide) ?_
  refine jm_iconst (pc := 2) (v := 0) dR_insOf_2 (by decide) ?_
  refine jm_istore (pc := 3) dR_insOf_3 (by decide) ?_
  exact lp_R_insOf hv hd (w + 1) 0 _ _ rfl (by omega) (by omega) rfl
set_option maxRecDepth 100000 in
set_option maxHeartbeats 4000000 in
theorem c_R_canDoSame {i w : Nat} {vr : Nat → Nat} (hv : nV st i w vr) (hw : w = 2) (hd : 1 ≤ d) : MC l D mR_canDoSame d 0 0 [vR (some (0, i))] st (aP st i (sameR (b1 (vr 0)) (b1 (vr 1)) (st.2.1 0 i 13))) := by
  refine jm_start (ls0 := [some (vR (some (0, i))), none, none, none, none]) (by decide) (Nat.le_of_ble_eq_true rfl) rfl ?_
  refine jm_aload_n (pc := 0) dR_canDoSame_0 rfl ?_
  refine jm_iconst (pc := 1) (v := 0) dR_canDoSame_1 (by decide) ?_
  refine jm_callV (pc := 2) (c_N_variableAt (d := d - 1) (j := 0) hv (by omega)) fN_variableAt vN_variableAt cR_137 dR_canDoSame_2 rfl rfl rfl rfl (by omega) ⟨Nat.le_refl _, Nat.le_refl _⟩ rfl (Nat.le_of_ble_eq_true rfl) (fun v s2 hq => ?_)
  obtain ⟨rfl, rfl⟩ := hq
  refine jm_lstore_n (pc := 5) dR_canDoSame_5 (by decide) ?_
  refine jm_aload_n (pc := 6) dR_canDoSame_6 rfl ?_
  refine jm_iconst (pc := 7) (v := 1) dR_canDoSame_7 (by decide) ?_
  refine jm_callV (pc := 8) (c_N_variableAt (d := d - 1) (j := 1) hv (by omega)) fN_variableAt vN_variableAt cR_137 dR_canDoSame_8 rfl rfl rfl rfl (by omega) ⟨Nat.le_refl _, Nat.le_refl _⟩ rfl (Nat.le_of_ble_eq_true rfl) (fun v s2 hq => ?_)
  obtain ⟨rfl, rfl⟩ := hq
  refine jm_lstore_n (pc := 11) dR_canDoSame_11 (by decide) ?_
  refine jm_aload_n (pc := 12) dR_canDoSame_12 rfl ?_
  refine jm_lload_n (pc := 13) dR_canDoSame_13 rfl ?_
  refine jm_lload_n (pc := 14) dR_canDoSame_14 rfl ?_
  refine jm_lor (pc := 15) dR_canDoSame_15 ?_
  refine jm_callS (pc := 16) (c_R_isGround (d := d - 1) _) fR_isGround sR_isGround cR_121 dR_canDoSame_16 rfl (by omega) ⟨Nat.le_refl _, Nat.le_refl _⟩ rfl (Nat.le_of_ble_eq_true rfl) (fun v s2 hq => ?_)
  obtain ⟨rfl, rfl⟩ := hq
  refine jm_if_eq (pc := 19) (tgt := 29) dR_canDoSame_19 (by decide) (fun h19 => ?_) (fun h19 => ?_)
  · refine jm_aload_n (pc := 29) dR_canDoSame_29 rfl ?_
    refine jm_lload_n (pc := 30) dR_canDoSame_30 rfl ?_
    refine jm_callS (pc := 31) (c_R_isGround (d := d - 1) _) fR_isGround sR_isGround cR_121 dR_canDoSame_31 rfl (by omega) ⟨Nat.le_refl _, Nat.le_refl _⟩ rfl (Nat.le_of_ble_eq_true rfl) (fun v s2 hq => ?_)
    obtain ⟨rfl, rfl⟩ := hq
    refine jm_if_eq (pc := 34) (tgt := 44) dR_canDoSame_34 (by decide) (fun h34 => ?_) (fun h34 => ?_)
    · refine jm_aload_n (pc := 44) dR_canDoSame_44 rfl ?_
      refine jm_lload_n (pc := 45) dR_canDoSame_45 rfl ?_
      refine jm_callS (pc := 46) (c_R_isGround (d := d - 1) _) fR_isGround sR_isGround cR_121 dR_canDoSame_46 rfl (by omega) ⟨Nat.le_refl _, Nat.le_refl _⟩ rfl (Nat.le_of_ble_eq_true rfl) (fun v s2 hq => ?_)
      obtain ⟨rfl, rfl⟩ := hq
      refine jm_if_eq (pc := 49) (tgt := 65) dR_canDoSame_49 (by decide) (fun h49 => ?_) (fun h49 => ?_)
      · refine jm_iconst (pc := 65) (v := 0) dR_canDoSame_65 (by decide) ?_
        refine jm_zret (pc := 66) dR_canDoSame_66 rfl (by first | exact Or.inl rfl | exact Or.inr rfl | assumption) ⟨Nat.le_refl _, Nat.le_refl _⟩ ?_
        first
          | exact aP_s (by unfold sameR; rw [if_neg (jb_eq0 h19), if_neg (jb_eq0 h34), if_pos (jb_ne0 h49)])
          | exact aP_n (by unfold sameR; rw [if_neg (jb_eq0 h19), if_neg (jb_eq0 h34), if_neg (jb_eq0 h49)])
          | exact absurd h58 (by decide)
      · refine jm_aload_n (pc := 52) dR_canDoSame_52 rfl ?_
        refine jm_iconst (pc := 53) (v := 3) dR_canDoSame_53 (by decide) ?_
        refine jm_lload_n (pc := 54) dR_canDoSame_54 rfl ?_
        refine jm_callS (pc := 55) (c_R_settle (d := d - 1) _ _) fR_settle sR_settle cR_124 dR_canDoSame_55 rfl (by omega) ⟨Nat.le_refl _, Nat.le_refl _⟩ rfl (Nat.le_of_ble_eq_true rfl) (fun v s2 hq => ?_)
        obtain ⟨rfl, rfl⟩ := hq
        refine jm_if_eq (pc := 58) (tgt := 65) dR_canDoSame_58 (by decide) (fun h58 => ?_) (fun h58 => ?_)
        · refine jm_iconst (pc := 65) (v := 0) dR_canDoSame_65 (by decide) ?_
          refine jm_zret (pc := 66) dR_canDoSame_66 rfl (by first | exact Or.inl rfl | exact Or.inr rfl | assumption) ⟨Nat.le_refl _, Nat.le_refl _⟩ ?_
          first
            | exact aP_s (by unfold sameR; rw [if_neg (jb_eq0 h19), if_neg (jb_eq0 h34), if_pos (jb_ne0 h49)])
            | exact aP_n (by unfold sameR; rw [if_neg (jb_eq0 h19), if_neg (jb_eq0 h34), if_neg (jb_eq0 h49)])
            | exact absurd h58 (by decide)
        · refine jm_iconst (pc := 61) (v := 1) dR_canDoSame_61 (by decide) ?_
          refine jm_goto (pc := 62) (tgt := 66) dR_canDoSame_62 (by decide) ?_
          refine jm_zret (pc := 66) dR_canDoSame_66 rfl (by first | exact Or.inl rfl | exact Or.inr rfl | assumption) ⟨Nat.le_refl _, Nat.le_refl _⟩ ?_
          first
            | exact aP_s (by unfold sameR; rw [if_neg (jb_eq0 h19), if_neg (jb_eq0 h34), if_pos (jb_ne0 h49)])
            | exact aP_n (by unfold sameR; rw [if_neg (jb_eq0 h19), if_neg (jb_eq0 h34), if_neg (jb_eq0 h49)])
            | exact absurd h58 (by decide)
    · refine jm_aload_n (pc := 37) dR_canDoSame_37 rfl ?_
      refine jm_iconst (pc := 38) (v := 2) dR_canDoSame_38 (by decide) ?_
      refine jm_lload_n (pc := 39) dR_canDoSame_39 rfl ?_
      refine jm_callS (pc := 40) (c_R_settle (d := d - 1) _ _) fR_settle sR_settle cR_124 dR_canDoSame_40 rfl (by omega) ⟨Nat.le_refl _, Nat.le_refl _⟩ rfl (Nat.le_of_ble_eq_true rfl) (fun v s2 hq => ?_)
      obtain ⟨rfl, rfl⟩ := hq
      refine jm_zret (pc := 43) dR_canDoSame_43 rfl (by first | exact Or.inl rfl | exact Or.inr rfl | assumption) ⟨Nat.le_refl _, Nat.le_refl _⟩ ?_
      exact aP_s (by unfold sameR; rw [if_neg (jb_eq0 h19), if_pos (jb_ne0 h34)])
  · refine jm_aload_n (pc := 22) dR_canDoSame_22 rfl ?_
    refine jm_iconst (pc := 23) (v := 1) dR_canDoSame_23 (by decide) ?_
    refine jm_lconst (pc := 24) (v := 0) dR_canDoSame_24 (by decide) ?_
    refine jm_callS (pc := 25) (c_R_settle (d := d - 1) _ _) fR_settle sR_settle cR_124 dR_canDoSame_25 rfl (by omega) ⟨Nat.le_refl _, Nat.le_refl _⟩ rfl (Nat.le_of_ble_eq_true rfl) (fun v s2 hq => ?_)
    obtain ⟨rfl, rfl⟩ := hq
    refine jm_zret (pc := 28) dR_canDoSame_28 rfl (by first | exact Or.inl rfl | exact Or.inr rfl | assumption) ⟨Nat.le_refl _, Nat.le_refl _⟩ ?_
    exact aP_s (by unfold sameR; rw [if_pos (jb_ne0 h19)])
set_option maxRecDepth 100000 in
set_option maxHeartbeats 4000000 in
theorem c_R_canDoForm {i w : Nat} {vr : Nat → Nat} (hv : nV st i w vr) (hw : 1 ≤ w) (hd : 1 ≤ d) : MC l D mR_canDoForm d 0 0 [vR (some (0, i))] st (aP st i (formR (b1 (vr 0)) (rowS w vr 1) (st.2.1 0 i 13))) := by
  refine jm_start (ls0 := [some (vR (some (0, i))), none, none, none, none]) (by decide) (Nat.le_of_ble_eq_true rfl) rfl ?_
  refine jm_aload_n (pc := 0) dR_canDoForm_0 rfl ?_
  refine jm_iconst (pc := 1) (v := 0) dR_canDoForm_1 (by decide) ?_
  refine jm_callV (pc := 2) (c_N_variableAt (d := d - 1) (j := 0) hv (by omega)) fN_variableAt vN_variableAt cR_137 dR_canDoForm_2 rfl rfl rfl rfl (by omega) ⟨Nat.le_refl _, Nat.le_refl _⟩ rfl (Nat.le_of_ble_eq_true rfl) (fun v s2 hq => ?_)
  obtain ⟨rfl, rfl⟩ := hq
  refine jm_lstore_n (pc := 5) dR_canDoForm_5 (by decide) ?_
  refine jm_aload_n (pc := 6) dR_canDoForm_6 rfl ?_
  refine jm_iconst (pc := 7) (v := 1) dR_canDoForm_7 (by decide) ?_
  refine jm_callV (pc := 8) (c_N_variablesFrom (d := d - 1) (fr := 1) hv (by omega)) fN_variablesFrom vN_variablesFrom cR_141 dR_canDoForm_8 rfl rfl rfl rfl (by omega) ⟨Nat.le_refl _, Nat.le_refl _⟩ rfl (Nat.le_of_ble_eq_true rfl) (fun v s2 hq => ?_)
  obtain ⟨rfl, rfl⟩ := hq
  refine jm_lstore_n (pc := 11) dR_canDoForm_11 (by decide) ?_
  refine jm_aload_n (pc := 12) dR_canDoForm_12 rfl ?_
  refine jm_lload_n (pc := 13) dR_canDoForm_13 rfl ?_
  refine jm_callS (pc := 14) (c_R_isGround (d := d - 1) _) fR_isGround sR_isGround cR_121 dR_canDoForm_14 rfl (by omega) ⟨Nat.le_refl _, Nat.le_refl _⟩ rfl (Nat.le_of_ble_eq_true rfl) (fun v s2 hq => ?_)
  obtain ⟨rfl, rfl⟩ := hq
  refine jm_if_eq (pc := 17) (tgt := 27) dR_canDoForm_17 (by decide) (fun h17 => ?_) (fun h17 => ?_)
  · refine jm_aload_n (pc := 27) dR_canDoForm_27 rfl ?_
    refine jm_lload_n (pc := 28) dR_canDoForm_28 rfl ?_
    refine jm_callS (pc := 29) (c_R_isGround (d := d - 1) _) fR_isGround sR_isGround cR_121 dR_canDoForm_29 rfl (by omega) ⟨Nat.le_refl _, Nat.le_refl _⟩ rfl (Nat.le_of_ble_eq_true rfl) (fun v s2 hq => ?_)
    obtain ⟨rfl, rfl⟩ := hq
    refine jm_if_eq (pc := 32) (tgt := 48) dR_canDoForm_32 (by decide) (fun h32 => ?_) (fun h32 => ?_)
    · refine jm_iconst (pc := 48) (v := 0) dR_canDoForm_48 (by decide) ?_
      refine jm_zret (pc := 49) dR_canDoForm_49 rfl (by first | exact Or.inl rfl | exact Or.inr rfl | assumption) ⟨Nat.le_refl _, Nat.le_refl _⟩ ?_
      first
        | exact aP_s (by unfold formR; rw [if_neg (jb_eq0 h17), if_pos (jb_ne0 h32)])
        | exact aP_n (by unfold formR; rw [if_neg (jb_eq0 h17), if_neg (jb_eq0 h32)])
        | exact absurd h41 (by decide)
    · refine jm_aload_n (pc := 35) dR_canDoForm_35 rfl ?_
      refine jm_iconst (pc := 36) (v := 2) dR_canDoForm_36 (by decide) ?_
      refine jm_lload_n (pc := 37) dR_canDoForm_37 rfl ?_
      refine jm_callS (pc := 38) (c_R_settle (d := d - 1) _ _) fR_settle sR_settle cR_124 dR_canDoForm_38 rfl (by omega) ⟨Nat.le_refl _, Nat.le_refl _⟩ rfl (Nat.le_of_ble_eq_true rfl) (fun v s2 hq => ?_)
      obtain ⟨rfl, rfl⟩ := hq
      refine jm_if_eq (pc := 41) (tgt := 48) dR_canDoForm_41 (by decide) (fun h41 => ?_) (fun h41 => ?_)
      · refine jm_iconst (pc := 48) (v := 0) dR_canDoForm_48 (by decide) ?_
        refine jm_zret (pc := 49) dR_canDoForm_49 rfl (by first | exact Or.inl rfl | exact Or.inr rfl | assumption) ⟨Nat.le_refl _, Nat.le_refl _⟩ ?_
        first
          | exact aP_s (by unfold formR; rw [if_neg (jb_eq0 h17), if_pos (jb_ne0 h32)])
          | exact aP_n (by unfold formR; rw [if_neg (jb_eq0 h17), if_neg (jb_eq0 h32)])
          | exact absurd h41 (by decide)
      · refine jm_iconst (pc := 44) (v := 1) dR_canDoForm_44 (by decide) ?_
        refine jm_goto (pc := 45) (tgt := 49) dR_canDoForm_45 (by decide) ?_
        refine jm_zret (pc := 49) dR_canDoForm_49 rfl (by first | exact Or.inl rfl | exact Or.inr rfl | assumption) ⟨Nat.le_refl _, Nat.le_refl _⟩ ?_
        first
          | exact aP_s (by unfold formR; rw [if_neg (jb_eq0 h17), if_pos (jb_ne0 h32)])
          | exact aP_n (by unfold formR; rw [if_neg (jb_eq0 h17), if_neg (jb_eq0 h32)])
          | exact absurd h41 (by decide)
  · refine jm_aload_n (pc := 20) dR_canDoForm_20 rfl ?_
    refine jm_iconst (pc := 21) (v := 1) dR_canDoForm_21 (by decide) ?_
    refine jm_lload_n (pc := 22) dR_canDoForm_22 rfl ?_
    refine jm_callS (pc := 23) (c_R_settle (d := d - 1) _ _) fR_settle sR_settle cR_124 dR_canDoForm_23 rfl (by omega) ⟨Nat.le_refl _, Nat.le_refl _⟩ rfl (Nat.le_of_ble_eq_true rfl) (fun v s2 hq => ?_)
    obtain ⟨rfl, rfl⟩ := hq
    refine jm_zret (pc := 26) dR_canDoForm_26 rfl (by first | exact Or.inl rfl | exact Or.inr rfl | assumption) ⟨Nat.le_refl _, Nat.le_refl _⟩ ?_
    exact aP_s (by unfold formR; rw [if_pos (jb_ne0 h17)])
set_option maxRecDepth 100000 in
set_option maxHeartbeats 4000000 in
theorem c_R_canDoSum {i w : Nat} {vr : Nat → Nat} (hv : nV st i w vr) (hw : 1 ≤ w) (hd : 1 ≤ d) : MC l D mR_canDoSum d 0 0 [vR (some (0, i))] st (aP st i (sumR (b1 (vr 0)) (rowS w vr 1) (st.2.1 0 i 13))) := by
  refine jm_start (ls0 := [some (vR (some (0, i))), none, none]) (by decide) (Nat.le_of_ble_eq_true rfl) rfl ?_
  refine jm_aload_n (pc := 0) dR_canDoSum_0 rfl ?_
  refine jm_iconst (pc := 1) (v := 0) dR_canDoSum_1 (by decide) ?_
  refine jm_callV (pc := 2) (c_N_variableAt (d := d - 1) (j := 0) hv (by omega)) fN_variableAt vN_variableAt cR_137 dR_canDoSum_2 rfl rfl rfl rfl (by omega) ⟨Nat.le_refl _, Nat.le_refl _⟩ rfl (Nat.le_of_ble_eq_true rfl) (fun v s2 hq => ?_)
  obtain ⟨rfl, rfl⟩ := hq
  refine jm_lstore_n (pc := 5) dR_canDoSum_5 (by decide) ?_
  refine jm_aload_n (pc := 6) dR_canDoSum_6 rfl ?_
  refine jm_aload_n (pc := 7) dR_canDoSum_7 rfl ?_
  refine jm_iconst (pc := 8) (v := 1) dR_canDoSum_8 (by decide) ?_
  refine jm_callV (pc := 9) (c_N_variablesFrom (d := d - 1) (fr := 1) hv (by omega)) fN_variablesFrom vN_variablesFrom cR_141 dR_canDoSum_9 rfl rfl rfl rfl (by omega) ⟨Nat.le_refl _, Nat.le_refl _⟩ rfl (Nat.le_of_ble_eq_true rfl) (fun v s2 hq => ?_)
  obtain ⟨rfl, rfl⟩ := hq
  refine jm_callS (pc := 12) (c_R_isGround (d := d - 1) _) fR_isGround sR_isGround cR_121 dR_canDoSum_12 rfl (by omega) ⟨Nat.le_refl _, Nat.le_refl _⟩ rfl (Nat.le_of_ble_eq_true rfl) (fun v s2 hq => ?_)
  obtain ⟨rfl, rfl⟩ := hq
  refine jm_if_ne (pc := 15) (tgt := 20) dR_canDoSum_15 (by decide) (fun h15 => ?_) (fun h15 => ?_)
  · refine jm_aload_n (pc := 20) dR_canDoSum_20 rfl ?_
    refine jm_aload_n (pc := 21) dR_canDoSum_21 rfl ?_
    refine jm_lload_n (pc := 22) dR_canDoSum_22 rfl ?_
    refine jm_callS (pc := 23) (c_R_isGround (d := d - 1) _) fR_isGround sR_isGround cR_121 dR_canDoSum_23 rfl (by omega) ⟨Nat.le_refl _, Nat.le_refl _⟩ rfl (Nat.le_of_ble_eq_true rfl) (fun v s2 hq => ?_)
    obtain ⟨rfl, rfl⟩ := hq
    refine jm_if_eq (pc := 26) (tgt := 33) dR_canDoSum_26 (by decide) (fun h26 => ?_) (fun h26 => ?_)
    · refine jm_iconst (pc := 33) (v := 2) dR_canDoSum_33 (by decide) ?_
      refine jm_lload_n (pc := 34) dR_canDoSum_34 rfl ?_
      refine jm_callS (pc := 35) (c_R_settle (d := d - 1) _ _) fR_settle sR_settle cR_124 dR_canDoSum_35 rfl (by omega) ⟨Nat.le_refl _, Nat.le_refl _⟩ rfl (Nat.le_of_ble_eq_true rfl) (fun v s2 hq => ?_)
      obtain ⟨rfl, rfl⟩ := hq
      refine jm_zret (pc := 38) dR_canDoSum_38 rfl (by first | exact Or.inl rfl | exact Or.inr rfl | assumption) ⟨Nat.le_refl _, Nat.le_refl _⟩ ?_
      first
        | exact aP_s (by unfold sumR; rw [if_pos (jb_ne0 h15), if_pos (jb_ne0 h26)])
        | exact aP_s (by unfold sumR; rw [if_pos (jb_ne0 h15), if_neg (jb_eq0 h26)])
    · refine jm_iconst (pc := 29) (v := 1) dR_canDoSum_29 (by decide) ?_
      refine jm_goto (pc := 30) (tgt := 34) dR_canDoSum_30 (by decide) ?_
      refine jm_lload_n (pc := 34) dR_canDoSum_34 rfl ?_
      refine jm_callS (pc := 35) (c_R_settle (d := d - 1) _ _) fR_settle sR_settle cR_124 dR_canDoSum_35 rfl (by omega) ⟨Nat.le_refl _, Nat.le_refl _⟩ rfl (Nat.le_of_ble_eq_true rfl) (fun v s2 hq => ?_)
      obtain ⟨rfl, rfl⟩ := hq
      refine jm_zret (pc := 38) dR_canDoSum_38 rfl (by first | exact Or.inl rfl | exact Or.inr rfl | assumption) ⟨Nat.le_refl _, Nat.le_refl _⟩ ?_
      first
        | exact aP_s (by unfold sumR; rw [if_pos (jb_ne0 h15), if_pos (jb_ne0 h26)])
        | exact aP_s (by unfold sumR; rw [if_pos (jb_ne0 h15), if_neg (jb_eq0 h26)])
  · refine jm_iconst (pc := 18) (v := 0) dR_canDoSum_18 (by decide) ?_
    refine jm_zret (pc := 19) dR_canDoSum_19 rfl (by first | exact Or.inl rfl | exact Or.inr rfl | assumption) ⟨Nat.le_refl _, Nat.le_refl _⟩ ?_
    exact aP_n (by unfold sumR; rw [if_neg (jb_eq0 h15)])
set_option maxRecDepth 100000 in
set_option maxHeartbeats 4000000 in
theorem lp_R_canDoCall {i w np p : Nat} {vr : Nat → Nat} {ar md : Nat → Nat} {ou : Nat → Nat → Int32} (hv : nV st i w vr) (hp : pR st np ar md ou) (ht : st.2.2.1 3 0 0 = some 0) (hq4 : st.1 0 i 4 = nI p) (hpn : p < np) (hwi : st.2.1 0 i 11 = rowS w vr 0) (hd : 3 ≤ d) : ∀ (n : Nat) (m : Nat) (x : Int32), x = nI m → m ≤ md p → md p - m < n → callR (fun m => insS (ou p m) w vr) (rowS w vr 0) (st.2.1 0 i 13) (md p - m) m = callR (fun m => insS (ou p m) w vr) (rowS w vr 0) (st.2.1 0 i 13) (md p) 0 → MS l D mR_canDoCall d 0 0 (aP st i (callR (fun m => insS (ou p m) w vr) (rowS w vr 0) (st.2.1 0 i 13) (md p) 0)) 0 0 14 [some (vR (some (3, 0))), some (vR (some (0, i))), some (vI (nI (md p))), some (vI x)] [] st := by
  intro n
  induction n with
  | zero =>
    intro m x hx hm hn hS
    omega
  | succ n ih =>
    intro m x hx hm hn hS
    refine jm_iload_n (pc := 14) dR_canDoCall_14 rfl ?_
    refine jm_iload_n (pc := 15) dR_canDoCall_15 rfl ?_
    have hm4 := (hp.2.2.2.2.2.1 p hpn).2.2.2
    refine jm_icmp_ge (pc := 16) (tgt := 58) dR_canDoCall_16 (by decide) (fun h16 => ?_) (fun h16 => ?_)
    · refine jm_iconst (pc := 58) (v := 0) dR_canDoCall_58 (by decide) ?_
      refine jm_zret (pc := 59) dR_canDoCall_59 rfl (by first | exact Or.inl rfl | exact Or.inr rfl | assumption) ⟨Nat.le_refl _, Nat.le_refl _⟩ ?_
      have hkw : ¬ m < md p := fun q => nI_ge q (by omega) (by rw [hx] at h16; exact h16)
      rw [show md p - m = 0 by omega] at hS
      exact aP_n (by rw [← hS]; rfl)
    · have hkw : m < md p := Nat.lt_of_not_le fun q => h16 (by rw [hx]; exact nI_le q (by omega))
      subst hx
      rw [show md p - m = (md p - (m + 1)) + 1 by omega] at hS
      refine jm_aload_n (pc := 19) dR_canDoCall_19 rfl ?_
      refine jm_aload_n (pc := 20) dR_canDoCall_20 rfl ?_
      refine jm_aload_n (pc := 21) dR_canDoCall_21 rfl ?_
      refine jm_getq (pc := 22) lR_9 dR_canDoCall_22 rfl rfl (ht) ?_
      refine jm_aload_n (pc := 25) dR_canDoCall_25 rfl ?_
      refine jm_geti (pc := 26) lR_144 dR_canDoCall_26 rfl (fun _ => rfl) ?_
      rw [hq4]
      refine jm_iload_n (pc := 29) dR_canDoCall_29 rfl ?_
      refine jm_callV (pc := 30) (c_P_outsOf (d := d - 1) hp hpn hkw (by omega)) fP_outsOf vP_outsOf cR_153 dR_canDoCall_30 rfl rfl rfl rfl (by omega) ⟨Nat.le_refl _, Nat.le_refl _⟩ rfl (Nat.le_of_ble_eq_true rfl) (fun v s2 hq => ?_)
      obtain ⟨rfl, rfl⟩ := hq
      refine jm_callS (pc := 33) (c_R_insOf (d := d - 1) hv (by omega)) fR_insOf sR_insOf cR_157 dR_canDoCall_33 rfl (by omega) ⟨Nat.le_refl _, Nat.le_refl _⟩ rfl (Nat.le_of_ble_eq_true rfl) (fun v s2 hq => ?_)
      obtain ⟨rfl, rfl⟩ := hq
      refine jm_callS (pc := 36) (c_R_isGround (d := d - 1) _) fR_isGround sR_isGround cR_121 dR_canDoCall_36 rfl (by omega) ⟨Nat.le_refl _, Nat.le_refl _⟩ rfl (Nat.le_of_ble_eq_true rfl) (fun v s2 hq => ?_)
      obtain ⟨rfl, rfl⟩ := hq
      refine jm_if_eq (pc := 39) (tgt := 52) dR_canDoCall_39 (by decide) (fun h39 => ?_) (fun h39 => ?_)
      · refine jm_iinc (pc := 52) dR_canDoCall_52 rfl (by decide) ?_
        refine jm_goto (pc := 55) (tgt := 14) dR_canDoCall_55 (by decide) ?_
        refine ih (m + 1) _ (ni1 m) (by omega) (by omega) ?_
        rw [← hS]
        exact (if_neg (jb_eq0 h39)).symm
      · refine jm_aload_n (pc := 42) dR_canDoCall_42 rfl ?_
        refine jm_iload_n (pc := 43) dR_canDoCall_43 rfl ?_
        refine jm_aload_n (pc := 44) dR_canDoCall_44 rfl ?_
        refine jm_getl (pc := 45) lR_112 dR_canDoCall_45 rfl (fun _ => rfl) ?_
        rw [hwi]
        refine jm_callS (pc := 48) (c_R_settle (d := d - 1) _ _) fR_settle sR_settle cR_124 dR_canDoCall_48 rfl (by omega) ⟨Nat.le_refl _, Nat.le_refl _⟩ rfl (Nat.le_of_ble_eq_true rfl) (fun v s2 hq => ?_)
        obtain ⟨rfl, rfl⟩ := hq
        refine jm_zret (pc := 51) dR_canDoCall_51 rfl (by first | exact Or.inl rfl | exact Or.inr rfl | assumption) ⟨Nat.le_refl _, Nat.le_refl _⟩ ?_
        exact aP_s (by rw [← hS]; exact if_pos (jb_ne0 h39))
set_option maxRecDepth 100000 in
set_option maxHeartbeats 4000000 in
theorem c_R_canDoCall {i w np p : Nat} {vr : Nat → Nat} {ar md : Nat → Nat} {ou : Nat → Nat → Int32} (hv : nV st i w vr) (hp : pR st np ar md ou) (ht : st.2.2.1 3 0 0 = some 0) (hq4 : st.1 0 i 4 = nI p) (hpn : p < np) (hwi : st.2.1 0 i 11 = rowS w vr 0) (hd : 3 ≤ d) : MC l D mR_canDoCall d 0 0 [vR (some (3, 0)), vR (some (0, i))] st (aP st i (callR (fun m => insS (ou p m) w vr) (rowS w vr 0) (st.2.1 0 i 13) (md p) 0)) := by
  refine jm_start (ls0 := [some (vR (some (3, 0))), some (vR (some (0, i))), none, none]) (by decide) (Nat.le_of_ble_eq_true rfl) rfl ?_
  refine jm_aload_n (pc := 0) dR_canDoCall_0 rfl ?_
  refine jm_getq (pc := 1) lR_9 dR_canDoCall_1 rfl rfl (ht) ?_
  refine jm_aload_n (pc := 4) dR_canDoCall_4 rfl ?_
  refine jm_geti (pc := 5) lR_144 dR_canDoCall_5 rfl (fun _ => rfl) ?_
  rw [hq4]
  refine jm_callV (pc := 8) (c_P_modesOf (d := d - 1) hp hpn (by omega)) fP_modesOf vP_modesOf cR_147 dR_canDoCall_8 rfl rfl rfl rfl (by omega) ⟨Nat.le_refl _, Nat.le_refl _⟩ rfl (Nat.le_of_ble_eq_true rfl) (fun v s2 hq => ?_)
  obtain ⟨rfl, rfl⟩ := hq
  refine jm_istore_n (pc := 11) dR_canDoCall_11 (by decide) ?_
  refine jm_iconst (pc := 12) (v := 0) dR_canDoCall_12 (by decide) ?_
  refine jm_istore_n (pc := 13) dR_canDoCall_13 (by decide) ?_
  exact lp_R_canDoCall hv hp ht hq4 hpn hwi hd (md p + 1) 0 _ rfl (by omega) (by omega) rfl
set_option maxRecDepth 100000 in
set_option maxHeartbeats 4000000 in
theorem c_R_canDoAtom {s i w np p : Nat} {vr : Nat → Nat} {ar md : Nat → Nat} {ou : Nat → Nat → Int32} (hv : nV st i w vr) (hp : pR st np ar md ou) (ht : st.2.2.1 3 0 0 = some 0) (hs : st.1 0 i 3 = nI s) (hs4 : 4 ≤ s ∧ s ≤ 12) (h6 : s = 6 → w = 2) (h8 : s = 8 ∨ s = 9 ∨ s = 10 → 1 ≤ w) (hq4 : s = 12 → st.1 0 i 4 = nI p ∧ p < np) (hwi : st.2.1 0 i 11 = rowS w vr 0) (hd : 4 ≤ d) : MC l D mR_canDoAtom d 0 0 [vR (some (3, 0)), vR (some (0, i))] st (aP st i (atomR s w vr (md p) (ou p) (st.2.1 0 i 13))) := by
  refine jm_start (ls0 := [some (vR (some (3, 0))), some (vR (some (0, i)))]) (by decide) (Nat.le_of_ble_eq_true rfl) rfl ?_
  refine jm_aload_n (pc := 0) dR_canDoAtom_0 rfl ?_
  refine jm_geti (pc := 1) lR_45 dR_canDoAtom_1 rfl (fun _ => rfl) ?_
  rw [hs]
  rcases (show s = 4 ∨ s = 5 ∨ s = 6 ∨ s = 7 ∨ s = 8 ∨ s = 9 ∨ s = 10 ∨ s = 11 ∨ s = 12 by omega) with rfl | rfl | rfl | rfl | rfl | rfl | rfl | rfl | rfl
  · refine jm_tableOut (pc := 4) (tgt := 95) dR_canDoAtom_4 (by decide) (by decide) ?_
    refine jm_aload_n (pc := 95) dR_canDoAtom_95 rfl ?_
    refine jm_iconst (pc := 96) (v := 0) dR_canDoAtom_96 (by decide) ?_
    refine jm_lconst (pc := 97) (v := 0) dR_canDoAtom_97 (by decide) ?_
    refine jm_callS (pc := 98) (c_R_settle (d := d - 1) _ _) fR_settle sR_settle cR_124 dR_canDoAtom_98 rfl (by omega) ⟨Nat.le_refl _, Nat.le_refl _⟩ rfl (Nat.le_of_ble_eq_true rfl) (fun v s2 hq => ?_)
    obtain ⟨rfl, rfl⟩ := hq
    refine jm_zret (pc := 101) dR_canDoAtom_101 rfl (by first | exact Or.inl rfl | exact Or.inr rfl | assumption) ⟨Nat.le_refl _, Nat.le_refl _⟩ ?_
    exact aP_s rfl
  · refine jm_tableOut (pc := 4) (tgt := 95) dR_canDoAtom_4 (by decide) (by decide) ?_
    refine jm_aload_n (pc := 95) dR_canDoAtom_95 rfl ?_
    refine jm_iconst (pc := 96) (v := 0) dR_canDoAtom_96 (by decide) ?_
    refine jm_lconst (pc := 97) (v := 0) dR_canDoAtom_97 (by decide) ?_
    refine jm_callS (pc := 98) (c_R_settle (d := d - 1) _ _) fR_settle sR_settle cR_124 dR_canDoAtom_98 rfl (by omega) ⟨Nat.le_refl _, Nat.le_refl _⟩ rfl (Nat.le_of_ble_eq_true rfl) (fun v s2 hq => ?_)
    obtain ⟨rfl, rfl⟩ := hq
    refine jm_zret (pc := 101) dR_canDoAtom_101 rfl (by first | exact Or.inl rfl | exact Or.inr rfl | assumption) ⟨Nat.le_refl _, Nat.le_refl _⟩ ?_
    exact aP_s rfl
  · refine jm_tableIn (pc := 4) (tgt := 48) (off := 44) dR_canDoAtom_4 (by decide) (by decide) rfl (by decide) ?_
    refine jm_aload_n (pc := 48) dR_canDoAtom_48 rfl ?_
    refine jm_callS (pc := 49) (c_R_canDoSame (d := d - 1) hv (h6 rfl) (by omega)) fR_canDoSame sR_canDoSame cR_118 dR_canDoAtom_49 rfl (by omega) ⟨Nat.le_refl _, Nat.le_refl _⟩ rfl (Nat.le_of_ble_eq_true rfl) (fun v s2 hq => ?_)
    obtain ⟨b, rfl, hb⟩ := aP_v hq
    refine jm_zret (pc := 52) dR_canDoAtom_52 rfl (hb) ⟨Nat.le_refl _, Nat.le_refl _⟩ ?_
    exact hq
  · refine jm_tableIn (pc := 4) (tgt := 53) (off := 49) dR_canDoAtom_4 (by decide) (by decide) rfl (by decide) ?_
    refine jm_aload_n (pc := 53) dR_canDoAtom_53 rfl ?_
    refine jm_aload_n (pc := 54) dR_canDoAtom_54 rfl ?_
    refine jm_getl (pc := 55) lR_112 dR_canDoAtom_55 rfl (fun _ => rfl) ?_
    rw [hwi]
    refine jm_callS (pc := 58) (c_R_isGround (d := d - 1) _) fR_isGround sR_isGround cR_121 dR_canDoAtom_58 rfl (by omega) ⟨Nat.le_refl _, Nat.le_refl _⟩ rfl (Nat.le_of_ble_eq_true rfl) (fun v s2 hq => ?_)
    obtain ⟨rfl, rfl⟩ := hq
    refine jm_if_eq (pc := 61) (tgt := 77) dR_canDoAtom_61 (by decide) (fun h61 => ?_) (fun h61 => ?_)
    · refine jm_iconst (pc := 77) (v := 0) dR_canDoAtom_77 (by decide) ?_
      refine jm_zret (pc := 78) dR_canDoAtom_78 rfl (by first | exact Or.inl rfl | exact Or.inr rfl | assumption) ⟨Nat.le_refl _, Nat.le_refl _⟩ ?_
      first
        | exact aP_s (by show allR _ _ = _; unfold allR; rw [if_pos (jb_ne0 h61)])
        | exact aP_n (by show allR _ _ = _; unfold allR; rw [if_neg (jb_eq0 h61)])
        | exact absurd h70 (by decide)
    · refine jm_aload_n (pc := 64) dR_canDoAtom_64 rfl ?_
      refine jm_iconst (pc := 65) (v := 1) dR_canDoAtom_65 (by decide) ?_
      refine jm_lconst (pc := 66) (v := 0) dR_canDoAtom_66 (by decide) ?_
      refine jm_callS (pc := 67) (c_R_settle (d := d - 1) _ _) fR_settle sR_settle cR_124 dR_canDoAtom_67 rfl (by omega) ⟨Nat.le_refl _, Nat.le_refl _⟩ rfl (Nat.le_of_ble_eq_true rfl) (fun v s2 hq => ?_)
      obtain ⟨rfl, rfl⟩ := hq
      refine jm_if_eq (pc := 70) (tgt := 77) dR_canDoAtom_70 (by decide) (fun h70 => ?_) (fun h70 => ?_)
      · refine jm_iconst (pc := 77) (v := 0) dR_canDoAtom_77 (by decide) ?_
        refine jm_zret (pc := 78) dR_canDoAtom_78 rfl (by first | exact Or.inl rfl | exact Or.inr rfl | assumption) ⟨Nat.le_refl _, Nat.le_refl _⟩ ?_
        first
          | exact aP_s (by show allR _ _ = _; unfold allR; rw [if_pos (jb_ne0 h61)])
          | exact aP_n (by show allR _ _ = _; unfold allR; rw [if_neg (jb_eq0 h61)])
          | exact absurd h70 (by decide)
      · refine jm_iconst (pc := 73) (v := 1) dR_canDoAtom_73 (by decide) ?_
        refine jm_goto (pc := 74) (tgt := 78) dR_canDoAtom_74 (by decide) ?_
        refine jm_zret (pc := 78) dR_canDoAtom_78 rfl (by first | exact Or.inl rfl | exact Or.inr rfl | assumption) ⟨Nat.le_refl _, Nat.le_refl _⟩ ?_
        first
          | exact aP_s (by show allR _ _ = _; unfold allR; rw [if_pos (jb_ne0 h61)])
          | exact aP_n (by show allR _ _ = _; unfold allR; rw [if_neg (jb_eq0 h61)])
          | exact absurd h70 (by decide)
  · refine jm_tableIn (pc := 4) (tgt := 79) (off := 75) dR_canDoAtom_4 (by decide) (by decide) rfl (by decide) ?_
    refine jm_aload_n (pc := 79) dR_canDoAtom_79 rfl ?_
    refine jm_callS (pc := 80) (c_R_canDoForm (d := d - 1) hv (h8 (by omega)) (by omega)) fR_canDoForm sR_canDoForm cR_128 dR_canDoAtom_80 rfl (by omega) ⟨Nat.le_refl _, Nat.le_refl _⟩ rfl (Nat.le_of_ble_eq_true rfl) (fun v s2 hq => ?_)
    obtain ⟨b, rfl, hb⟩ := aP_v hq
    refine jm_zret (pc := 83) dR_canDoAtom_83 rfl (hb) ⟨Nat.le_refl _, Nat.le_refl _⟩ ?_
    exact hq
  · refine jm_tableIn (pc := 4) (tgt := 84) (off := 80) dR_canDoAtom_4 (by decide) (by decide) rfl (by decide) ?_
    refine jm_aload_n (pc := 84) dR_canDoAtom_84 rfl ?_
    refine jm_callS (pc := 85) (c_R_canDoSum (d := d - 1) hv (h8 (by omega)) (by omega)) fR_canDoSum sR_canDoSum cR_131 dR_canDoAtom_85 rfl (by omega) ⟨Nat.le_refl _, Nat.le_refl _⟩ rfl (Nat.le_of_ble_eq_true rfl) (fun v s2 hq => ?_)
    obtain ⟨b, rfl, hb⟩ := aP_v hq
    refine jm_zret (pc := 88) dR_canDoAtom_88 rfl (hb) ⟨Nat.le_refl _, Nat.le_refl _⟩ ?_
    exact hq
  · refine jm_tableIn (pc := 4) (tgt := 84) (off := 80) dR_canDoAtom_4 (by decide) (by decide) rfl (by decide) ?_
    refine jm_aload_n (pc := 84) dR_canDoAtom_84 rfl ?_
    refine jm_callS (pc := 85) (c_R_canDoSum (d := d - 1) hv (h8 (by omega)) (by omega)) fR_canDoSum sR_canDoSum cR_131 dR_canDoAtom_85 rfl (by omega) ⟨Nat.le_refl _, Nat.le_refl _⟩ rfl (Nat.le_of_ble_eq_true rfl) (fun v s2 hq => ?_)
    obtain ⟨b, rfl, hb⟩ := aP_v hq
    refine jm_zret (pc := 88) dR_canDoAtom_88 rfl (hb) ⟨Nat.le_refl _, Nat.le_refl _⟩ ?_
    exact hq
  · refine jm_tableIn (pc := 4) (tgt := 53) (off := 49) dR_canDoAtom_4 (by decide) (by decide) rfl (by decide) ?_
    refine jm_aload_n (pc := 53) dR_canDoAtom_53 rfl ?_
    refine jm_aload_n (pc := 54) dR_canDoAtom_54 rfl ?_
    refine jm_getl (pc := 55) lR_112 dR_canDoAtom_55 rfl (fun _ => rfl) ?_
    rw [hwi]
    refine jm_callS (pc := 58) (c_R_isGround (d := d - 1) _) fR_isGround sR_isGround cR_121 dR_canDoAtom_58 rfl (by omega) ⟨Nat.le_refl _, Nat.le_refl _⟩ rfl (Nat.le_of_ble_eq_true rfl) (fun v s2 hq => ?_)
    obtain ⟨rfl, rfl⟩ := hq
    refine jm_if_eq (pc := 61) (tgt := 77) dR_canDoAtom_61 (by decide) (fun h61 => ?_) (fun h61 => ?_)
    · refine jm_iconst (pc := 77) (v := 0) dR_canDoAtom_77 (by decide) ?_
      refine jm_zret (pc := 78) dR_canDoAtom_78 rfl (by first | exact Or.inl rfl | exact Or.inr rfl | assumption) ⟨Nat.le_refl _, Nat.le_refl _⟩ ?_
      first
        | exact aP_s (by show allR _ _ = _; unfold allR; rw [if_pos (jb_ne0 h61)])
        | exact aP_n (by show allR _ _ = _; unfold allR; rw [if_neg (jb_eq0 h61)])
        | exact absurd h70 (by decide)
    · refine jm_aload_n (pc := 64) dR_canDoAtom_64 rfl ?_
      refine jm_iconst (pc := 65) (v := 1) dR_canDoAtom_65 (by decide) ?_
      refine jm_lconst (pc := 66) (v := 0) dR_canDoAtom_66 (by decide) ?_
      refine jm_callS (pc := 67) (c_R_settle (d := d - 1) _ _) fR_settle sR_settle cR_124 dR_canDoAtom_67 rfl (by omega) ⟨Nat.le_refl _, Nat.le_refl _⟩ rfl (Nat.le_of_ble_eq_true rfl) (fun v s2 hq => ?_)
      obtain ⟨rfl, rfl⟩ := hq
      refine jm_if_eq (pc := 70) (tgt := 77) dR_canDoAtom_70 (by decide) (fun h70 => ?_) (fun h70 => ?_)
      · refine jm_iconst (pc := 77) (v := 0) dR_canDoAtom_77 (by decide) ?_
        refine jm_zret (pc := 78) dR_canDoAtom_78 rfl (by first | exact Or.inl rfl | exact Or.inr rfl | assumption) ⟨Nat.le_refl _, Nat.le_refl _⟩ ?_
        first
          | exact aP_s (by show allR _ _ = _; unfold allR; rw [if_pos (jb_ne0 h61)])
          | exact aP_n (by show allR _ _ = _; unfold allR; rw [if_neg (jb_eq0 h61)])
          | exact absurd h70 (by decide)
      · refine jm_iconst (pc := 73) (v := 1) dR_canDoAtom_73 (by decide) ?_
        refine jm_goto (pc := 74) (tgt := 78) dR_canDoAtom_74 (by decide) ?_
        refine jm_zret (pc := 78) dR_canDoAtom_78 rfl (by first | exact Or.inl rfl | exact Or.inr rfl | assumption) ⟨Nat.le_refl _, Nat.le_refl _⟩ ?_
        first
          | exact aP_s (by show allR _ _ = _; unfold allR; rw [if_pos (jb_ne0 h61)])
          | exact aP_n (by show allR _ _ = _; unfold allR; rw [if_neg (jb_eq0 h61)])
          | exact absurd h70 (by decide)
  · refine jm_tableIn (pc := 4) (tgt := 89) (off := 85) dR_canDoAtom_4 (by decide) (by decide) rfl (by decide) ?_
    refine jm_aload_n (pc := 89) dR_canDoAtom_89 rfl ?_
    refine jm_aload_n (pc := 90) dR_canDoAtom_90 rfl ?_
    refine jm_callV (pc := 91) (c_R_canDoCall (d := d - 1) hv hp ht (hq4 rfl).1 (hq4 rfl).2 hwi (by omega)) fR_canDoCall vR_canDoCall cR_134 dR_canDoAtom_91 rfl rfl rfl rfl (by omega) ⟨Nat.le_refl _, Nat.le_refl _⟩ rfl (Nat.le_of_ble_eq_true rfl) (fun v s2 hq => ?_)
    obtain ⟨b, rfl, hb⟩ := aP_v hq
    refine jm_zret (pc := 94) dR_canDoAtom_94 rfl (hb) ⟨Nat.le_refl _, Nat.le_refl _⟩ ?_
    exact hq
end CAtom
end
section
/-! states read back -/
theorem sI_eq {st : aS} {k i j : Nat} {v : Int32} : (sI st k i j v).1 k i j = v := if_pos ⟨rfl, rfl, rfl⟩
theorem sI_ne {st : aS} {k i j a b c : Nat} {v : Int32} (h : ¬ (a = k ∧ b = i ∧ c = j)) : (sI st k i j v).1 a b c = st.1 a b c := if_neg h
theorem sL_eq {st : aS} {k i j : Nat} {v : Int64} : (sL st k i j v).2.1 k i j = v := if_pos ⟨rfl, rfl, rfl⟩
theorem sL_ne {st : aS} {k i j a b c : Nat} {v : Int64} (h : ¬ (a = k ∧ b = i ∧ c = j)) : (sL st k i j v).2.1 a b c = st.2.1 a b c := if_neg h
theorem sR_eq {st : aS} {k i j : Nat} {v : Option Nat} : (sR st k i j v).2.2.1 k i j = v := if_pos ⟨rfl, rfl, rfl⟩
theorem sR_ne {st : aS} {k i j a b c : Nat} {v : Option Nat} (h : ¬ (a = k ∧ b = i ∧ c = j)) : (sR st k i j v).2.2.1 a b c = st.2.2.1 a b c := if_neg h
/-! what canDo answers -/
def rQ (E : EE) (i : Nat) (S : Int64) (f : Nat) (v : Option aV) (s' : aS) : Prop := match (tryF E f i S).1 with
  | .inl B => v = some (vI 1) ∧ s'.2.1 0 i 14 = B ∧ s'.2.1 0 i 13 = S ∧ gd E s' (finF E f i S)
  | .inr k => v = some (vI 0) ∧ s'.1 0 i 16 = nI k
def over (t c : Nat) (v : Option aV) (s' : aS) : Prop := 20000 < t + c ∧ s'.1 3 0 2 = nI 20000 ∧ s'.1 3 0 3 = 1 ∧ v = some (vI 0)
def norm (t c : Nat) (st s' : aS) : Prop := t + c ≤ 20000 ∧ s'.1 3 0 2 = nI (t + c) ∧ s'.1 3 0 3 = st.1 3 0 3
def cQ (E : EE) (i : Nat) (S : Int64) (f t : Nat) (st : aS) (v : Option aV) (s' : aS) : Prop := TF E i st s' ∧ ((norm t (tryF E f i S).2 st s' ∧ rQ E i S f v s') ∨ over t (tryF E f i S).2 v s')
def CD (l : Launch) (D : mD) (E : EE) (f dd : Nat) : Prop := ∀ (st : aS) (i : Nat) (S : Int64) (t : Nat), TC E st → i < eN E → eD E i + f = 21 → st.1 3 0 2 = nI t → t ≤ 20000 → MC l D mR_canDo dd 0 0 [vR (some (3, 0)), vR (some (0, i)), vL S] st (cQ E i S f t st)
theorem cQ_v {E : EE} {i : Nat} {S : Int64} {f t : Nat} {st s' : aS} {v : Option aV} (h : cQ E i S f t st v s') : ∃ b : Int32, v = some (vI b) ∧ (b = 0 ∨ b = 1) := by
  rcases h.2 with ⟨-, h⟩ | h
  · unfold rQ at h
    split at h
    · exact ⟨1, h.1, Or.inr rfl⟩
    · exact ⟨0, h.1, Or.inl rfl⟩
  · exact ⟨0, h.2.2.2, Or.inl rfl⟩
/-- it could be done -/
theorem cQ_1 {E : EE} {i : Nat} {S : Int64} {f t : Nat} {st s' : aS} {b : Int32} (h : cQ E i S f t st (some (vI b)) s') (hb : ¬ b = 0) : ∃ B, (tryF E f i S).1 = .inl B ∧ TF E i st s' ∧ norm t (tryF E f i S).2 st s' ∧ b = 1 ∧ s'.2.1 0 i 14 = B ∧ s'.2.1 0 i 13 = S ∧ gd E s' (finF E f i S) := by
  rcases h.2 with ⟨hn, hr⟩ | ho
  · unfold rQ at hr
    split at hr
    · next B hB =>
      have e : b = 1 := by have := hr.1; simpa using this
      exact ⟨B, hB, h.1, hn, e, hr.2⟩
    · exact absurd (by have := hr.1; simpa using this) hb
  · exact absurd (by have := ho.2.2.2; simpa using this) hb
/-- it couldn't -/
theorem cQ_0 {E : EE} {i : Nat} {S : Int64} {f t : Nat} {st s' : aS} {b : Int32} (h : cQ E i S f t st (some (vI b)) s') (hb : b = 0) : TF E i st s' ∧ ((∃ k, (tryF E f i S).1 = .inr k ∧ norm t (tryF E f i S).2 st s' ∧ s'.1 0 i 16 = nI k) ∨ (20000 < t + (tryF E f i S).2 ∧ s'.1 3 0 2 = nI 20000 ∧ s'.1 3 0 3 = 1)) := by
  subst hb
  refine ⟨h.1, ?_⟩
  rcases h.2 with ⟨hn, hr⟩ | ho
  · unfold rQ at hr
    split at hr
    · exact absurd hr.1 (by simp)
    · next k hk => exact Or.inl ⟨k, hk, hn, hr.2⟩
  · exact Or.inr ⟨ho.1, ho.2.1, ho.2.2.1⟩
def pQ (E : EE) (i p : Nat) (S : Int64) (f t : Nat) (st : aS) (v : Option aV) (s' : aS) : Prop := (∃ B, (tryF E f p S).1 = .inl B ∧ v = some (vI 1) ∧ norm t (tryF E f p S).2 st s' ∧ TF E p st s' ∧ s'.2.1 0 p 14 = B ∧ s'.2.1 0 p 13 = S ∧ gd E s' (finF E f p S)) ∨ (v = some (vI 0) ∧ TF E i st s' ∧ ((∃ k, (tryF E f p S).1 = .inr k ∧ norm t (tryF E f p S).2 st s' ∧ s'.1 0 i 16 = nI k) ∨ (20000 < t + (tryF E f p S).2 ∧ s'.1 3 0 2 = nI 20000 ∧ s'.1 3 0 3 = 1)))
def jQ (st : aS) (i : Nat) (r : Int64 ⊕ Nat) (v : Option aV) (s' : aS) : Prop := match r with
  | .inl B => s' = sL st 0 i 14 B ∧ v = some (vI 1)
  | .inr _ => st = s' ∧ v = some (vI 0)
theorem jQ_v {st s' : aS} {i : Nat} {r : Int64 ⊕ Nat} {v : Option aV} (h : jQ st i r v s') : ∃ b : Int32, v = some (vI b) ∧ (b = 0 ∨ b = 1) := by
  cases r with
  | inl B => exact ⟨1, h.2, Or.inr rfl⟩
  | inr k => exact ⟨0, h.2, Or.inl rfl⟩
theorem tryF_pos (E : EE) : ∀ (f i : Nat) (S : Int64), 1 ≤ (tryF E f i S).2
  | 0, i, S => Nat.le_refl _
  | f + 1, i, S => by
    unfold tryF
    split
    · exact Nat.le_add_right _ _
    · split
      · exact Nat.le_add_right _ _
      · split
        · split
          · exact Nat.le_refl _
          · exact Nat.le_add_right _ _
        · split
          · split
            · exact Nat.le_add_right _ _
            · exact Nat.le_refl _
          · exact Nat.le_refl _
theorem TC.tr {E : EE} {st : aS} (h : TC E st) : TR E := h.1
/-- the parts that are left -/
def lf (st : aS) (ps : List Nat) : List Nat := ps.filter (fun p => decide (st.1 0 p 17 = 0))
theorem lf_cons0 {st : aS} {p : Nat} {ps : List Nat} (h : st.1 0 p 17 = 0) : lf st (p :: ps) = p :: lf st ps := List.filter_cons_of_pos (by simpa using h)
theorem lf_cons1 {st : aS} {p : Nat} {ps : List Nat} (h : ¬ st.1 0 p 17 = 0) : lf st (p :: ps) = lf st ps := List.filter_cons_of_neg (by simpa using h)
theorem lf_mem {st : aS} {p : Nat} {ps : List Nat} : p ∈ lf st ps ↔ p ∈ ps ∧ st.1 0 p 17 = 0 := by
  unfold lf
  rw [List.mem_filter]
  simp
theorem lf_congr {st s' : aS} {ps : List Nat} (h : ∀ p ∈ ps, s'.1 0 p 17 = st.1 0 p 17) : lf s' ps = lf st ps := by
  unfold lf
  refine List.filter_congr (fun p hp => ?_)
  rw [h p hp]
def dX (E : EE) (i : Nat) (rem : List Nat) : Nat → Prop := fun m => m = i ∨ ∃ q ∈ rem, subP (eP E) q m
/-- what doLeftmost answers -/
def dQ (E : EE) (i : Nat) (S : Int64) (f t : Nat) (sc : aS) (ps : List Nat) (v : Option aV) (s' : aS) : Prop :=
  (norm t (scanF (tryF E f) S (lf sc ps)).2 sc s' ∧ SE sc s' ∧ NF (dX E i (lf sc ps)) sc s' ∧ (∀ q ∈ eK E i, s'.2.2.1 0 q 19 = sc.2.2.1 0 q 19) ∧ (∀ j, s'.1 0 i j = sc.1 0 i j ∧ s'.2.2.1 0 i j = sc.2.2.1 0 i j ∧ (j ≠ 14 → s'.2.1 0 i j = sc.2.1 0 i j)) ∧
    ((∃ z, (scanF (tryF E f) S (lf sc ps)).1 = some z ∧ v = some (vR (some (0, z.1))) ∧ s'.1 0 z.1 17 = 1 ∧ s'.2.1 0 i 14 = z.2 ∧ gd E s' (finF E f z.1 S) ∧ ∀ q ∈ eK E i, q ≠ z.1 → s'.1 0 q 17 = sc.1 0 q 17) ∨
     ((scanF (tryF E f) S (lf sc ps)).1 = none ∧ v = some (vR none) ∧ s'.2.1 0 i 14 = sc.2.1 0 i 14 ∧ (∀ q ∈ eK E i, s'.1 0 q 17 = sc.1 0 q 17) ∧ ∀ q r, lf sc ps = q :: r → s'.1 0 q 16 = nI (stk (tryF E f q S).1 q))))
  ∨ (20000 < t + (scanF (tryF E f) S (lf sc ps)).2 ∧ s'.1 3 0 2 = nI 20000 ∧ s'.1 3 0 3 = 1 ∧ v = some (vR none) ∧ TF E i sc s')
theorem dQ_hit {E : EE} (hT : TR E) {i p f t : Nat} {S : Int64} {sc s2 : aS} {ps : List Nat} {b : Int32} (hi : i < eN E) (hp : p ∈ eK E i) (h0 : sc.1 0 p 17 = 0) (hq : cQ E p S f t sc (some (vI b)) s2) (hb : ¬ b = 0) : dQ E i S f t sc (p :: ps) (some (vR (some (0, p)))) (sL (sI s2 0 p 17 1) 0 i 14 ((sI s2 0 p 17 1).2.1 0 p 14)) := by
  obtain ⟨B, e1, e2, e3, -, e5, e6, e7⟩ := cQ_1 hq hb
  have hs : scanF (tryF E f) S (lf sc (p :: ps)) = (some (p, B), (tryF E f p S).2) := by
    rw [lf_cons0 h0]
    unfold scanF
    rw [e1]
  have hip := (hT.kid hi hp).2.1
  have hat := e2.at hT hi hp
  refine Or.inl ⟨?_, ?_, ?_, ?_, ?_, Or.inl ⟨(p, B), by rw [hs], rfl, ?_, ?_, ?_, ?_⟩⟩
  · rw [hs]
    exact ⟨e3.1, show (sI s2 0 p 17 1).1 3 0 2 = _ from (sI_ne (by omega)).trans e3.2.1, show (sI s2 0 p 17 1).1 3 0 3 = _ from (sI_ne (by omega)).trans e3.2.2⟩
  · exact (e2.1.tr (TF.pI (E := E) (i := i) (a := p) (j := 17) (hT.sub hi hp subP_self) (Or.inr (Or.inr ⟨rfl, by omega⟩))).1).tr (TF.pL (E := E) (i := i) (a := i) subP_self (Or.inr rfl)).1
  · intro m hm j
    have hmi : m ≠ i := fun q => hm (Or.inl q)
    have hmp : ¬ subP (eP E) p m := fun q => hm (Or.inr ⟨p, by rw [lf_cons0 h0]; exact List.mem_cons_self, q⟩)
    have hmp2 : m ≠ p := fun q => hmp (by rw [q]; exact subP_self)
    obtain ⟨a1, a2, a3⟩ := e2.2.1 m hmp j
    exact ⟨(sI_ne (fun q => hmp2 q.2.1)).trans a1, (sL_ne (fun q => hmi q.2.1)).trans a2, a3⟩
  · intro q hq2
    by_cases e : q = p
    · rw [e]; exact e2.2.2.2
    · exact (e2.sib hT hi hp hq2 (Ne.symm e) subP_self 19).2.2
  · intro j
    exact ⟨(sI_ne (by omega)).trans (hat j).1, (hat j).2.2, fun hj => (sL_ne (by omega)).trans (hat j).2.1⟩
  · exact sI_eq
  · exact sL_eq.trans e5
  · refine e7.keep (fun z hz => ?_) (fun z hz r hr => rfl)
    have h1 := subP_gt hT.2.1 (finF_sub hT f (hT.kid hi hp).1 z hz).1
    exact ⟨sL_ne (by omega), sI_ne (by omega), rfl⟩
  · intro q hq2 hne
    exact (sI_ne (fun z => hne z.2.1)).trans (e2.sib hT hi hp hq2 (Ne.symm hne) subP_self 17).1
theorem dQ_miss {E : EE} (hT : TR E) {i p f t : Nat} {S : Int64} {sc s2 : aS} {ps : List Nat} {b : Int32} (hi : i < eN E) (hp : p ∈ eK E i) (hps : ∀ q ∈ ps, q ∈ eK E i) (hnd : p ∉ ps) (h0 : sc.1 0 p 17 = 0) (hq : cQ E p S f t sc (some (vI b)) s2) (hb : b = 0) : ∃ t2, t2 ≤ 20000 ∧ s2.1 3 0 2 = nI t2 ∧ ∀ v s', dQ E i S f t2 s2 ps v s' → dQ E i S f t sc (p :: ps) v s' := by
  obtain ⟨e1, e2⟩ := cQ_0 hq hb
  have hip := (hT.kid hi hp).2.1
  have hat := e1.at hT hi hp
  have hl : lf s2 ps = lf sc ps := lf_congr (fun q hq2 => (e1.sib hT hi hp (hps q hq2) (fun z => hnd (by rw [z]; exact hq2)) subP_self 17).1)
  have f17 : ∀ q ∈ eK E i, s2.1 0 q 17 = sc.1 0 q 17 := by
    intro q hq2
    by_cases e : q = p
    · rw [e]; exact e1.2.2.1
    · exact (e1.sib hT hi hp hq2 (Ne.symm e) subP_self 17).1
  have f19 : ∀ q ∈ eK E i, s2.2.2.1 0 q 19 = sc.2.2.1 0 q 19 := by
    intro q hq2
    by_cases e : q = p
    · rw [e]; exact e1.2.2.2
    · exact (e1.sib hT hi hp hq2 (Ne.symm e) subP_self 19).2.2
  have nf1 : NF (dX E i (lf sc (p :: ps))) sc s2 := e1.2.1.up (fun m q => Or.inr ⟨p, by rw [lf_cons0 h0]; exact List.mem_cons_self, q⟩)
  have nf2 : ∀ {s' : aS}, NF (dX E i (lf sc ps)) s2 s' → NF (dX E i (lf sc (p :: ps))) s2 s' := fun h => h.up (fun m q => by
    rcases q with q | ⟨r, hr, q⟩
    · exact Or.inl q
    · exact Or.inr ⟨r, by rw [lf_cons0 h0]; exact List.mem_cons_of_mem _ hr, q⟩)
  rcases e2 with ⟨k, a1, a2, a3⟩ | ⟨a1, a2, a3⟩
  · refine ⟨_, a2.1, a2.2.1, fun v s' h => ?_⟩
    have hs : scanF (tryF E f) S (lf sc (p :: ps)) = ((scanF (tryF E f) S (lf sc ps)).1, (tryF E f p S).2 + (scanF (tryF E f) S (lf sc ps)).2) := by
      rw [lf_cons0 h0]
      conv => lhs; unfold scanF
      rw [a1]
    rcases h with ⟨b1, b2, b3, b4, b5, b6⟩ | ⟨b1, b2, b3, b4, b5⟩
    · rw [hl] at b1 b3 b6
      refine Or.inl ⟨?_, e1.1.tr b2, nf1.tr (nf2 b3), fun q hq2 => (b4 q hq2).trans (f19 q hq2), fun j => ⟨(b5 j).1.trans (hat j).1, (b5 j).2.1.trans (hat j).2.2, fun hj => ((b5 j).2.2 hj).trans (hat j).2.1⟩, ?_⟩
      · rw [hs]
        exact ⟨by rw [← Nat.add_assoc]; exact b1.1, by rw [← Nat.add_assoc]; exact b1.2.1, b1.2.2.trans a2.2.2⟩
      · rw [hs]
        rcases b6 with ⟨z, c1, c2, c3, c4, c5, c6⟩ | ⟨c1, c2, c3, c4, c5⟩
        · exact Or.inl ⟨z, c1, c2, c3, c4, c5, fun q hq2 hne => (c6 q hq2 hne).trans (f17 q hq2)⟩
        · refine Or.inr ⟨c1, c2, c3.trans (hat 14).2.1, fun q hq2 => (c4 q hq2).trans (f17 q hq2), fun q r hr => ?_⟩
          rw [lf_cons0 h0] at hr
          cases hr
          have hn : ¬ dX E i (lf sc ps) p := by
            intro q
            rcases q with q | ⟨r, hr, q⟩
            · omega
            · have hrk := hps r (lf_mem.mp hr).1
              exact hT.apart hi hp hrk (fun z => hnd (by rw [z]; exact (lf_mem.mp hr).1)) subP_self q
          rw [(b3 p hn 16).1, a3, a1]
          rfl
    · rw [hl] at b1
      exact Or.inr ⟨by rw [hs]; omega, b2, b3, b4, (e1.up hT hi hp).tr b5⟩
  · refine ⟨20000, Nat.le_refl _, a2, fun v s' h => ?_⟩
    have hs : (tryF E f p S).2 ≤ (scanF (tryF E f) S (lf sc (p :: ps))).2 := by
      rw [lf_cons0 h0]
      conv => rhs; unfold scanF
      split
      · exact Nat.le_refl _
      · exact Nat.le_add_right _ _
    rcases h with ⟨b1, b2, b3, b4, b5, b6⟩ | ⟨b1, b2, b3, b4, b5⟩
    · have hc0 : (scanF (tryF E f) S (lf s2 ps)).2 = 0 := by have := b1.1; omega
      have hnone : (scanF (tryF E f) S (lf s2 ps)).1 = none := by
        cases hL : lf s2 ps with
        | nil => rfl
        | cons q r =>
          rw [hL] at hc0
          unfold scanF at hc0
          have := tryF_pos E f q S
          split at hc0
          · omega
          · simp only at hc0; omega
      have e9 : TF E i s2 s' := ⟨b2, b3.up (fun m q => by
        rcases q with q | ⟨r, hr, q⟩
        · rw [q]; exact subP_self
        · exact hT.sub hi (hps r (lf_mem.mp hr).1) q), (b5 17).1, (b5 19).2.1⟩
      rcases b6 with ⟨z, c1, -⟩ | ⟨c1, c2, -⟩
      · rw [hnone] at c1; cases c1
      · exact Or.inr ⟨by omega, by rw [b1.2.1, hc0], b1.2.2.trans a3, c2, (e1.up hT hi hp).tr e9⟩
    · exact Or.inr ⟨by omega, b2, b3, b4, (e1.up hT hi hp).tr b5⟩
end
section
section CTrial
variable {l : Launch} {D : mD} {d : Nat} {st : aS} {E : EE}
set_option maxRecDepth 100000 in
set_option maxHeartbeats 4000000 in
theorem c_R_canJoin {i : Nat} {S O e s : Int64} (hA : st.2.1 0 i 13 = S) (hO : st.2.1 0 i 12 ||| st.2.1 3 0 1 = O) (hd : 1 ≤ d) : MC l D mR_canJoin d 0 0 [vR (some (3, 0)), vR (some (0, i)), vL e, vL s] st (jQ st i (joinF i S O e s)) := by
  refine jm_start (ls0 := [some (vR (some (3, 0))), some (vR (some (0, i))), some (vL e), none, some (vL s), none, none, none]) (by decide) (Nat.le_of_ble_eq_true rfl) rfl ?_
  refine jm_aload_n (pc := 0) dR_canJoin_0 rfl ?_
  refine jm_aload_n (pc := 1) dR_canJoin_1 rfl ?_
  refine jm_callV (pc := 2) (c_R_outerOf (d := d - 1)) fR_outerOf vR_outerOf cR_105 dR_canJoin_2 rfl rfl rfl rfl (by omega) ⟨Nat.le_refl _, Nat.le_refl _⟩ rfl (Nat.le_of_ble_eq_true rfl) (fun v s2 hq => ?_)
  obtain ⟨rfl, rfl⟩ := hq
  rw [hO]
  refine jm_aload_n (pc := 5) dR_canJoin_5 rfl ?_
  refine jm_getl (pc := 6) lR_31 dR_canJoin_6 rfl (fun _ => rfl) ?_
  rw [hA]
  refine jm_ldc2 (pc := 9) dR_canJoin_9 klR_91 ?_
  refine jm_lxor (pc := 12) dR_canJoin_12 ?_
  refine jm_land (pc := 13) dR_canJoin_13 ?_
  refine jm_lstore (pc := 14) dR_canJoin_14 (by decide) ?_
  refine jm_lload (pc := 16) dR_canJoin_16 rfl ?_
  refine jm_lload (pc := 18) dR_canJoin_18 rfl ?_
  refine jm_land (pc := 20) dR_canJoin_20 ?_
  refine jm_lload_n (pc := 21) dR_canJoin_21 rfl ?_
  refine jm_ldc2 (pc := 22) dR_canJoin_22 klR_91 ?_
  refine jm_lxor (pc := 25) dR_canJoin_25 ?_
  refine jm_land (pc := 26) dR_canJoin_26 ?_
  refine jm_lconst (pc := 27) (v := 0) dR_canJoin_27 (by decide) ?_
  refine jm_lcmp (pc := 28) dR_canJoin_28 ?_
  refine jm_if_eq (pc := 29) (tgt := 34) dR_canJoin_29 (by decide) (fun h29 => ?_) (fun h29 => ?_)
  · refine jm_aload_n (pc := 34) dR_canJoin_34 rfl ?_
    refine jm_aload_n (pc := 35) dR_canJoin_35 rfl ?_
    refine jm_getl (pc := 36) lR_31 dR_canJoin_36 rfl (fun _ => rfl) ?_
    rw [hA]
    refine jm_lload (pc := 39) dR_canJoin_39 rfl ?_
    refine jm_lload (pc := 41) dR_canJoin_41 rfl ?_
    refine jm_land (pc := 43) dR_canJoin_43 ?_
    refine jm_lor (pc := 44) dR_canJoin_44 ?_
    refine jm_putl (pc := 45) pR_canJoin_36 dR_canJoin_45 rfl rfl ?_
    refine jm_iconst (pc := 48) (v := 1) dR_canJoin_48 (by decide) ?_
    refine jm_zret (pc := 49) dR_canJoin_49 rfl (by first | exact Or.inl rfl | exact Or.inr rfl | assumption) ⟨Nat.le_refl _, Nat.le_refl _⟩ ?_
    rw [show joinF i S O e s = .inl (S ||| ((O &&& nt S) &&& s)) from if_pos (lg0.mp h29)]
    exact ⟨rfl, rfl⟩
  · refine jm_iconst (pc := 32) (v := 0) dR_canJoin_32 (by decide) ?_
    refine jm_zret (pc := 33) dR_canJoin_33 rfl (by first | exact Or.inl rfl | exact Or.inr rfl | assumption) ⟨Nat.le_refl _, Nat.le_refl _⟩ ?_
    rw [show joinF i S O e s = .inr i from if_neg (fun q => h29 (lg0.mpr q))]
    exact ⟨rfl, rfl⟩
set_option maxRecDepth 100000 in
set_option maxHeartbeats 4000000 in
theorem c_R_canDoPart {i p f t : Nat} {S : Int64} (hC : CD l D E f (d - 1)) (hT : TC E st) (hi : i < eN E) (hp : p ∈ eK E i) (hdp : eD E i + 1 + f = 21) (htr : st.1 3 0 2 = nI t) (ht : t ≤ 20000) (hd : 1 ≤ d) : MC l D mR_canDoPart d 0 0 [vR (some (3, 0)), vR (some (0, i)), vR (some (0, p)), vL S] st (pQ E i p S f t st) := by
  refine jm_start (ls0 := [some (vR (some (3, 0))), some (vR (some (0, i))), some (vR (some (0, p))), some (vL S), none]) (by decide) (Nat.le_of_ble_eq_true rfl) rfl ?_
  refine jm_aload_n (pc := 0) dR_canDoPart_0 rfl ?_
  refine jm_aload_n (pc := 1) dR_canDoPart_1 rfl ?_
  refine jm_lload_n (pc := 2) dR_canDoPart_2 rfl ?_
  refine jm_callV (pc := 3) (hC st p S t hT (hT.tr.kid hi hp).1 (by rw [(hT.tr.kid hi hp).2.2.2]; omega) htr ht) fR_canDo vR_canDo cR_27 dR_canDoPart_3 rfl rfl rfl rfl (by omega) ⟨Nat.le_refl _, Nat.le_refl _⟩ rfl (Nat.le_of_ble_eq_true rfl) (fun v s2 hq => ?_)
  obtain ⟨b, rfl, hb⟩ := cQ_v hq
  refine jm_if_eq (pc := 6) (tgt := 11) dR_canDoPart_6 (by decide) (fun h6 => ?_) (fun h6 => ?_)
  · refine jm_aload_n (pc := 11) dR_canDoPart_11 rfl ?_
    refine jm_aload_n (pc := 12) dR_canDoPart_12 rfl ?_
    refine jm_geti (pc := 13) lR_42 dR_canDoPart_13 rfl (fun _ => rfl) ?_
    refine jm_puti (pc := 16) pR_canDoPart_42 dR_canDoPart_16 rfl rfl ?_
    refine jm_iconst (pc := 19) (v := 0) dR_canDoPart_19 (by decide) ?_
    refine jm_zret (pc := 20) dR_canDoPart_20 rfl (by first | exact Or.inl rfl | exact Or.inr rfl | assumption) ⟨Nat.le_refl _, Nat.le_refl _⟩ ?_
    obtain ⟨e1, e2⟩ := cQ_0 hq h6
    refine Or.inr ⟨rfl, (e1.up hT.tr hi hp).tr (TF.pI subP_self (Or.inr (Or.inl rfl))), ?_⟩
    rcases e2 with ⟨k, a1, a2, a3⟩ | ⟨a1, a2, a3⟩
    · exact Or.inl ⟨k, a1, ⟨a2.1, (sI_ne (by omega)).trans a2.2.1, (sI_ne (by omega)).trans a2.2.2⟩, sI_eq.trans a3⟩
    · exact Or.inr ⟨a1, (sI_ne (by omega)).trans a2, (sI_ne (by omega)).trans a3⟩
  · refine jm_iconst (pc := 9) (v := 1) dR_canDoPart_9 (by decide) ?_
    refine jm_zret (pc := 10) dR_canDoPart_10 rfl (by first | exact Or.inl rfl | exact Or.inr rfl | assumption) ⟨Nat.le_refl _, Nat.le_refl _⟩ ?_
    obtain ⟨B, e1, e2, e3, -, e5⟩ := cQ_1 hq h6
    exact Or.inl ⟨B, e1, rfl, e3, e2, e5⟩
set_option maxRecDepth 100000 in
set_option maxHeartbeats 4000000 in
theorem lp_R_stuckOfLeftmost {i : Nat} (hT : TC E st) (hi : i < eN E) : ∀ (ps : List Nat) (k : Nat), ps = (eK E i).drop k → MS l D mR_stuckOfLeftmost d 0 0 (fun v s' => st = s' ∧ ∃ x, v = some (vI x) ∧ ∀ q r, lf st ps = q :: r → x = st.1 0 q 16) 0 0 5 [some (vR (some (0, i))), some (vR (ps.head?.map (Prod.mk 0)))] [] st := by
  intro ps
  induction ps with
  | nil =>
    intro k hk
    refine jm_aload_n (pc := 5) dR_stuckOfLeftmost_5 rfl ?_
    refine jm_ifnull (pc := 6) (tgt := 29) dR_stuckOfLeftmost_6 (by decide) (fun h6 => ?_) (fun q6 h6 => ?_)
    · refine jm_aload_n (pc := 29) dR_stuckOfLeftmost_29 rfl ?_
      refine jm_geti (pc := 30) lR_39 dR_stuckOfLeftmost_30 rfl (fun _ => rfl) ?_
      refine jm_iret (pc := 33) dR_stuckOfLeftmost_33 rfl ⟨Nat.le_refl _, Nat.le_refl _⟩ ?_
      exact ⟨rfl, _, rfl, fun q r h => by simp [lf] at h⟩
    · exact absurd h6 (by simp)
  | cons p ps ih =>
    intro k hk
    have hkp : (eK E i)[k]? = some p := by
      have := congrArg List.head? hk
      rw [List.head?_drop] at this
      exact this.symm
    have hps : ps = (eK E i).drop (k + 1) := by
      have := congrArg List.tail hk
      rw [List.tail_drop] at this
      exact this
    have hnx : st.2.2.1 0 p 10 = ps.head? := by
      rw [(hT.2.2.2 i hi).2.2.2.2.1 k p hkp, hps, List.head?_drop]
    refine jm_aload_n (pc := 5) dR_stuckOfLeftmost_5 rfl ?_
    refine jm_ifnull (pc := 6) (tgt := 29) dR_stuckOfLeftmost_6 (by decide) (fun h6 => ?_) (fun q6 h6 => ?_)
    · exact absurd h6 (by simp)
    · refine jm_aload_n (pc := 9) dR_stuckOfLeftmost_9 rfl ?_
      refine jm_geti (pc := 10) lR_68 dR_stuckOfLeftmost_10 rfl (fun _ => rfl) ?_
      refine jm_if_ne (pc := 13) (tgt := 21) dR_stuckOfLeftmost_13 (by decide) (fun h13 => ?_) (fun h13 => ?_)
      · refine jm_aload_n (pc := 21) dR_stuckOfLeftmost_21 rfl ?_
        refine jm_getr (pc := 22) lR_74 dR_stuckOfLeftmost_22 rfl rfl ?_
        refine jm_astore_n (pc := 25) dR_stuckOfLeftmost_25 (by decide) ?_
        refine jm_goto (pc := 26) (tgt := 5) dR_stuckOfLeftmost_26 (by decide) ?_
        rw [lf_cons1 h13]
        exact MS.to (ih (k + 1) hps) (by rw [← hnx]; rfl) rfl rfl
      · refine jm_aload_n (pc := 16) dR_stuckOfLeftmost_16 rfl ?_
        refine jm_geti (pc := 17) lR_42 dR_stuckOfLeftmost_17 rfl (fun _ => rfl) ?_
        refine jm_iret (pc := 20) dR_stuckOfLeftmost_20 rfl ⟨Nat.le_refl _, Nat.le_refl _⟩ ?_
        refine ⟨rfl, _, rfl, fun q r h => ?_⟩
        rw [lf_cons0 h13] at h
        cases h
        rfl
set_option maxRecDepth 100000 in
set_option maxHeartbeats 4000000 in
theorem c_R_stuckOfLeftmost {i : Nat} (hT : TC E st) (hi : i < eN E) : MC l D mR_stuckOfLeftmost d 0 0 [vR (some (0, i))] st (fun v s' => st = s' ∧ ∃ x, v = some (vI x) ∧ ∀ q r, lf st (eK E i) = q :: r → x = st.1 0 q 16) := by
  refine jm_start (ls0 := [some (vR (some (0, i))), none]) (by decide) (Nat.le_of_ble_eq_true rfl) rfl ?_
  refine jm_aload_n (pc := 0) dR_stuckOfLeftmost_0 rfl ?_
  refine jm_getr (pc := 1) lR_64 dR_stuckOfLeftmost_1 rfl rfl ?_
  rw [(hT.2.2.2 i hi).2.2.2.1]
  refine jm_astore_n (pc := 4) dR_stuckOfLeftmost_4 (by decide) ?_
  exact lp_R_stuckOfLeftmost hT hi (eK E i) 0 rfl
set_option maxRecDepth 100000 in
set_option maxHeartbeats 4000000 in
theorem lp_R_doLeftmost {i f : Nat} {S : Int64} (hC : CD l D E f (d - 1)) (hi : i < eN E) (hdp : eD E i + 1 + f = 21) (hd : 1 ≤ d) : ∀ (ps : List Nat) (k : Nat) (sc : aS) (t : Nat), ps = (eK E i).drop k → TC E sc → sc.2.1 0 i 14 = S → sc.1 3 0 2 = nI t → t ≤ 20000 → MS l D mR_doLeftmost d 0 0 (dQ E i S f t sc ps) 0 0 5 [some (vR (some (3, 0))), some (vR (some (0, i))), some (vR (ps.head?.map (Prod.mk 0)))] [] sc := by
  intro ps
  induction ps with
  | nil =>
    intro k sc t hk hT hB htr ht
    refine jm_aload_n (pc := 5) dR_doLeftmost_5 rfl ?_
    refine jm_ifnull (pc := 6) (tgt := 51) dR_doLeftmost_6 (by decide) (fun h6 => ?_) (fun q6 h6 => ?_)
    · refine jm_null (pc := 51) dR_doLeftmost_51 ?_
      refine jm_aret (pc := 52) dR_doLeftmost_52 rfl ⟨Nat.le_refl _, Nat.le_refl _⟩ ?_
      refine Or.inl ⟨⟨ht, htr, rfl⟩, SE.rf, NF.rf, fun _ _ => rfl, fun _ => ⟨rfl, rfl, fun _ => rfl⟩, Or.inr ⟨rfl, rfl, rfl, fun _ _ => rfl, fun q r h => by simp [lf] at h⟩⟩
    · exact absurd h6 (by simp)
  | cons p ps ih =>
    intro k sc t hk hT hB htr ht
    have hkp : (eK E i)[k]? = some p := by
      have := congrArg List.head? hk
      rw [List.head?_drop] at this
      exact this.symm
    have hps : ps = (eK E i).drop (k + 1) := by
      have := congrArg List.tail hk
      rw [List.tail_drop] at this
      exact this
    have hpk : p ∈ eK E i := List.mem_of_getElem? hkp
    have hnd : p ∉ ps := by
      have h1 := (hT.tr.2.2 i hi).2.2.1
      rw [← List.take_append_drop k (eK E i), ← hk] at h1
      exact (List.nodup_cons.mp (List.nodup_append.mp h1).2.1).1
    have hpsK : ∀ q ∈ ps, q ∈ eK E i := fun q hq => List.mem_of_mem_drop (by rw [← hps]; exact hq)
    have hnx : sc.2.2.1 0 p 10 = ps.head? := by
      rw [(hT.2.2.2 i hi).2.2.2.2.1 k p hkp, hps, List.head?_drop]
    refine jm_aload_n (pc := 5) dR_doLeftmost_5 rfl ?_
    refine jm_ifnull (pc := 6) (tgt := 51) dR_doLeftmost_6 (by decide) (fun h6 => ?_) (fun q6 h6 => ?_)
    · exact absurd h6 (by simp)
    · refine jm_aload_n (pc := 9) dR_doLeftmost_9 rfl ?_
      refine jm_geti (pc := 10) lR_68 dR_doLeftmost_10 rfl (fun _ => rfl) ?_
      refine jm_if_ne (pc := 13) (tgt := 43) dR_doLeftmost_13 (by decide) (fun h13 => ?_) (fun h13 => ?_)
      · refine jm_aload_n (pc := 43) dR_doLeftmost_43 rfl ?_
        refine jm_getr (pc := 44) lR_74 dR_doLeftmost_44 rfl rfl ?_
        refine jm_astore_n (pc := 47) dR_doLeftmost_47 (by decide) ?_
        refine jm_goto (pc := 48) (tgt := 5) dR_doLeftmost_48 (by decide) ?_
        exact MS.to (MS.mono (ih (k + 1) sc t hps hT hB htr ht) (fun v s3 h => by unfold dQ at h ⊢; rw [lf_cons1 h13]; exact h)) (by rw [← hnx]; rfl) rfl rfl
      · refine jm_aload_n (pc := 16) dR_doLeftmost_16 rfl ?_
        refine jm_aload_n (pc := 17) dR_doLeftmost_17 rfl ?_
        refine jm_aload_n (pc := 18) dR_doLeftmost_18 rfl ?_
        refine jm_getl (pc := 19) lR_36 dR_doLeftmost_19 rfl (fun _ => rfl) ?_
        rw [hB]
        refine jm_callV (pc := 22) (hC sc p S t hT (hT.tr.kid hi hpk).1 (by rw [(hT.tr.kid hi hpk).2.2.2]; omega) htr ht) fR_canDo vR_canDo cR_27 dR_doLeftmost_22 rfl rfl rfl rfl (by omega) ⟨Nat.le_refl _, Nat.le_refl _⟩ rfl (Nat.le_of_ble_eq_true rfl) (fun v s2 hq => ?_)
        obtain ⟨b, rfl, hb⟩ := cQ_v hq
        refine jm_if_eq (pc := 25) (tgt := 43) dR_doLeftmost_25 (by decide) (fun h25 => ?_) (fun h25 => ?_)
        · have hT2 := hT.mv (cQ_0 hq h25).1.1
          have hnx2 : s2.2.2.1 0 p 10 = ps.head? := ((cQ_0 hq h25).1.1.2.2.2 0 p 10 (by decide)).trans hnx
          have hB2 : s2.2.1 0 i 14 = S := ((cQ_0 hq h25).1.at hT.tr hi hpk 14).2.1.trans hB
          refine jm_aload_n (pc := 43) dR_doLeftmost_43 rfl ?_
          refine jm_getr (pc := 44) lR_74 dR_doLeftmost_44 rfl rfl ?_
          refine jm_astore_n (pc := 47) dR_doLeftmost_47 (by decide) ?_
          refine jm_goto (pc := 48) (tgt := 5) dR_doLeftmost_48 (by decide) ?_
          obtain ⟨t2, ht2, htr2, hgo⟩ := dQ_miss hT.tr hi hpk hpsK hnd (Classical.not_not.mp (fun z => z h13)) hq h25
          exact MS.to (MS.mono (ih (k + 1) s2 t2 hps hT2 hB2 htr2 ht2) hgo) (by rw [← hnx2]; rfl) rfl rfl
        · refine jm_aload_n (pc := 28) dR_doLeftmost_28 rfl ?_
          refine jm_iconst (pc := 29) (v := 1) dR_doLeftmost_29 (by decide) ?_
          refine jm_putz (pc := 30) pR_doLeftmost_68 dR_doLeftmost_30 rfl rfl (by first | exact Or.inl rfl | exact Or.inr rfl | assumption) ?_
          refine jm_aload_n (pc := 33) dR_doLeftmost_33 rfl ?_
          refine jm_aload_n (pc := 34) dR_doLeftmost_34 rfl ?_
          refine jm_getl (pc := 35) lR_36 dR_doLeftmost_35 rfl (fun _ => rfl) ?_
          refine jm_putl (pc := 38) pR_doLeftmost_36 dR_doLeftmost_38 rfl rfl ?_
          refine jm_aload_n (pc := 41) dR_doLeftmost_41 rfl ?_
          refine jm_aret (pc := 42) dR_doLeftmost_42 rfl ⟨Nat.le_refl _, Nat.le_refl _⟩ ?_
          exact dQ_hit hT.tr hi hpk (Classical.not_not.mp (fun z => z h13)) hq h25
set_option maxRecDepth 100000 in
set_option maxHeartbeats 4000000 in
theorem c_R_doLeftmost {i f t : Nat} {S : Int64} (hC : CD l D E f (d - 1)) (hT : TC E st) (hi : i < eN E) (hdp : eD E i + 1 + f = 21) (hB : st.2.1 0 i 14 = S) (htr : st.1 3 0 2 = nI t) (ht : t ≤ 20000) (hd : 1 ≤ d) : MC l D mR_doLeftmost d 0 0 [vR (some (3, 0)), vR (some (0, i))] st (dQ E i S f t st (eK E i)) := by
  refine jm_start (ls0 := [some (vR (some (3, 0))), some (vR (some (0, i))), none]) (by decide) (Nat.le_of_ble_eq_true rfl) rfl ?_
  refine jm_aload_n (pc := 0) dR_doLeftmost_0 rfl ?_
  refine jm_getr (pc := 1) lR_64 dR_doLeftmost_1 rfl rfl ?_
  rw [(hT.2.2.2 i hi).2.2.2.1]
  refine jm_astore_n (pc := 4) dR_doLeftmost_4 (by decide) ?_
  exact lp_R_doLeftmost hC hi hdp hd (eK E i) 0 st t rfl hT hB htr ht
end CTrial
end
section
/-! a row: what its loops keep -/
def RS (E : EE) (i : Nat) (ps : List Nat) (sc s' : aS) : Prop := TF E i sc s' ∧ (∀ q ∈ ps, s'.1 0 q 17 = 0 ∧ s'.2.2.1 0 q 19 = none) ∧ (∀ q, q ∉ ps → s'.1 0 q 17 = sc.1 0 q 17 ∧ s'.2.2.1 0 q 19 = sc.2.2.1 0 q 19) ∧ (∀ m j, j ≠ 17 → s'.1 0 m j = sc.1 0 m j) ∧ (∀ j, s'.1 3 0 j = sc.1 3 0 j) ∧ s'.2.1 = sc.2.1 ∧ ∀ m j, j ≠ 19 → s'.2.2.1 0 m j = sc.2.2.1 0 m j
theorem RS.nil {E : EE} {i : Nat} {sc : aS} : RS E i [] sc sc := ⟨TF.rf, fun _ h => (by cases h), fun _ _ => ⟨rfl, rfl⟩, fun _ _ _ => rfl, fun _ => rfl, rfl, fun _ _ _ => rfl⟩
theorem RS.cons {E : EE} (hT : TR E) {i p : Nat} {ps : List Nat} {sc s' : aS} (hi : i < eN E) (hp : p ∈ eK E i) (h : RS E i ps (sR (sI sc 0 p 17 0) 0 p 19 none) s') : RS E i (p :: ps) sc s' := by
  obtain ⟨h1, h2, h3, h4, h5, h6, h7⟩ := h
  have hip := (hT.kid hi hp).2.1
  refine ⟨((TF.pI (hT.sub hi hp subP_self) (Or.inr (Or.inr ⟨rfl, by omega⟩))).tr (TF.pR (hT.sub hi hp subP_self) (Or.inr ⟨rfl, by omega⟩))).tr h1, fun q hq => ?_, fun q hq => ?_, fun m j hj => (h4 m j hj).trans (sI_ne (by omega)), fun j => (h5 j).trans (show (sI sc 0 p 17 0).1 3 0 j = _ from sI_ne (by omega)), h6, fun m j hj => (h7 m j hj).trans (sR_ne (by omega))⟩
  · by_cases hq2 : q ∈ ps
    · exact h2 q hq2
    · have e : q = p := by
        rcases List.mem_cons.mp hq with e | e
        · exact e
        · exact absurd e hq2
      subst e
      exact ⟨(h3 q hq2).1.trans sI_eq, (h3 q hq2).2.trans sR_eq⟩
  · have hn : q ∉ ps := fun z => hq (List.mem_cons_of_mem _ z)
    have hne : q ≠ p := fun z => hq (by rw [z]; exact List.mem_cons_self)
    exact ⟨(h3 q hn).1.trans (sI_ne (fun z => hne z.2.1)), (h3 q hn).2.trans (sR_ne (fun z => hne z.2.1))⟩
def WI (E : EE) (i f : Nat) (od : List (Nat × Int64)) (S' : Int64) (sc : aS) : Prop := (∀ z ∈ od, z.1 ∈ eK E i ∧ ¬ sc.1 0 z.1 17 = 0) ∧ (od.map Prod.fst).Nodup ∧ dn sc i (od.map Prod.fst) ∧ (∀ q ∈ eK E i, sc.1 0 q 17 = 0 → sc.2.2.1 0 q 19 = none) ∧ gd E sc (od.flatMap fun q => finF E f q.1 q.2) ∧ od.length + (lf sc (eK E i)).length = (eK E i).length ∧ sc.2.1 0 i 14 = S'
def wQ (E : EE) (i f t : Nat) (sc : aS) (od : List (Nat × Int64)) (rem : List Nat) (S' : Int64) (v : Option aV) (s' : aS) : Prop :=
  (norm t (rowF (tryF E f) rem.length rem S').1.2 sc s' ∧ TF E i sc s' ∧ ((∃ B, (rowF (tryF E f) rem.length rem S').1.1 = .inl B ∧ v = some (vI 1) ∧ s'.2.1 0 i 14 = B ∧ s'.2.1 0 i 13 = sc.2.1 0 i 13 ∧ dn s' i ((od ++ (rowF (tryF E f) rem.length rem S').2).map Prod.fst) ∧ gd E s' ((od ++ (rowF (tryF E f) rem.length rem S').2).flatMap fun q => finF E f q.1 q.2)) ∨ (∃ k, (rowF (tryF E f) rem.length rem S').1.1 = .inr k ∧ v = some (vI 0) ∧ s'.1 0 i 16 = nI k)))
  ∨ (over t (rowF (tryF E f) rem.length rem S').1.2 v s' ∧ TF E i sc s')
theorem erase_filter {P Q : Nat → Bool} {z : Nat} : ∀ {L : List Nat}, L.Nodup → (∀ q ∈ L, q ≠ z → Q q = P q) → Q z = false → (L.filter P).erase z = L.filter Q
  | [], _, _, _ => rfl
  | a :: L, hn, h, hz => by
    have hn' := List.nodup_cons.mp hn
    have ih := erase_filter (P := P) (Q := Q) (z := z) hn'.2 (fun q hq => h q (List.mem_cons_of_mem _ hq)) hz
    by_cases e : a = z
    · subst e
      rw [List.filter_cons (p := Q), if_neg (by rw [hz]; decide)]
      have hL : L.filter P = L.filter Q := List.filter_congr (fun q hq => (h q (List.mem_cons_of_mem _ hq) (fun w => hn'.1 (by rw [← w]; exact hq))).symm)
      by_cases hp : P a = true
      · rw [List.filter_cons_of_pos hp, List.erase_cons_head, hL]
      · rw [List.filter_cons_of_neg hp, ← ih, List.erase_of_not_mem]
        exact fun w => hn'.1 (List.mem_filter.mp w).1
    · have ha := h a List.mem_cons_self e
      by_cases hp : P a = true
      · rw [List.filter_cons_of_pos hp, List.filter_cons_of_pos (by rw [ha]; exact hp), List.erase_cons_tail (by simpa using e), ih]
      · rw [List.filter_cons_of_neg hp, List.filter_cons_of_neg (by rw [ha]; exact hp), ih]
/-- one more part is done: the links are set, the next round begins -/
theorem WI_step {E : EE} (hT : TR E) {i f t p : Nat} {S' B : Int64} {sc s2 s3 : aS} {od : List (Nat × Int64)} (hi : i < eN E) (hW : WI E i f od S' sc) (hsc : (scanF (tryF E f) S' (lf sc (eK E i))).1 = some (p, B))
    (b1 : norm t (scanF (tryF E f) S' (lf sc (eK E i))).2 sc s2) (b2 : SE sc s2) (b3 : NF (dX E i (lf sc (eK E i))) sc s2) (b4 : ∀ q ∈ eK E i, s2.2.2.1 0 q 19 = sc.2.2.1 0 q 19) (b5 : ∀ j, s2.1 0 i j = sc.1 0 i j ∧ s2.2.2.1 0 i j = sc.2.2.1 0 i j ∧ (j ≠ 14 → s2.2.1 0 i j = sc.2.1 0 i j)) (c3 : s2.1 0 p 17 = 1) (c4 : s2.2.1 0 i 14 = B) (c5 : gd E s2 (finF E f p S')) (c6 : ∀ q ∈ eK E i, q ≠ p → s2.1 0 q 17 = sc.1 0 q 17)
    (h3 : (od = [] ∧ s3 = sR s2 0 i 18 (some p)) ∨ ∃ z, (od.map Prod.fst).getLast? = some z ∧ s3 = sR s2 0 z 19 (some p)) :
    WI E i f (od ++ [(p, S')]) B s3 ∧ TF E i sc s3 ∧ lf s3 (eK E i) = (lf sc (eK E i)).erase p ∧ (lf s3 (eK E i)).length + 1 = (lf sc (eK E i)).length ∧ s3.1 = s2.1 ∧ s3.2.1 = s2.2.1 := by
  obtain ⟨w1, w2, w3, w4, w5, w6, w7⟩ := hW
  have hpl := (scanF_mem hsc).1
  have hpk := (lf_mem.mp hpl).1
  have hp0 : sc.1 0 p 17 = 0 := (lf_mem.mp hpl).2
  have hip := (hT.kid hi hpk).2.1
  have hpo : p ∉ od.map Prod.fst := fun q => by
    obtain ⟨z, hz, e⟩ := List.mem_map.mp q
    exact (w1 z hz).2 (by rw [e]; exact hp0)
  have e31 : s3.1 = s2.1 := by
    rcases h3 with ⟨-, rfl⟩ | ⟨z, -, rfl⟩ <;> rfl
  have e32 : s3.2.1 = s2.2.1 := by
    rcases h3 with ⟨-, rfl⟩ | ⟨z, -, rfl⟩ <;> rfl
  have hzod : ∀ z, (od.map Prod.fst).getLast? = some z → z ∈ eK E i ∧ z ≠ p ∧ i < z ∧ ¬ sc.1 0 z 17 = 0 := by
    intro z hz
    have hm := List.mem_of_getLast? hz
    obtain ⟨y, hy, e⟩ := List.mem_map.mp hm
    have := w1 y hy
    rw [e] at this
    exact ⟨this.1, fun q => hpo (by rw [← q]; exact hm), (hT.kid hi this.1).2.1, this.2⟩
  have tf2 : TF E i sc s2 := ⟨b2, b3.up (fun m q => by
    rcases q with q | ⟨r, hr, q⟩
    · rw [q]; exact subP_self
    · exact hT.sub hi (lf_mem.mp hr).1 q), (b5 17).1, (b5 19).2.1⟩
  have tf3 : TF E i sc s3 := by
    rcases h3 with ⟨-, rfl⟩ | ⟨z, hz, rfl⟩
    · exact tf2.tr (TF.pR subP_self (Or.inl rfl))
    · have := hzod z hz
      exact tf2.tr (TF.pR (hT.sub hi this.1 subP_self) (Or.inr ⟨rfl, by omega⟩))
  have hlf : lf s3 (eK E i) = (lf sc (eK E i)).erase p := by
    unfold lf
    refine (erase_filter (hT.2.2 i hi).2.2.1 (fun q hq hne => ?_) ?_).symm
    · rw [e31, c6 q hq hne]
    · rw [e31, c3]; rfl
  have hlen : (lf s3 (eK E i)).length + 1 = (lf sc (eK E i)).length := by
    rw [hlf, List.length_erase_of_mem hpl]
    have := List.length_pos_of_mem hpl
    omega
  have keep2 : ∀ z ∈ od, ∀ m, subP (eP E) z.1 m → ∀ j, s2.1 0 m j = sc.1 0 m j ∧ s2.2.1 0 m j = sc.2.1 0 m j ∧ s2.2.2.1 0 m j = sc.2.2.1 0 m j := by
    intro z hz m hm j
    refine b3 m (fun q => ?_) j
    have hzk := (w1 z hz).1
    rcases q with q | ⟨r, hr, q⟩
    · subst q; exact hT.nself hi hzk hm
    · exact hT.apart hi hzk (lf_mem.mp hr).1 (fun w => (w1 z hz).2 (by rw [w]; exact (lf_mem.mp hr).2)) hm q
  have r19 : ∀ q, q ≠ i → (∀ z, (od.map Prod.fst).getLast? = some z → q ≠ z) → s3.2.2.1 0 q 19 = s2.2.2.1 0 q 19 := by
    intro q hqi hqz
    rcases h3 with ⟨-, rfl⟩ | ⟨z, hz, rfl⟩
    · exact sR_ne (by omega)
    · exact sR_ne (fun w => hqz z hz w.2.1)
  have r18 : ∀ q, q ≠ i → s3.2.2.1 0 q 18 = s2.2.2.1 0 q 18 := by
    intro q hqi
    rcases h3 with ⟨-, rfl⟩ | ⟨z, hz, rfl⟩
    · exact sR_ne (fun w => hqi w.2.1)
    · exact sR_ne (by omega)
  have gk : ∀ q S'', q ∈ eK E i → gd E s2 (finF E f q S'') → gd E s3 (finF E f q S'') := by
    intro q S'' hq h
    refine h.keep (fun z hz => ?_) (fun z hz r hr => ?_)
    · have h1 := subP_gt hT.2.1 (finF_sub hT f (hT.kid hi hq).1 z hz).1
      have := (hT.kid hi hq).2.1
      exact ⟨by rw [e32], by rw [e31], r18 _ (by omega)⟩
    · obtain ⟨h1, h2⟩ := (finF_sub hT f (hT.kid hi hq).1 z hz).2 r hr
      have := (hT.kid hi hq).2.1
      refine r19 r (by omega) (fun y hy e => ?_)
      have hyk := (hzod y hy).1
      subst e
      by_cases hqr : q = r
      · omega
      · exact hT.apart hi hq hyk hqr h1 subP_self
  refine ⟨⟨fun z hz => ?_, ?_, ?_, fun q hq hq0 => ?_, ?_, ?_, ?_⟩, tf3, hlf, hlen, e31, e32⟩
  · rcases List.mem_append.mp hz with hz | hz
    · refine ⟨(w1 z hz).1, ?_⟩
      rw [e31, c6 z.1 (w1 z hz).1 (fun q => hpo (by rw [← q]; exact List.mem_map.mpr ⟨z, hz, rfl⟩))]
      exact (w1 z hz).2
    · rw [List.mem_singleton] at hz
      subst hz
      exact ⟨hpk, by rw [e31, c3]; decide⟩
  · rw [List.map_append]
    refine List.nodup_append.mpr ⟨w2, by simp, fun a ha b hb e => ?_⟩
    simp at hb
    subst hb
    subst e
    exact hpo ha
  · rw [List.map_append]
    refine ⟨?_, fun k q hk => ?_⟩
    · rcases h3 with ⟨rfl, rfl⟩ | ⟨z, hz, rfl⟩
      · exact sR_eq
      · rw [sR_ne (by omega), (b5 18).2.1, w3.1]
        cases hod : od.map Prod.fst with
        | nil => rw [hod] at hz; cases hz
        | cons a l => rfl
    · by_cases hkl : k < (od.map Prod.fst).length
      · rw [List.getElem?_append_left hkl] at hk
        have hqo : q ∈ od.map Prod.fst := List.mem_of_getElem? hk
        obtain ⟨y, hy, hye⟩ := List.mem_map.mp hqo
        have hqk : q ∈ eK E i := by rw [← hye]; exact (w1 y hy).1
        have hqi := (hT.kid hi hqk).2.1
        have old : s2.2.2.1 0 q 19 = (od.map Prod.fst)[k + 1]? := by rw [b4 q hqk]; exact w3.2 k q hk
        by_cases hlast : k + 1 = (od.map Prod.fst).length
        · have hgl : (od.map Prod.fst).getLast? = some q := by
            rw [List.getLast?_eq_getElem?, ← hlast, Nat.add_sub_cancel]
            exact hk
          rw [List.getElem?_append_right (by omega), ← hlast, Nat.sub_self]
          rcases h3 with ⟨rfl, rfl⟩ | ⟨z, hz, rfl⟩
          · simp at hgl
          · rw [hgl] at hz
            cases hz
            exact sR_eq
        · rw [List.getElem?_append_left (by omega), ← old]
          refine r19 q (by omega) (fun z hz e => ?_)
          subst e
          rw [List.getLast?_eq_getElem?] at hz
          have := (List.getElem?_inj (by omega) w2).mp (hk.trans hz.symm)
          omega
      · rw [List.getElem?_append_right (by omega)] at hk
        have hk0 : k - (od.map Prod.fst).length = 0 := by
          have h9 : k - (od.map Prod.fst).length < 1 := (List.getElem?_eq_some_iff.mp hk).1
          omega
        rw [hk0] at hk
        cases hk
        rw [List.getElem?_append_right (by omega), show k + 1 - (od.map Prod.fst).length = 1 by omega]
        rw [r19 p (by omega) (fun z hz e => (hzod z hz).2.1 e.symm), b4 p hpk, w4 p hpk hp0]
        rfl
  · rw [e31] at hq0
    have hne : q ≠ p := fun e => by rw [e, c3] at hq0; exact absurd hq0 (by decide)
    have hqi := (hT.kid hi hq).2.1
    have h0 : sc.1 0 q 17 = 0 := by rw [← c6 q hq hne]; exact hq0
    rw [r19 q (by omega) (fun z hz e => (hzod z hz).2.2.2 (by rw [← e]; exact h0)), b4 q hq]
    exact w4 q hq h0
  · rw [List.flatMap_append]
    refine gd.app (fun y hy => ?_) ?_
    · obtain ⟨z, hz, hy⟩ := List.mem_flatMap.mp hy
      have hzk := (w1 z hz).1
      have g1 : gd E sc (finF E f z.1 z.2) := fun x hx => w5 x (List.mem_flatMap.mpr ⟨z, hz, hx⟩)
      have g2 : gd E s2 (finF E f z.1 z.2) := g1.keep (fun x hx => by
        have h1 := (finF_sub hT f (hT.kid hi hzk).1 x hx).1
        exact ⟨(keep2 z hz _ h1 13).2.1, (keep2 z hz _ h1 15).1, (keep2 z hz _ h1 18).2.2⟩) (fun x hx r hr => (keep2 z hz r ((finF_sub hT f (hT.kid hi hzk).1 x hx).2 r hr).1 19).2.2)
      exact gk z.1 z.2 hzk g2 y hy
    · rw [List.flatMap_cons, List.flatMap_nil, List.append_nil]
      exact gk p S' hpk c5
  · rw [List.length_append, List.length_singleton]
    omega
  · rw [e32]; exact c4
/-- behind one more part: the rest of the row's answer is the row's answer -/
theorem wQ_step {E : EE} {i f t p : Nat} {S' B : Int64} {sc s3 s' : aS} {od : List (Nat × Int64)} {rem : List Nat} {v : Option aV} (hsc : (scanF (tryF E f) S' rem).1 = some (p, B)) (hpm : p ∈ rem) (b1 : norm t (scanF (tryF E f) S' rem).2 sc s3) (tf : TF E i sc s3) (h13 : s3.2.1 0 i 13 = sc.2.1 0 i 13)
    (h : wQ E i f (t + (scanF (tryF E f) S' rem).2) s3 (od ++ [(p, S')]) (rem.erase p) B v s') : wQ E i f t sc od rem S' v s' := by
  have hlen : rem.length = (rem.erase p).length + 1 := by
    rw [List.length_erase_of_mem hpm]
    have := List.length_pos_of_mem hpm
    omega
  have hr : rowF (tryF E f) rem.length rem S' = (((rowF (tryF E f) (rem.erase p).length (rem.erase p) B).1.1, (scanF (tryF E f) S' rem).2 + (rowF (tryF E f) (rem.erase p).length (rem.erase p) B).1.2), (p, S') :: (rowF (tryF E f) (rem.erase p).length (rem.erase p) B).2) := by
    rw [hlen]
    cases rem with
    | nil => cases hpm
    | cons q qs =>
      conv => lhs; unfold rowF
      rw [hsc]
  unfold wQ
  rw [hr]
  rcases h with ⟨a1, a2, a3⟩ | ⟨a1, a2⟩
  · refine Or.inl ⟨⟨by rw [← Nat.add_assoc]; exact a1.1, by rw [← Nat.add_assoc]; exact a1.2.1, a1.2.2.trans b1.2.2⟩, tf.tr a2, ?_⟩
    rcases a3 with ⟨B', d1, d2, d3, d4, d5, d6⟩ | ⟨k, d1, d2, d3⟩
    · rw [List.append_assoc, List.singleton_append] at d5 d6
      exact Or.inl ⟨B', d1, d2, d3, d4.trans h13, d5, d6⟩
    · exact Or.inr ⟨k, d1, d2, d3⟩
  · exact Or.inr ⟨⟨by have := a1.1; show 20000 < t + (_ + _); omega, a1.2⟩, tf.tr a2⟩
theorem wQ_end {E : EE} {i f t : Nat} {S' : Int64} {sc : aS} {od : List (Nat × Int64)} (hW : WI E i f od S' sc) (ht : t ≤ 20000) (htr : sc.1 3 0 2 = nI t) (h0 : lf sc (eK E i) = []) : wQ E i f t sc od (lf sc (eK E i)) S' (some (vI 1)) sc := by
  rw [h0]
  refine Or.inl ⟨⟨ht, htr, rfl⟩, TF.rf, Or.inl ⟨S', rfl, rfl, hW.2.2.2.2.2.2, rfl, ?_, ?_⟩⟩
  · show dn sc i ((od ++ []).map Prod.fst)
    rw [List.append_nil]; exact hW.2.2.1
  · show gd E sc ((od ++ []).flatMap _)
    rw [List.append_nil]; exact hW.2.2.2.2.1
theorem wQ_none {E : EE} (hT : TR E) {i f t : Nat} {S' : Int64} {sc s2 : aS} {od : List (Nat × Int64)} {x : Int32} (hi : i < eN E) (hne : lf sc (eK E i) ≠ []) (hq : dQ E i S' f t sc (eK E i) (some (vR none)) s2) (hx : ∀ q r, lf s2 (eK E i) = q :: r → x = s2.1 0 q 16) : wQ E i f t sc od (lf sc (eK E i)) S' (some (vI 0)) (sI s2 0 i 16 x) := by
  have pt : TF E i s2 (sI s2 0 i 16 x) := TF.pI subP_self (Or.inr (Or.inl rfl))
  rcases hq with ⟨b1, b2, b3, b4, b5, b6⟩ | ⟨b1, b2, b3, b4, b5⟩
  · rcases b6 with ⟨z, c1, c2, -⟩ | ⟨c1, c2, c3, c4, c5⟩
    · simp at c2
    · cases hL : lf sc (eK E i) with
      | nil => exact absurd hL hne
      | cons q r =>
        have hr : rowF (tryF E f) (q :: r).length (q :: r) S' = ((.inr (stk (tryF E f q S').1 q), (scanF (tryF E f) S' (q :: r)).2), []) := by
          rw [List.length_cons]
          conv => lhs; unfold rowF
          rw [← hL, c1]
        have hl2 : lf s2 (eK E i) = q :: r := by rw [lf_congr c4, hL]
        have tf : TF E i sc s2 := ⟨b2, b3.up (fun m w => by
          rcases w with w | ⟨y, hy, w⟩
          · rw [w]; exact subP_self
          · exact hT.sub hi (lf_mem.mp hy).1 w), (b5 17).1, (b5 19).2.1⟩
        unfold wQ
        rw [hr]
        rw [hL] at b1
        refine Or.inl ⟨⟨b1.1, (sI_ne (by omega)).trans b1.2.1, (sI_ne (by omega)).trans b1.2.2⟩, tf.tr pt, Or.inr ⟨_, rfl, rfl, ?_⟩⟩
        rw [sI_eq, hx q r hl2]
        exact c5 q r hL
  · refine Or.inr ⟨⟨?_, (sI_ne (by omega)).trans b2, (sI_ne (by omega)).trans b3, rfl⟩, b5.tr pt⟩
    cases hL : lf sc (eK E i) with
    | nil => exact absurd hL hne
    | cons q r =>
      rw [hL] at b1
      rw [List.length_cons]
      conv => rhs; rhs; unfold rowF
      split
      · show 20000 < t + (_ + _)
        omega
      · exact b1
theorem dQ_v {E : EE} {i f t : Nat} {S : Int64} {sc s' : aS} {ps : List Nat} {v : Option aV} (h : dQ E i S f t sc ps v s') : (∃ x, v = some (vR x)) ∧ SE sc s' ∧ TF E i sc s' ∨ (∃ x, v = some (vR x)) ∧ SE sc s' := by
  rcases h with ⟨-, b2, -, -, -, ⟨z, -, e, -⟩ | ⟨-, e, -⟩⟩ | ⟨-, -, -, e, tf⟩
  · exact Or.inr ⟨⟨_, e⟩, b2⟩
  · exact Or.inr ⟨⟨_, e⟩, b2⟩
  · exact Or.inl ⟨⟨_, e⟩, tf.1, tf⟩
theorem dQ_x {E : EE} {i f t : Nat} {S : Int64} {sc s' : aS} {ps : List Nat} {v : Option aV} (h : dQ E i S f t sc ps v s') : (∃ x, v = some (vR x)) ∧ SE sc s' := by
  rcases dQ_v h with h | h
  · exact ⟨h.1, h.2.1⟩
  · exact h
theorem dQ_some {E : EE} {i f t : Nat} {S : Int64} {sc s2 : aS} {ps : List Nat} {q : Nat × Nat} (h : dQ E i S f t sc ps (some (vR (some q))) s2) : ∃ p B, q = (0, p) ∧ (scanF (tryF E f) S (lf sc ps)).1 = some (p, B) ∧ norm t (scanF (tryF E f) S (lf sc ps)).2 sc s2 ∧ SE sc s2 ∧ NF (dX E i (lf sc ps)) sc s2 ∧ (∀ q ∈ eK E i, s2.2.2.1 0 q 19 = sc.2.2.1 0 q 19) ∧ (∀ j, s2.1 0 i j = sc.1 0 i j ∧ s2.2.2.1 0 i j = sc.2.2.1 0 i j ∧ (j ≠ 14 → s2.2.1 0 i j = sc.2.1 0 i j)) ∧ s2.1 0 p 17 = 1 ∧ s2.2.1 0 i 14 = B ∧ gd E s2 (finF E f p S) ∧ ∀ q ∈ eK E i, q ≠ p → s2.1 0 q 17 = sc.1 0 q 17 := by
  rcases h with ⟨b1, b2, b3, b4, b5, ⟨z, c1, c2, c3, c4, c5, c6⟩ | ⟨-, e, -⟩⟩ | ⟨-, -, -, e, -⟩
  · have e : q = (0, z.1) := by simpa using c2
    exact ⟨z.1, z.2, e, c1, b1, b2, b3, b4, b5, c3, c4, c5, c6⟩
  · simp at e
  · simp at e
theorem wQ_cQ {E : EE} {i f t : Nat} {S : Int64} {st s1 s' : aS} {v : Option aV} (hs : eS E i = 0) (tf : TF E i st s1) (h13 : s1.2.1 0 i 13 = S) (ho : s1.1 3 0 3 = st.1 3 0 3) (h : wQ E i f (t + 1) s1 [] (eK E i) S v s') : cQ E i S (f + 1) t st v s' := by
  have e1 : tryF E (f + 1) i S = ((rowF (tryF E f) (eK E i).length (eK E i) S).1.1, 1 + (rowF (tryF E f) (eK E i).length (eK E i) S).1.2) := by
    conv => lhs; unfold tryF
    rw [if_pos hs]
  have e2 : finF E (f + 1) i S = (i, S, (rowF (tryF E f) (eK E i).length (eK E i) S).2.map Prod.fst) :: (rowF (tryF E f) (eK E i).length (eK E i) S).2.flatMap (fun q => finF E f q.1 q.2) := by
    conv => lhs; unfold finF
    rw [if_pos hs]
  unfold cQ rQ
  rw [e1, e2]
  rcases h with ⟨a1, a2, a3⟩ | ⟨a1, a2⟩
  · refine ⟨tf.tr a2, Or.inl ⟨⟨by have := a1.1; show t + (1 + _) ≤ _; omega, by rw [a1.2.1, Nat.add_assoc], a1.2.2.trans ho⟩, ?_⟩⟩
    rcases a3 with ⟨B, d1, d2, d3, d4, d5, d6⟩ | ⟨k, d1, d2, d3⟩
    · show match (rowF (tryF E f) (eK E i).length (eK E i) S).1.1 with | .inl B => _ | .inr k => _
      rw [d1]
      rw [List.nil_append] at d5 d6
      exact ⟨d2, d3, d4.trans h13, gd.cons (d4.trans h13) (fun z => by rw [hs] at z; omega) (fun _ => d5) d6⟩
    · show match (rowF (tryF E f) (eK E i).length (eK E i) S).1.1 with | .inl B => _ | .inr k => _
      rw [d1]
      exact ⟨d2, d3⟩
  · exact ⟨tf.tr a2, Or.inr ⟨by have := a1.1; show 20000 < t + (1 + _); omega, a1.2⟩⟩
theorem nodup_len : ∀ (n : Nat) (L : List Nat), L.Nodup → (∀ p ∈ L, p < n) → L.length ≤ n
  | 0, L, _, h => by
    cases L with
    | nil => exact Nat.le_refl _
    | cons a r => exact absurd (h a List.mem_cons_self) (Nat.not_lt_zero _)
  | n + 1, L, hn, h => by
    have h1 := nodup_len n (L.erase n) (hn.erase n) (fun p hp => by
      have h2 := h p (List.mem_of_mem_erase hp)
      have h3 : p ≠ n := fun e => by subst e; exact hn.not_mem_erase hp
      omega)
    by_cases hm : n ∈ L
    · rw [List.length_erase_of_mem hm] at h1
      omega
    · rw [List.erase_of_not_mem hm] at h1
      omega
theorem eK_len {E : EE} (hT : TR E) {i : Nat} (hi : i < eN E) : (eK E i).length ≤ 250 := Nat.le_trans (nodup_len (eN E) _ (hT.2.2 i hi).2.2.1 (fun p hp => (hT.kid hi hp).1)) hT.1
end
section
section CRow
variable {l : Launch} {D : mD} {d : Nat} {st : aS} {E : EE}
set_option maxRecDepth 100000 in
set_option maxHeartbeats 4000000 in
theorem la_R_canDoRow {i : Nat} {Q : Option aV → aS → Prop} (hi : i < eN E) : ∀ (ps : List Nat) (k : Nat) (sc : aS), ps = (eK E i).drop k → TC E sc → (∀ s', RS E i ps sc s' → MS l D mR_canDoRow d 0 0 Q 0 0 27 [some (vR (some (3, 0))), some (vR (some (0, i))), some (vR none), none, none] [] s') → MS l D mR_canDoRow d 0 0 Q 0 0 5 [some (vR (some (3, 0))), some (vR (some (0, i))), some (vR (ps.head?.map (Prod.mk 0))), none, none] [] sc := by
  intro ps
  induction ps with
  | nil =>
    intro k sc hk hT hgo
    refine jm_aload_n (pc := 5) dR_canDoRow_5 rfl ?_
    refine jm_ifnull (pc := 6) (tgt := 27) dR_canDoRow_6 (by decide) (fun h6 => ?_) (fun q6 h6 => ?_)
    · exact hgo sc RS.nil
    · exact absurd h6 (by simp)
  | cons p ps ih =>
    intro k sc hk hT hgo
    have hkp : (eK E i)[k]? = some p := by
      have := congrArg List.head? hk
      rw [List.head?_drop] at this
      exact this.symm
    have hps : ps = (eK E i).drop (k + 1) := by
      have := congrArg List.tail hk
      rw [List.tail_drop] at this
      exact this
    have hpk : p ∈ eK E i := List.mem_of_getElem? hkp
    have hnd : p ∉ ps := by
      have h1 := (hT.tr.2.2 i hi).2.2.1
      rw [← List.take_append_drop k (eK E i), ← hk] at h1
      exact (List.nodup_cons.mp (List.nodup_append.mp h1).2.1).1
    have hpsK : ∀ q ∈ ps, q ∈ eK E i := fun q hq => List.mem_of_mem_drop (by rw [← hps]; exact hq)
    have hnx : sc.2.2.1 0 p 10 = ps.head? := by
      rw [(hT.2.2.2 i hi).2.2.2.2.1 k p hkp, hps, List.head?_drop]
    refine jm_aload_n (pc := 5) dR_canDoRow_5 rfl ?_
    refine jm_ifnull (pc := 6) (tgt := 27) dR_canDoRow_6 (by decide) (fun h6 => ?_) (fun q6 h6 => ?_)
    · exact absurd h6 (by simp)
    · refine jm_aload_n (pc := 9) dR_canDoRow_9 rfl ?_
      refine jm_iconst (pc := 10) (v := 0) dR_canDoRow_10 (by decide) ?_
      refine jm_putz (pc := 11) pR_canDoRow_68 dR_canDoRow_11 rfl rfl (by first | exact Or.inl rfl | exact Or.inr rfl | assumption) ?_
      refine jm_aload_n (pc := 14) dR_canDoRow_14 rfl ?_
      refine jm_null (pc := 15) dR_canDoRow_15 ?_
      first | refine jm_putr (pc := 16) none rfl pR_canDoRow_71 dR_canDoRow_16 rfl rfl (fun w => by cases w <;> exact ⟨rfl, rfl⟩) ?_ | refine jm_putr (pc := 16) (some _) rfl pR_canDoRow_71 dR_canDoRow_16 rfl rfl (fun w => by cases w <;> exact ⟨rfl, rfl⟩) ?_ | refine jm_putr (pc := 16) _ rfl pR_canDoRow_71 dR_canDoRow_16 rfl rfl (fun w => by cases w <;> exact ⟨rfl, rfl⟩) ?_
      refine jm_aload_n (pc := 19) dR_canDoRow_19 rfl ?_
      refine jm_getr (pc := 20) lR_74 dR_canDoRow_20 rfl rfl ?_
      refine jm_astore_n (pc := 23) dR_canDoRow_23 (by decide) ?_
      refine jm_goto (pc := 24) (tgt := 5) dR_canDoRow_24 (by decide) ?_
      exact MS.to (ih (k + 1) _ hps (hT.mv (((TF.pI (E := E) (i := i) (a := p) (j := 17) (v := 0) (hT.tr.sub hi hpk subP_self) (Or.inr (Or.inr ⟨rfl, by have := (hT.tr.kid hi hpk).2.1; omega⟩))).tr (TF.pR (hT.tr.sub hi hpk subP_self) (Or.inr ⟨rfl, by have := (hT.tr.kid hi hpk).2.1; omega⟩))).1)) (fun s' h => hgo s' (RS.cons hT.tr hi hpk h))) (by rw [← hnx, sR_ne (st := sI sc 0 p 17 0) (k := 0) (i := p) (j := 19) (v := none) (a := 0) (b := p) (c := 10) (by omega)]; rfl) rfl rfl
set_option maxRecDepth 100000 in
set_option maxHeartbeats 4000000 in
theorem lb_R_canDoRow {i f : Nat} (hC : CD l D E f (d - 1 - 1)) (hi : i < eN E) (hdp : eD E i + 1 + f = 21) (hd : 2 ≤ d) : ∀ (n : Nat) (od : List (Nat × Int64)) (sc : aS) (t : Nat) (S' : Int64) (x2 : Option (Nat × Nat)) (x3 : Int32) (x4 : Option aV), (lf sc (eK E i)).length = n → TC E sc → WI E i f od S' sc → sc.1 3 0 2 = nI t → t ≤ 20000 → x2 = (od.map Prod.fst).getLast?.map (Prod.mk 0) → x3 = nI od.length → MS l D mR_canDoRow d 0 0 (wQ E i f t sc od (lf sc (eK E i)) S') 0 0 36 [some (vR (some (3, 0))), some (vR (some (0, i))), some (vR x2), some (vI x3), x4] [] sc := by
  intro n
  induction n with
  | zero =>
    intro od sc t S' x2 x3 x4 hn hT hW htr ht hx2 hx3
    have hl := hW.2.2.2.2.2.1
    have h250 : (eK E i).length ≤ 250 := eK_len hT.tr hi
    have e6 := (hT.2.2.2 i hi).2.2.1
    refine jm_iload_n (pc := 36) dR_canDoRow_36 rfl ?_
    refine jm_aload_n (pc := 37) dR_canDoRow_37 rfl ?_
    refine jm_geti (pc := 38) lR_80 dR_canDoRow_38 rfl (fun _ => rfl) ?_
    refine jm_icmp_ge (pc := 41) (tgt := 94) dR_canDoRow_41 (by decide) (fun h41 => ?_) (fun h41 => ?_)
    · refine jm_iconst (pc := 94) (v := 1) dR_canDoRow_94 (by decide) ?_
      refine jm_zret (pc := 95) dR_canDoRow_95 rfl (by first | exact Or.inl rfl | exact Or.inr rfl | assumption) ⟨Nat.le_refl _, Nat.le_refl _⟩ ?_
      exact wQ_end hW ht htr (List.eq_nil_of_length_eq_zero hn)
    · exact absurd (by rw [e6, hx3]; exact nI_le (by omega) (by omega)) h41
  | succ n ih =>
    intro od sc t S' x2 x3 x4 hn hT hW htr ht hx2 hx3
    have hl := hW.2.2.2.2.2.1
    have h250 : (eK E i).length ≤ 250 := eK_len hT.tr hi
    have e6 := (hT.2.2.2 i hi).2.2.1
    refine jm_iload_n (pc := 36) dR_canDoRow_36 rfl ?_
    refine jm_aload_n (pc := 37) dR_canDoRow_37 rfl ?_
    refine jm_geti (pc := 38) lR_80 dR_canDoRow_38 rfl (fun _ => rfl) ?_
    refine jm_icmp_ge (pc := 41) (tgt := 94) dR_canDoRow_41 (by decide) (fun h41 => ?_) (fun h41 => ?_)
    · exact absurd h41 (by rw [e6, hx3]; exact nI_ge (by omega) (by omega))
    · refine jm_aload_n (pc := 44) dR_canDoRow_44 rfl ?_
      refine jm_aload_n (pc := 45) dR_canDoRow_45 rfl ?_
      refine jm_callV (pc := 46) (c_R_doLeftmost (d := d - 1) hC hT hi hdp hW.2.2.2.2.2.2 htr ht (by omega)) fR_doLeftmost vR_doLeftmost cR_83 dR_canDoRow_46 rfl rfl rfl rfl (by omega) ⟨Nat.le_refl _, Nat.le_refl _⟩ rfl (Nat.le_of_ble_eq_true rfl) (fun v s2 hq => ?_)
      obtain ⟨⟨x, rfl⟩, hse⟩ := dQ_x hq
      have hq9 := hq
      refine jm_astore (pc := 49) dR_canDoRow_49 (by decide) ?_
      refine jm_aload (pc := 51) dR_canDoRow_51 rfl ?_
      refine jm_ifnonnull (pc := 53) (tgt := 66) dR_canDoRow_53 (by decide) (fun q53 h53 => ?_) (fun h53 => ?_)
      · subst h53
        obtain ⟨p, B, rfl, z1, z2, z3, z4, z5, z6, z7, z8, z9, z10⟩ := dQ_some hq
        refine jm_aload_n (pc := 66) dR_canDoRow_66 rfl ?_
        refine jm_ifnonnull (pc := 67) (tgt := 79) dR_canDoRow_67 (by decide) (fun q67 h67 => ?_) (fun h67 => ?_)
        · obtain ⟨y, hy, rfl⟩ : ∃ y, (od.map Prod.fst).getLast? = some y ∧ (0, y) = q67 := by
            rw [h67] at hx2
            cases hg : (od.map Prod.fst).getLast? with
            | none => rw [hg] at hx2; cases hx2
            | some y => rw [hg] at hx2; exact ⟨y, rfl, (Option.some.inj hx2).symm⟩
          subst h67
          have hw := WI_step hT.tr hi hW z1 z2 z3 z4 z5 z6 z7 z8 z9 z10 (Or.inr ⟨y, hy, rfl⟩)
          refine jm_aload_n (pc := 79) dR_canDoRow_79 rfl ?_
          refine jm_aload (pc := 80) dR_canDoRow_80 rfl ?_
          first | refine jm_putr (pc := 82) none rfl pR_canDoRow_71 dR_canDoRow_82 rfl rfl (fun w => by cases w <;> exact ⟨rfl, rfl⟩) ?_ | refine jm_putr (pc := 82) (some _) rfl pR_canDoRow_71 dR_canDoRow_82 rfl rfl (fun w => by cases w <;> exact ⟨rfl, rfl⟩) ?_ | refine jm_putr (pc := 82) _ rfl pR_canDoRow_71 dR_canDoRow_82 rfl rfl (fun w => by cases w <;> exact ⟨rfl, rfl⟩) ?_
          refine jm_aload (pc := 85) dR_canDoRow_85 rfl ?_
          refine jm_astore_n (pc := 87) dR_canDoRow_87 (by decide) ?_
          refine jm_iinc (pc := 88) dR_canDoRow_88 rfl (by decide) ?_
          refine jm_goto (pc := 91) (tgt := 36) dR_canDoRow_91 (by decide) ?_
          obtain ⟨g1, g2, g3, g4, g5, g6⟩ := hw
          refine MS.mono (ih (od ++ [(p, S')]) _ (t + (scanF (tryF E f) S' (lf sc (eK E i))).2) B _ _ _ (by omega) (hT.mv g2.1) g1 (by rw [g5]; exact z2.2.1) z2.1 (by rw [List.map_append, List.getLast?_append]; rfl) (by rw [hx3, ni1, List.length_append]; rfl)) (fun v s9 h => ?_)
          rw [g3] at h
          exact wQ_step z1 (scanF_mem z1).1 ⟨z2.1, by rw [g5]; exact z2.2.1, by rw [g5]; exact z2.2.2⟩ g2 (by rw [g6]; exact (z6 13).2.2 (by decide)) h
        · have hod : od = [] := by
            cases od with
            | nil => rfl
            | cons a r =>
              rw [h67] at hx2
              have := congrArg Option.isNone hx2
              simp at this
          have hw := WI_step hT.tr hi hW z1 z2 z3 z4 z5 z6 z7 z8 z9 z10 (Or.inl ⟨hod, rfl⟩)
          refine jm_aload_n (pc := 70) dR_canDoRow_70 rfl ?_
          refine jm_aload (pc := 71) dR_canDoRow_71 rfl ?_
          first | refine jm_putr (pc := 73) none rfl pR_canDoRow_77 dR_canDoRow_73 rfl rfl (fun w => by cases w <;> exact ⟨rfl, rfl⟩) ?_ | refine jm_putr (pc := 73) (some _) rfl pR_canDoRow_77 dR_canDoRow_73 rfl rfl (fun w => by cases w <;> exact ⟨rfl, rfl⟩) ?_ | refine jm_putr (pc := 73) _ rfl pR_canDoRow_77 dR_canDoRow_73 rfl rfl (fun w => by cases w <;> exact ⟨rfl, rfl⟩) ?_
          refine jm_goto (pc := 76) (tgt := 85) dR_canDoRow_76 (by decide) ?_
          refine jm_aload (pc := 85) dR_canDoRow_85 rfl ?_
          refine jm_astore_n (pc := 87) dR_canDoRow_87 (by decide) ?_
          refine jm_iinc (pc := 88) dR_canDoRow_88 rfl (by decide) ?_
          refine jm_goto (pc := 91) (tgt := 36) dR_canDoRow_91 (by decide) ?_
          obtain ⟨g1, g2, g3, g4, g5, g6⟩ := hw
          refine MS.mono (ih (od ++ [(p, S')]) _ (t + (scanF (tryF E f) S' (lf sc (eK E i))).2) B _ _ _ (by omega) (hT.mv g2.1) g1 (by rw [g5]; exact z2.2.1) z2.1 (by rw [List.map_append, List.getLast?_append]; rfl) (by rw [hx3, ni1, List.length_append]; rfl)) (fun v s9 h => ?_)
          rw [g3] at h
          exact wQ_step z1 (scanF_mem z1).1 ⟨z2.1, by rw [g5]; exact z2.2.1, by rw [g5]; exact z2.2.2⟩ g2 (by rw [g6]; exact (z6 13).2.2 (by decide)) h
      · subst h53
        refine jm_aload_n (pc := 56) dR_canDoRow_56 rfl ?_
        refine jm_aload_n (pc := 57) dR_canDoRow_57 rfl ?_
        refine jm_callS (pc := 58) (c_R_stuckOfLeftmost (d := d - 1) (hT.mv hse) hi) fR_stuckOfLeftmost sR_stuckOfLeftmost cR_87 dR_canDoRow_58 rfl (by omega) ⟨Nat.le_refl _, Nat.le_refl _⟩ rfl (Nat.le_of_ble_eq_true rfl) (fun v s2 hq => ?_)
        obtain ⟨rfl, x9, rfl, hx9⟩ := hq
        refine jm_puti (pc := 61) pR_canDoRow_42 dR_canDoRow_61 rfl rfl ?_
        refine jm_iconst (pc := 64) (v := 0) dR_canDoRow_64 (by decide) ?_
        refine jm_zret (pc := 65) dR_canDoRow_65 rfl (by first | exact Or.inl rfl | exact Or.inr rfl | assumption) ⟨Nat.le_refl _, Nat.le_refl _⟩ ?_
        exact wQ_none hT.tr hi (fun e => by rw [e] at hn; cases hn) hq9 hx9
set_option maxRecDepth 100000 in
set_option maxHeartbeats 4000000 in
theorem c_R_canDoRow {i f t : Nat} {S : Int64} (hC : CD l D E f (d - 1 - 1)) (hT : TC E st) (hi : i < eN E) (hs : eS E i = 0) (hdp : eD E i + 1 + f = 21) (hA : st.2.1 0 i 13 = S) (hB : st.2.1 0 i 14 = S) (htr : st.1 3 0 2 = nI (t + 1)) (ht : t + 1 ≤ 20000) (hd : 2 ≤ d) : MC l D mR_canDoRow d 0 0 [vR (some (3, 0)), vR (some (0, i))] st (cQ E i S (f + 1) t st) := by
  refine jm_start (ls0 := [some (vR (some (3, 0))), some (vR (some (0, i))), none, none, none]) (by decide) (Nat.le_of_ble_eq_true rfl) rfl ?_
  refine jm_aload_n (pc := 0) dR_canDoRow_0 rfl ?_
  refine jm_getr (pc := 1) lR_64 dR_canDoRow_1 rfl rfl ?_
  rw [(hT.2.2.2 i hi).2.2.2.1]
  refine jm_astore_n (pc := 4) dR_canDoRow_4 (by decide) ?_
  refine la_R_canDoRow hi (eK E i) 0 st rfl hT (fun s1 hR => ?_)
  refine jm_aload_n (pc := 27) dR_canDoRow_27 rfl ?_
  refine jm_null (pc := 28) dR_canDoRow_28 ?_
  first | refine jm_putr (pc := 29) none rfl pR_canDoRow_77 dR_canDoRow_29 rfl rfl (fun w => by cases w <;> exact ⟨rfl, rfl⟩) ?_ | refine jm_putr (pc := 29) (some _) rfl pR_canDoRow_77 dR_canDoRow_29 rfl rfl (fun w => by cases w <;> exact ⟨rfl, rfl⟩) ?_ | refine jm_putr (pc := 29) _ rfl pR_canDoRow_77 dR_canDoRow_29 rfl rfl (fun w => by cases w <;> exact ⟨rfl, rfl⟩) ?_
  refine jm_null (pc := 32) dR_canDoRow_32 ?_
  refine jm_astore_n (pc := 33) dR_canDoRow_33 (by decide) ?_
  refine jm_iconst (pc := 34) (v := 0) dR_canDoRow_34 (by decide) ?_
  refine jm_istore_n (pc := 35) dR_canDoRow_35 (by decide) ?_
  obtain ⟨r1, r2, r3, r4, r5, r6, r7⟩ := hR
  have tf : TF E i st (sR s1 0 i 18 none) := r1.tr (TF.pR subP_self (Or.inl rfl))
  have hl : lf (sR s1 0 i 18 none) (eK E i) = eK E i := by
    unfold lf
    exact List.filter_eq_self.mpr (fun q hq => decide_eq_true (show s1.1 0 q 17 = 0 from (r2 q hq).1))
  have hW : WI E i f [] S (sR s1 0 i 18 none) := ⟨fun _ h => (by cases h), List.nodup_nil, ⟨sR_eq, fun k p hk => (by simp at hk)⟩, fun q hq _ => (sR_ne (by omega)).trans (r2 q hq).2, fun _ h => (by cases h), (by rw [hl]; simp), by show s1.2.1 0 i 14 = S; rw [r6]; exact hB⟩
  refine MS.mono (lb_R_canDoRow hC hi hdp hd _ [] _ (t + 1) S _ _ _ rfl (hT.mv tf.1) hW ((r5 2).trans htr) ht rfl rfl) (fun v s9 h => ?_)
  rw [hl] at h
  exact wQ_cQ hs tf (by show s1.2.1 0 i 13 = S; rw [r6]; exact hA) (r5 3) h
end CRow
end
section
/-! what the bodies of choice, not and test answer -/
def bQ (E : EE) (i : Nat) (S : Int64) (r : RR) (L : List (Nat × Int64 × List Nat)) (t : Nat) (sc : aS) (v : Option aV) (s' : aS) : Prop := TF E i sc s' ∧ ((norm t r.2 sc s' ∧ (match r.1 with
  | .inl B => v = some (vI 1) ∧ s'.2.1 0 i 14 = B ∧ s'.2.1 0 i 13 = S ∧ gd E s' L
  | .inr k => v = some (vI 0) ∧ s'.1 0 i 16 = nI k)) ∨ over t r.2 v s')
theorem bQ_cQ {E : EE} {i f t : Nat} {S : Int64} {r : RR} {L : List (Nat × Int64 × List Nat)} {st s' : aS} {v : Option aV} (h1 : tryF E (f + 1) i S = (r.1, 1 + r.2)) (h2 : finF E (f + 1) i S = (i, S, []) :: L) (h3 : eS E i ≠ 0) (h4 : eS E i ≤ 3) (h : bQ E i S r L (t + 1) st v s') : cQ E i S (f + 1) t st v s' := by
  unfold cQ rQ
  rw [h1, h2]
  obtain ⟨a0, a1⟩ := h
  refine ⟨a0, ?_⟩
  rcases a1 with ⟨a1, a2⟩ | a1
  · refine Or.inl ⟨⟨by have := a1.1; show t + (1 + _) ≤ _; omega, by rw [a1.2.1, Nat.add_assoc], a1.2.2⟩, ?_⟩
    show match r.1 with | .inl B => _ | .inr k => _
    cases hr : r.1 with
    | inl B =>
      rw [hr] at a2
      exact ⟨a2.1, a2.2.1, a2.2.2.1, gd.cons a2.2.2.1 (fun z => absurd z (by show ¬ 3 < eS E i; omega)) (fun z => absurd z h3) a2.2.2.2⟩
    | inr k =>
      rw [hr] at a2
      exact a2
  · exact Or.inr ⟨by have := a1.1; show 20000 < t + (1 + _); omega, a1.2⟩
theorem bQ_step {E : EE} {i c t : Nat} {S : Int64} {r : RR} {L : List (Nat × Int64 × List Nat)} {sc s2 s' : aS} {v : Option aV} (tf : TF E i sc s2) (hn : norm t c sc s2) (h : bQ E i S r L (t + c) s2 v s') : bQ E i S (r.1, c + r.2) L t sc v s' := by
  obtain ⟨a0, a1⟩ := h
  refine ⟨tf.tr a0, ?_⟩
  rcases a1 with ⟨a1, a2⟩ | a1
  · exact Or.inl ⟨⟨by rw [← Nat.add_assoc]; exact a1.1, by rw [← Nat.add_assoc]; exact a1.2.1, a1.2.2.trans hn.2.2⟩, a2⟩
  · exact Or.inr ⟨by have := a1.1; show 20000 < t + (c + _); omega, a1.2⟩
theorem bQ_fail {E : EE} {i p f t : Nat} {S S2 : Int64} {r : RR} {L : List (Nat × Int64 × List Nat)} {sc s' : aS} (h : pQ E i p S2 f t sc (some (vI 0)) s') (hr : ∀ k, (tryF E f p S2).1 = .inr k → r = (.inr k, (tryF E f p S2).2)) (hc : (tryF E f p S2).2 ≤ r.2) : bQ E i S r L t sc (some (vI 0)) s' := by
  rcases h with ⟨B, e1, e2, -⟩ | ⟨-, tf, ⟨k, a1, a2, a3⟩ | ⟨a1, a2, a3⟩⟩
  · simp at e2
  · rw [hr k a1]
    exact ⟨tf, Or.inl ⟨a2, rfl, a3⟩⟩
  · exact ⟨tf, Or.inr ⟨by omega, a2, a3, rfl⟩⟩
theorem pQ_v {E : EE} {i p f t : Nat} {S : Int64} {st s' : aS} {v : Option aV} (h : pQ E i p S f t st v s') : ∃ b : Int32, v = some (vI b) ∧ (b = 0 ∨ b = 1) := by
  rcases h with ⟨B, -, e, -⟩ | ⟨e, -⟩
  · exact ⟨1, e, Or.inr rfl⟩
  · exact ⟨0, e, Or.inl rfl⟩
theorem pQ_1 {E : EE} {i p f t : Nat} {S : Int64} {st s' : aS} {b : Int32} (h : pQ E i p S f t st (some (vI b)) s') (hb : ¬ b = 0) : ∃ B, (tryF E f p S).1 = .inl B ∧ norm t (tryF E f p S).2 st s' ∧ TF E p st s' ∧ s'.2.1 0 p 14 = B ∧ s'.2.1 0 p 13 = S ∧ gd E s' (finF E f p S) := by
  rcases h with ⟨B, e1, -, e3⟩ | ⟨e, -⟩
  · exact ⟨B, e1, e3⟩
  · exact absurd (by simpa using e) hb
theorem pQ_0 {E : EE} {i p f t : Nat} {S : Int64} {st s' : aS} {b : Int32} (h : pQ E i p S f t st (some (vI b)) s') (hb : b = 0) : pQ E i p S f t st (some (vI 0)) s' := by
  rw [← hb]
  exact h
/-- the last step of choice and test -/
theorem bQ_join {E : EE} {i t : Nat} {S O e s : Int64} {L : List (Nat × Int64 × List Nat)} {sc s' : aS} {v : Option aV} (hT : TR E) (hi : i < eN E) (hL : ∀ q ∈ L, (q.1 ≠ i)) (hg : gd E sc L) (htr : sc.1 3 0 2 = nI t) (ht : t ≤ 20000) (hA : sc.2.1 0 i 13 = S) (h16 : sc.1 0 i 16 = nI i) (h : jQ sc i (joinF i S O e s) v s') : bQ E i S (joinF i S O e s, 0) L t sc v s' := by
  by_cases hj : (O &&& nt S) &&& s &&& nt e = 0
  · rw [show joinF i S O e s = .inl (S ||| ((O &&& nt S) &&& s)) from if_pos hj] at h ⊢
    obtain ⟨rfl, rfl⟩ := h
    exact ⟨TF.pL subP_self (Or.inr rfl), Or.inl ⟨⟨ht, htr, rfl⟩, rfl, sL_eq, (sL_ne (by omega)).trans hA, hg.keep (fun q hq => ⟨sL_ne (fun z => hL q hq z.2.1), rfl, rfl⟩) (fun _ _ _ _ => rfl)⟩⟩
  · rw [show joinF i S O e s = .inr i from if_neg hj] at h ⊢
    obtain ⟨rfl, rfl⟩ := h
    exact ⟨TF.rf, Or.inl ⟨⟨ht, htr, rfl⟩, rfl, h16⟩⟩
theorem finF_ne {E : EE} (hT : TR E) {i p f : Nat} {S : Int64} (hi : i < eN E) (hp : p ∈ eK E i) : ∀ q ∈ finF E f p S, q.1 ≠ i := fun q hq e => by
  have h1 := subP_gt hT.2.1 (finF_sub hT f (hT.kid hi hp).1 q hq).1
  have := (hT.kid hi hp).2.1
  omega
end
section
section CCho
variable {l : Launch} {D : mD} {d : Nat} {st : aS} {E : EE}
set_option maxRecDepth 100000 in
set_option maxHeartbeats 4000000 in
theorem lp_R_canDoChoice {i f : Nat} {S : Int64} (hC : CD l D E f (d - 1 - 1)) (hi : i < eN E) (hdp : eD E i + 1 + f = 21) (hd : 2 ≤ d) : ∀ (ps : List Nat) (k : Nat) (sc : aS) (t : Nat) (e s : Int64), ps = (eK E i).drop k → TC E sc → sc.2.1 0 i 13 = S → sc.1 0 i 16 = nI i → sc.1 3 0 2 = nI t → t ≤ 20000 → gd E sc (((eK E i).take k).flatMap fun p => finF E f p S) → MS l D mR_canDoChoice d 0 0 (bQ E i S ((match (chF (tryF E f) S ps e s).1 with | .inr t => .inr t | .inl z => joinF i S (eO E i) z.1 z.2), (chF (tryF E f) S ps e s).2) ((eK E i).flatMap fun p => finF E f p S) t sc) 0 0 13 [some (vR (some (3, 0))), some (vR (some (0, i))), some (vL e), none, some (vL s), none, some (vR (ps.head?.map (Prod.mk 0)))] [] sc := by
  intro ps
  induction ps with
  | nil =>
    intro k sc t e s hk hT hA h16 htr ht hg
    have hall : (eK E i).take k = eK E i := by
      have h1 := List.take_append_drop k (eK E i)
      rw [← hk, List.append_nil] at h1
      exact h1
    rw [hall] at hg
    refine jm_aload (pc := 13) dR_canDoChoice_13 rfl ?_
    refine jm_ifnull (pc := 15) (tgt := 62) dR_canDoChoice_15 (by decide) (fun h15 => ?_) (fun q15 h15 => ?_)
    · refine jm_aload_n (pc := 62) dR_canDoChoice_62 rfl ?_
      refine jm_aload_n (pc := 63) dR_canDoChoice_63 rfl ?_
      refine jm_lload_n (pc := 64) dR_canDoChoice_64 rfl ?_
      refine jm_lload (pc := 65) dR_canDoChoice_65 rfl ?_
      refine jm_callV (pc := 67) (c_R_canJoin (d := d - 1) hA (hT.2.2.2 i hi).2.2.2.2.2.2.1 (by omega)) fR_canJoin vR_canJoin cR_97 dR_canDoChoice_67 rfl rfl rfl rfl (by omega) ⟨Nat.le_refl _, Nat.le_refl _⟩ rfl (Nat.le_of_ble_eq_true rfl) (fun v s2 hq => ?_)
      obtain ⟨b, rfl, hb⟩ := jQ_v hq
      refine jm_zret (pc := 70) dR_canDoChoice_70 rfl (hb) ⟨Nat.le_refl _, Nat.le_refl _⟩ ?_
      exact bQ_join hT.tr hi (fun q hq2 => by
        obtain ⟨p, hp, hq2⟩ := List.mem_flatMap.mp hq2
        exact finF_ne hT.tr hi hp q hq2) hg htr ht hA h16 hq
    · exact absurd h15 (by simp)
  | cons p ps ih =>
    intro k sc t e s hk hT hA h16 htr ht hg
    have hkp : (eK E i)[k]? = some p := by
      have := congrArg List.head? hk
      rw [List.head?_drop] at this
      exact this.symm
    have hps : ps = (eK E i).drop (k + 1) := by
      have := congrArg List.tail hk
      rw [List.tail_drop] at this
      exact this
    have hpk : p ∈ eK E i := List.mem_of_getElem? hkp
    have hnd : p ∉ ps := by
      have h1 := (hT.tr.2.2 i hi).2.2.1
      rw [← List.take_append_drop k (eK E i), ← hk] at h1
      exact (List.nodup_cons.mp (List.nodup_append.mp h1).2.1).1
    have hpsK : ∀ q ∈ ps, q ∈ eK E i := fun q hq => List.mem_of_mem_drop (by rw [← hps]; exact hq)
    have hnx : sc.2.2.1 0 p 10 = ps.head? := by
      rw [(hT.2.2.2 i hi).2.2.2.2.1 k p hkp, hps, List.head?_drop]
    refine jm_aload (pc := 13) dR_canDoChoice_13 rfl ?_
    refine jm_ifnull (pc := 15) (tgt := 62) dR_canDoChoice_15 (by decide) (fun h15 => ?_) (fun q15 h15 => ?_)
    · exact absurd h15 (by simp)
    · refine jm_aload_n (pc := 18) dR_canDoChoice_18 rfl ?_
      refine jm_aload_n (pc := 19) dR_canDoChoice_19 rfl ?_
      refine jm_aload (pc := 20) dR_canDoChoice_20 rfl ?_
      refine jm_aload_n (pc := 22) dR_canDoChoice_22 rfl ?_
      refine jm_getl (pc := 23) lR_31 dR_canDoChoice_23 rfl (fun _ => rfl) ?_
      rw [hA]
      refine jm_callV (pc := 26) (c_R_canDoPart (d := d - 1) hC hT hi hpk hdp htr ht (by omega)) fR_canDoPart vR_canDoPart cR_93 dR_canDoChoice_26 rfl rfl rfl rfl (by omega) ⟨Nat.le_refl _, Nat.le_refl _⟩ rfl (Nat.le_of_ble_eq_true rfl) (fun v s2 hq => ?_)
      obtain ⟨b, rfl, hb⟩ := pQ_v hq
      refine jm_if_ne (pc := 29) (tgt := 34) dR_canDoChoice_29 (by decide) (fun h29 => ?_) (fun h29 => ?_)
      · obtain ⟨B, e1, hn, tf, g1, g2, g3⟩ := pQ_1 hq h29
        refine jm_lload_n (pc := 34) dR_canDoChoice_34 rfl ?_
        refine jm_aload (pc := 35) dR_canDoChoice_35 rfl ?_
        refine jm_getl (pc := 37) lR_36 dR_canDoChoice_37 rfl (fun _ => rfl) ?_
        refine jm_land (pc := 40) dR_canDoChoice_40 ?_
        refine jm_lstore_n (pc := 41) dR_canDoChoice_41 (by decide) ?_
        refine jm_lload (pc := 42) dR_canDoChoice_42 rfl ?_
        refine jm_aload (pc := 44) dR_canDoChoice_44 rfl ?_
        refine jm_getl (pc := 46) lR_36 dR_canDoChoice_46 rfl (fun _ => rfl) ?_
        refine jm_lor (pc := 49) dR_canDoChoice_49 ?_
        refine jm_lstore (pc := 50) dR_canDoChoice_50 (by decide) ?_
        refine jm_aload (pc := 52) dR_canDoChoice_52 rfl ?_
        refine jm_getr (pc := 54) lR_74 dR_canDoChoice_54 rfl rfl ?_
        refine jm_astore (pc := 57) dR_canDoChoice_57 (by decide) ?_
        refine jm_goto (pc := 59) (tgt := 13) dR_canDoChoice_59 (by decide) ?_
        have ha := tf.at hT.tr hi hpk
        have hnx2 : s2.2.2.1 0 p 10 = ps.head? := (tf.1.2.2.2 0 p 10 (by decide)).trans hnx
        have hg2 : gd E s2 (((eK E i).take (k + 1)).flatMap fun p => finF E f p S) := by
          rw [List.take_add_one, hkp, List.flatMap_append]
          refine gd.app (fun y hy => ?_) (by simpa using g3)
          obtain ⟨z, hz, hy⟩ := List.mem_flatMap.mp hy
          have hzk := List.mem_of_mem_take hz
          have hne : p ≠ z := fun w => by
            have h1 := (hT.tr.2.2 i hi).2.2.1
            rw [← List.take_append_drop k (eK E i)] at h1
            exact (List.nodup_append.mp h1).2.2 z hz p (by rw [← hk]; exact List.mem_cons_self) w.symm
          exact gd.sib hT.tr hi hpk hzk hne tf (fun x hx => hg x (List.mem_flatMap.mpr ⟨z, hz, hx⟩)) y hy
        refine MS.mono (MS.to (ih (k + 1) s2 (t + (tryF E f p S).2) (e &&& B) (s ||| B) hps (hT.mv tf.1) ((ha 13).2.1.trans hA) ((ha 16).1.trans h16) hn.2.1 hn.1 hg2) (by rw [← hnx2, ← g1]; rfl) rfl rfl) (fun v s9 h => ?_)
        have h2 := bQ_step (tf.up hT.tr hi hpk) hn h
        have e9 : chF (tryF E f) S (p :: ps) e s = ((chF (tryF E f) S ps (e &&& B) (s ||| B)).1, (tryF E f p S).2 + (chF (tryF E f) S ps (e &&& B) (s ||| B)).2) := by
          conv => lhs; unfold chF
          rw [e1]
        rw [e9]
        exact h2
      · refine jm_iconst (pc := 32) (v := 0) dR_canDoChoice_32 (by decide) ?_
        refine jm_zret (pc := 33) dR_canDoChoice_33 rfl (by first | exact Or.inl rfl | exact Or.inr rfl | assumption) ⟨Nat.le_refl _, Nat.le_refl _⟩ ?_
        refine bQ_fail (pQ_0 hq h29) (fun k2 hk2 => ?_) ?_
        · conv => lhs; unfold chF
          rw [hk2]
        · show _ ≤ (chF (tryF E f) S (p :: ps) e s).2
          conv => rhs; unfold chF
          split
          · exact Nat.le_refl _
          · exact Nat.le_add_right _ _
set_option maxRecDepth 100000 in
set_option maxHeartbeats 4000000 in
theorem c_R_canDoChoice {i f t : Nat} {S : Int64} (hC : CD l D E f (d - 1 - 1)) (hT : TC E st) (hi : i < eN E) (hs : eS E i = 1) (hdp : eD E i + 1 + f = 21) (hA : st.2.1 0 i 13 = S) (hB : st.2.1 0 i 14 = S) (h16 : st.1 0 i 16 = nI i) (htr : st.1 3 0 2 = nI (t + 1)) (ht : t + 1 ≤ 20000) (hd : 2 ≤ d) : MC l D mR_canDoChoice d 0 0 [vR (some (3, 0)), vR (some (0, i))] st (cQ E i S (f + 1) t st) := by
  refine jm_start (ls0 := [some (vR (some (3, 0))), some (vR (some (0, i))), none, none, none, none, none]) (by decide) (Nat.le_of_ble_eq_true rfl) rfl ?_
  refine jm_ldc2 (pc := 0) dR_canDoChoice_0 klR_91 ?_
  refine jm_lstore_n (pc := 3) dR_canDoChoice_3 (by decide) ?_
  refine jm_lconst (pc := 4) (v := 0) dR_canDoChoice_4 (by decide) ?_
  refine jm_lstore (pc := 5) dR_canDoChoice_5 (by decide) ?_
  refine jm_aload_n (pc := 7) dR_canDoChoice_7 rfl ?_
  refine jm_getr (pc := 8) lR_64 dR_canDoChoice_8 rfl rfl ?_
  rw [(hT.2.2.2 i hi).2.2.2.1]
  refine jm_astore (pc := 11) dR_canDoChoice_11 (by decide) ?_
  refine MS.mono (lp_R_canDoChoice hC hi hdp hd (eK E i) 0 st (t + 1) (-1) 0 rfl hT hA h16 htr ht (fun _ h => by cases h)) (fun v s9 h => ?_)
  refine bQ_cQ ?_ ?_ (by omega) (by omega) h
  · conv => lhs; unfold tryF
    rw [if_neg (by omega), if_pos hs]
    try rfl
  · conv => lhs; unfold finF
    rw [if_neg (by omega), if_pos hs]
    try rfl
set_option maxRecDepth 100000 in
set_option maxHeartbeats 4000000 in
theorem c_R_canDoNot {i f t : Nat} {S : Int64} (hC : CD l D E f (d - 1 - 1)) (hT : TC E st) (hi : i < eN E) (hs : eS E i = 2) (hdp : eD E i + 1 + f = 21) (hA : st.2.1 0 i 13 = S) (hB : st.2.1 0 i 14 = S) (h16 : st.1 0 i 16 = nI i) (htr : st.1 3 0 2 = nI (t + 1)) (ht : t + 1 ≤ 20000) (hd : 2 ≤ d) : MC l D mR_canDoNot d 0 0 [vR (some (3, 0)), vR (some (0, i))] st (cQ E i S (f + 1) t st) := by
  refine jm_start (ls0 := [some (vR (some (3, 0))), some (vR (some (0, i))), none]) (by decide) (Nat.le_of_ble_eq_true rfl) rfl ?_
  refine jm_aload_n (pc := 0) dR_canDoNot_0 rfl ?_
  refine jm_getr (pc := 1) lR_64 dR_canDoNot_1 rfl rfl ?_
  rw [(hT.2.2.2 i hi).2.2.2.1]
  refine jm_astore_n (pc := 4) dR_canDoNot_4 (by decide) ?_
  refine jm_aload_n (pc := 5) dR_canDoNot_5 rfl ?_
  refine jm_ifnull (pc := 6) (tgt := 22) dR_canDoNot_6 (by decide) (fun h6 => ?_) (fun q6 h6 => ?_)
  · refine jm_iconst (pc := 22) (v := 0) dR_canDoNot_22 (by decide) ?_
    refine jm_zret (pc := 23) dR_canDoNot_23 rfl (by first | exact Or.inl rfl | exact Or.inr rfl | assumption) ⟨Nat.le_refl _, Nat.le_refl _⟩ ?_
    have hk : eK E i = [] := by
      cases hk : eK E i with
      | nil => rfl
      | cons p r => rw [hk] at h6; cases h6
    refine bQ_cQ (r := (.inr i, 0)) (L := []) ?_ ?_ (by omega) (by omega) ⟨TF.rf, Or.inl ⟨⟨ht, htr, rfl⟩, rfl, h16⟩⟩
    · conv => lhs; unfold tryF
      rw [if_neg (by omega), if_neg (by omega), if_pos hs, hk]
      try rfl
    · conv => lhs; unfold finF
      rw [if_neg (by omega), if_neg (by omega), if_pos hs, hk]
      try rfl
  · obtain ⟨p, r, hk⟩ : ∃ p r, eK E i = p :: r := by
      cases hk : eK E i with
      | nil => rw [hk] at h6; cases h6
      | cons p r => exact ⟨p, r, rfl⟩
    have hpk : p ∈ eK E i := by rw [hk]; exact List.mem_cons_self
    rw [show (eK E i).head? = some p by rw [hk]; rfl]
    refine jm_aload_n (pc := 9) dR_canDoNot_9 rfl ?_
    refine jm_aload_n (pc := 10) dR_canDoNot_10 rfl ?_
    refine jm_aload_n (pc := 11) dR_canDoNot_11 rfl ?_
    refine jm_aload_n (pc := 12) dR_canDoNot_12 rfl ?_
    refine jm_getl (pc := 13) lR_31 dR_canDoNot_13 rfl (fun _ => rfl) ?_
    rw [hA]
    refine jm_callV (pc := 16) (c_R_canDoPart (d := d - 1) hC hT hi hpk hdp htr ht (by omega)) fR_canDoPart vR_canDoPart cR_93 dR_canDoNot_16 rfl rfl rfl rfl (by omega) ⟨Nat.le_refl _, Nat.le_refl _⟩ rfl (Nat.le_of_ble_eq_true rfl) (fun v s2 hq => ?_)
    obtain ⟨b, rfl, hb⟩ := pQ_v hq
    refine jm_if_ne (pc := 19) (tgt := 24) dR_canDoNot_19 (by decide) (fun h19 => ?_) (fun h19 => ?_)
    · obtain ⟨B, e1, hn, tf, g1, g2, g3⟩ := pQ_1 hq h19
      have ha := tf.at hT.tr hi hpk
      have hO2 := ((hT.mv tf.1).2.2.2 i hi).2.2.2.2.2.2.1
      refine jm_aload_n (pc := 24) dR_canDoNot_24 rfl ?_
      refine jm_callS (pc := 25) (c_R_madeBy (d := d - 1)) fR_madeBy sR_madeBy cR_101 dR_canDoNot_25 rfl (by omega) ⟨Nat.le_refl _, Nat.le_refl _⟩ rfl (Nat.le_of_ble_eq_true rfl) (fun v s2 hq => ?_)
      obtain ⟨rfl, rfl⟩ := hq
      rw [g1, g2]
      refine jm_aload_n (pc := 28) dR_canDoNot_28 rfl ?_
      refine jm_aload_n (pc := 29) dR_canDoNot_29 rfl ?_
      refine jm_callV (pc := 30) (c_R_outerOf (d := d - 1)) fR_outerOf vR_outerOf cR_105 dR_canDoNot_30 rfl rfl rfl rfl (by omega) ⟨Nat.le_refl _, Nat.le_refl _⟩ rfl (Nat.le_of_ble_eq_true rfl) (fun v s2 hq => ?_)
      obtain ⟨rfl, rfl⟩ := hq
      rw [hO2]
      refine jm_land (pc := 33) dR_canDoNot_33 ?_
      refine jm_lconst (pc := 34) (v := 0) dR_canDoNot_34 (by decide) ?_
      refine jm_lcmp (pc := 35) dR_canDoNot_35 ?_
      refine jm_if_ne (pc := 36) (tgt := 43) dR_canDoNot_36 (by decide) (fun h36 => ?_) (fun h36 => ?_)
      · refine jm_iconst (pc := 43) (v := 0) dR_canDoNot_43 (by decide) ?_
        refine jm_zret (pc := 44) dR_canDoNot_44 rfl (by first | exact Or.inl rfl | exact Or.inr rfl | assumption) ⟨Nat.le_refl _, Nat.le_refl _⟩ ?_
        have hbq : ∀ v, (v = some (vI 1) ∧ (B &&& nt S) &&& eO E i = 0) ∨ (v = some (vI 0) ∧ ¬ ((B &&& nt S) &&& eO E i = 0)) → bQ E i S (notF i S (eO E i) (tryF E f p S).1, (tryF E f p S).2) (finF E f p S) (t + 1) st v s2 := by
          intro v hv
          refine ⟨tf.up hT.tr hi hpk, Or.inl ⟨hn, ?_⟩⟩
          rw [e1]
          rcases hv with ⟨rfl, hz⟩ | ⟨rfl, hz⟩
          · show match (if (B &&& nt S) &&& eO E i = 0 then (.inl S : Int64 ⊕ Nat) else .inr i) with | .inl B => _ | .inr k => _
            rw [if_pos hz]
            exact ⟨rfl, (ha 14).2.1.trans hB, (ha 13).2.1.trans hA, g3⟩
          · show match (if (B &&& nt S) &&& eO E i = 0 then (.inl S : Int64 ⊕ Nat) else .inr i) with | .inl B => _ | .inr k => _
            rw [if_neg hz]
            exact ⟨rfl, (ha 16).1.trans h16⟩
        refine bQ_cQ (r := (notF i S (eO E i) (tryF E f p S).1, (tryF E f p S).2)) (L := finF E f p S) ?_ ?_ (by omega) (by omega) (hbq _ (by first | exact Or.inl ⟨rfl, lg0.mp h36⟩ | exact Or.inr ⟨rfl, fun q => h36 (lg0.mpr q)⟩))
        · conv => lhs; unfold tryF
          rw [if_neg (by omega), if_neg (by omega), if_pos hs, hk]
          try rfl
        · conv => lhs; unfold finF
          rw [if_neg (by omega), if_neg (by omega), if_pos hs, hk]
          try rfl
      · refine jm_iconst (pc := 39) (v := 1) dR_canDoNot_39 (by decide) ?_
        refine jm_goto (pc := 40) (tgt := 44) dR_canDoNot_40 (by decide) ?_
        refine jm_zret (pc := 44) dR_canDoNot_44 rfl (by first | exact Or.inl rfl | exact Or.inr rfl | assumption) ⟨Nat.le_refl _, Nat.le_refl _⟩ ?_
        have hbq : ∀ v, (v = some (vI 1) ∧ (B &&& nt S) &&& eO E i = 0) ∨ (v = some (vI 0) ∧ ¬ ((B &&& nt S) &&& eO E i = 0)) → bQ E i S (notF i S (eO E i) (tryF E f p S).1, (tryF E f p S).2) (finF E f p S) (t + 1) st v s2 := by
          intro v hv
          refine ⟨tf.up hT.tr hi hpk, Or.inl ⟨hn, ?_⟩⟩
          rw [e1]
          rcases hv with ⟨rfl, hz⟩ | ⟨rfl, hz⟩
          · show match (if (B &&& nt S) &&& eO E i = 0 then (.inl S : Int64 ⊕ Nat) else .inr i) with | .inl B => _ | .inr k => _
            rw [if_pos hz]
            exact ⟨rfl, (ha 14).2.1.trans hB, (ha 13).2.1.trans hA, g3⟩
          · show match (if (B &&& nt S) &&& eO E i = 0 then (.inl S : Int64 ⊕ Nat) else .inr i) with | .inl B => _ | .inr k => _
            rw [if_neg hz]
            exact ⟨rfl, (ha 16).1.trans h16⟩
        refine bQ_cQ (r := (notF i S (eO E i) (tryF E f p S).1, (tryF E f p S).2)) (L := finF E f p S) ?_ ?_ (by omega) (by omega) (hbq _ (by first | exact Or.inl ⟨rfl, lg0.mp h36⟩ | exact Or.inr ⟨rfl, fun q => h36 (lg0.mpr q)⟩))
        · conv => lhs; unfold tryF
          rw [if_neg (by omega), if_neg (by omega), if_pos hs, hk]
          try rfl
        · conv => lhs; unfold finF
          rw [if_neg (by omega), if_neg (by omega), if_pos hs, hk]
          try rfl
    · refine jm_iconst (pc := 22) (v := 0) dR_canDoNot_22 (by decide) ?_
      refine jm_zret (pc := 23) dR_canDoNot_23 rfl (by first | exact Or.inl rfl | exact Or.inr rfl | assumption) ⟨Nat.le_refl _, Nat.le_refl _⟩ ?_
      refine bQ_cQ (r := (notF i S (eO E i) (tryF E f p S).1, (tryF E f p S).2)) (L := finF E f p S) ?_ ?_ (by omega) (by omega) (bQ_fail (pQ_0 hq h19) (fun k2 hk2 => by rw [hk2]; rfl) (Nat.le_refl _))
      · conv => lhs; unfold tryF
        rw [if_neg (by omega), if_neg (by omega), if_pos hs, hk]
        try rfl
      · conv => lhs; unfold finF
        rw [if_neg (by omega), if_neg (by omega), if_pos hs, hk]
        try rfl
end CCho
end
section
def tC (f : Nat → Int64 → RR) (i : Nat) (S O B : Int64) (c : Nat) : RR := match (f c S).1 with
  | .inr t => (.inr t, (f c S).2)
  | .inl C => (joinF i S O (B &&& C) (B ||| C), (f c S).2)
def tB (f : Nat → Int64 → RR) (i : Nat) (S O A : Int64) (b c : Nat) : RR := match (f b A).1 with
  | .inr t => (.inr t, (f b A).2)
  | .inl B => ((tC f i S O B c).1, (f b A).2 + (tC f i S O B c).2)
theorem testF_b {f : Nat → Int64 → RR} {i : Nat} {S O I A : Int64} {a b c : Nat} (h1 : (f a S).1 = .inl A) (h2 : (A &&& nt S) &&& (O ||| I) = 0) : testF f i S O I a b c = ((tB f i S O A b c).1, (f a S).2 + (tB f i S O A b c).2) := by
  unfold testF tB tC
  rw [h1]
  simp only [h2, if_true]
  cases (f b A).1 with
  | inr t => rfl
  | inl B =>
    cases (f c S).1 with
    | inr t => simp only [Nat.add_assoc]
    | inl C => simp only [Nat.add_assoc]
theorem testF_a {f : Nat → Int64 → RR} {i k : Nat} {S O I : Int64} {a b c : Nat} (h1 : (f a S).1 = .inr k) : testF f i S O I a b c = (.inr k, (f a S).2) := by
  unfold testF
  rw [h1]
theorem testF_m {f : Nat → Int64 → RR} {i : Nat} {S O I A : Int64} {a b c : Nat} (h1 : (f a S).1 = .inl A) (h2 : ¬ (A &&& nt S) &&& (O ||| I) = 0) : testF f i S O I a b c = (.inr i, (f a S).2) := by
  unfold testF
  rw [h1]
  simp only [h2, if_false]
theorem testF_le {f : Nat → Int64 → RR} {i : Nat} {S O I : Int64} {a b c : Nat} : (f a S).2 ≤ (testF f i S O I a b c).2 := by
  cases h1 : (f a S).1 with
  | inr k => rw [testF_a h1]; exact Nat.le_refl _
  | inl A =>
    by_cases h2 : (A &&& nt S) &&& (O ||| I) = 0
    · rw [testF_b h1 h2]; exact Nat.le_add_right _ _
    · rw [testF_m h1 h2]; exact Nat.le_refl _
theorem tB_le {f : Nat → Int64 → RR} {i : Nat} {S O A : Int64} {b c : Nat} : (f b A).2 ≤ (tB f i S O A b c).2 := by
  unfold tB
  split
  · exact Nat.le_refl _
  · exact Nat.le_add_right _ _
theorem tC_eq {f : Nat → Int64 → RR} {i : Nat} {S O B : Int64} {c : Nat} : (tC f i S O B c).2 = (f c S).2 := by
  unfold tC
  split <;> rfl
end
section
section CTest
variable {l : Launch} {D : mD} {d : Nat} {st : aS} {E : EE}
set_option maxRecDepth 100000 in
set_option maxHeartbeats 4000000 in
theorem lp_N_kthPart {i m : Nat} {L : List Nat} (hnx : ∀ k p, L[k]? = some p → st.2.2.1 0 p 10 = L[k + 1]?) (hm : m < 2 ^ 31) : ∀ (n : Nat) (j : Nat) (x3 : Int32) (x2 : Option (Nat × Nat)), x3 = nI j → j ≤ m → m - j < n → x2 = (L[j]?).map (Prod.mk 0) → MS l D mN_kthPart d 0 0 (fun v s' => st = s' ∧ v = some (vR ((L[m]?).map (Prod.mk 0)))) 0 0 7 [some (vR (some (0, i))), some (vI (nI m)), some (vR x2), some (vI x3)] [] st := by
  intro n
  induction n with
  | zero =>
    intro j x3 x2 hx3 hj hn hx2
    omega
  | succ n ih =>
    intro j x3 x2 hx3 hj hn hx2
    refine jm_iload_n (pc := 7) dN_kthPart_7 rfl ?_
    refine jm_iload_n (pc := 8) dN_kthPart_8 rfl ?_
    refine jm_icmp_ge (pc := 9) (tgt := 27) dN_kthPart_9 (by decide) (fun h9 => ?_) (fun h9 => ?_)
    · refine jm_aload_n (pc := 27) dN_kthPart_27 rfl ?_
      refine jm_aret (pc := 28) dN_kthPart_28 rfl ⟨Nat.le_refl _, Nat.le_refl _⟩ ?_
      first
        | (have e : j = m := by
             rcases Nat.lt_or_ge j m with q | q
             · exact absurd (by rw [hx3] at h9; exact h9) (nI_ge q hm)
             · omega
           rw [← e]
           exact ⟨rfl, by rw [hx2]⟩)
        | (have e : L[j]? = none := by
             cases hL : L[j]? with
             | none => rfl
             | some p => rw [hL] at hx2; rw [hx2] at h13; cases h13
           have e2 : L[m]? = none := by
             rw [List.getElem?_eq_none_iff] at e ⊢
             omega
           exact ⟨rfl, by rw [e2, h13]; rfl⟩)
    · refine jm_aload_n (pc := 12) dN_kthPart_12 rfl ?_
      refine jm_ifnull (pc := 13) (tgt := 27) dN_kthPart_13 (by decide) (fun h13 => ?_) (fun q13 h13 => ?_)
      · refine jm_aload_n (pc := 27) dN_kthPart_27 rfl ?_
        refine jm_aret (pc := 28) dN_kthPart_28 rfl ⟨Nat.le_refl _, Nat.le_refl _⟩ ?_
        first
          | (have e : j = m := by
               rcases Nat.lt_or_ge j m with q | q
               · exact absurd (by rw [hx3] at h9; exact h9) (nI_ge q hm)
               · omega
             rw [← e]
             exact ⟨rfl, by rw [hx2]⟩)
          | (have e : L[j]? = none := by
               cases hL : L[j]? with
               | none => rfl
               | some p => rw [hL] at hx2; rw [hx2] at h13; cases h13
             have e2 : L[m]? = none := by
               rw [List.getElem?_eq_none_iff] at e ⊢
               omega
             exact ⟨rfl, by rw [e2, h13]; rfl⟩)
      · have hjm : j < m := Nat.lt_of_not_le fun q => h9 (by rw [hx3]; exact nI_le q (by omega))
        obtain ⟨p, hp, rfl⟩ : ∃ p, L[j]? = some p ∧ (0, p) = q13 := by
          cases hL : L[j]? with
          | none => rw [hL] at hx2; rw [hx2] at h13; cases h13
          | some p => rw [hL] at hx2; rw [hx2] at h13; exact ⟨p, rfl, Option.some.inj h13⟩
        subst h13
        refine jm_aload_n (pc := 16) dN_kthPart_16 rfl ?_
        refine jm_getr (pc := 17) lN_44 dN_kthPart_17 rfl rfl ?_
        refine jm_astore_n (pc := 20) dN_kthPart_20 (by decide) ?_
        refine jm_iinc (pc := 21) dN_kthPart_21 rfl (by decide) ?_
        refine jm_goto (pc := 24) (tgt := 7) dN_kthPart_24 (by decide) ?_
        exact ih (j + 1) _ _ (by rw [hx3]; exact ni1 j) hjm (by omega) (by rw [hnx j p hp])
set_option maxRecDepth 100000 in
set_option maxHeartbeats 4000000 in
theorem c_N_kthPart {i m : Nat} {L : List Nat} (hf : st.2.2.1 0 i 8 = L.head?) (hnx : ∀ k p, L[k]? = some p → st.2.2.1 0 p 10 = L[k + 1]?) (hm : m < 2 ^ 31) : MC l D mN_kthPart d 0 0 [vR (some (0, i)), vI (nI m)] st (fun v s' => st = s' ∧ v = some (vR ((L[m]?).map (Prod.mk 0)))) := by
  refine jm_start (ls0 := [some (vR (some (0, i))), some (vI (nI m)), none, none]) (by decide) (Nat.le_of_ble_eq_true rfl) rfl ?_
  refine jm_aload_n (pc := 0) dN_kthPart_0 rfl ?_
  refine jm_getr (pc := 1) lN_38 dN_kthPart_1 rfl rfl ?_
  refine jm_astore_n (pc := 4) dN_kthPart_4 (by decide) ?_
  refine jm_iconst (pc := 5) (v := 0) dN_kthPart_5 (by decide) ?_
  refine jm_istore_n (pc := 6) dN_kthPart_6 (by decide) ?_
  exact lp_N_kthPart hnx hm (m + 1) 0 _ _ rfl (by omega) (by omega) (by rw [hf, List.head?_eq_getElem?])
set_option maxRecDepth 100000 in
set_option maxHeartbeats 4000000 in
theorem lp_N_kthDone {i m : Nat} {L : List Nat} (hnx : ∀ k p, L[k]? = some p → st.2.2.1 0 p 19 = L[k + 1]?) (hm : m < 2 ^ 31) : ∀ (n : Nat) (j : Nat) (x3 : Int32) (x2 : Option (Nat × Nat)), x3 = nI j → j ≤ m → m - j < n → x2 = (L[j]?).map (Prod.mk 0) → MS l D mN_kthDone d 0 0 (fun v s' => st = s' ∧ v = some (vR ((L[m]?).map (Prod.mk 0)))) 0 0 7 [some (vR (some (0, i))), some (vI (nI m)), some (vR x2), some (vI x3)] [] st := by
  intro n
  induction n with
  | zero =>
    intro j x3 x2 hx3 hj hn hx2
    omega
  | succ n ih =>
    intro j x3 x2 hx3 hj hn hx2
    refine jm_iload_n (pc := 7) dN_kthDone_7 rfl ?_
    refine jm_iload_n (pc := 8) dN_kthDone_8 rfl ?_
    refine jm_icmp_ge (pc := 9) (tgt := 27) dN_kthDone_9 (by decide) (fun h9 => ?_) (fun h9 => ?_)
    · refine jm_aload_n (pc := 27) dN_kthDone_27 rfl ?_
      refine jm_aret (pc := 28) dN_kthDone_28 rfl ⟨Nat.le_refl _, Nat.le_refl _⟩ ?_
      first
        | (have e : j = m := by
             rcases Nat.lt_or_ge j m with q | q
             · exact absurd (by rw [hx3] at h9; exact h9) (nI_ge q hm)
             · omega
           rw [← e]
           exact ⟨rfl, by rw [hx2]⟩)
        | (have e : L[j]? = none := by
             cases hL : L[j]? with
             | none => rfl
             | some p => rw [hL] at hx2; rw [hx2] at h13; cases h13
           have e2 : L[m]? = none := by
             rw [List.getElem?_eq_none_iff] at e ⊢
             omega
           exact ⟨rfl, by rw [e2, h13]; rfl⟩)
    · refine jm_aload_n (pc := 12) dN_kthDone_12 rfl ?_
      refine jm_ifnull (pc := 13) (tgt := 27) dN_kthDone_13 (by decide) (fun h13 => ?_) (fun q13 h13 => ?_)
      · refine jm_aload_n (pc := 27) dN_kthDone_27 rfl ?_
        refine jm_aret (pc := 28) dN_kthDone_28 rfl ⟨Nat.le_refl _, Nat.le_refl _⟩ ?_
        first
          | (have e : j = m := by
               rcases Nat.lt_or_ge j m with q | q
               · exact absurd (by rw [hx3] at h9; exact h9) (nI_ge q hm)
               · omega
             rw [← e]
             exact ⟨rfl, by rw [hx2]⟩)
          | (have e : L[j]? = none := by
               cases hL : L[j]? with
               | none => rfl
               | some p => rw [hL] at hx2; rw [hx2] at h13; cases h13
             have e2 : L[m]? = none := by
               rw [List.getElem?_eq_none_iff] at e ⊢
               omega
             exact ⟨rfl, by rw [e2, h13]; rfl⟩)
      · have hjm : j < m := Nat.lt_of_not_le fun q => h9 (by rw [hx3]; exact nI_le q (by omega))
        obtain ⟨p, hp, rfl⟩ : ∃ p, L[j]? = some p ∧ (0, p) = q13 := by
          cases hL : L[j]? with
          | none => rw [hL] at hx2; rw [hx2] at h13; cases h13
          | some p => rw [hL] at hx2; rw [hx2] at h13; exact ⟨p, rfl, Option.some.inj h13⟩
        subst h13
        refine jm_aload_n (pc := 16) dN_kthDone_16 rfl ?_
        refine jm_getr (pc := 17) lN_61 dN_kthDone_17 rfl rfl ?_
        refine jm_astore_n (pc := 20) dN_kthDone_20 (by decide) ?_
        refine jm_iinc (pc := 21) dN_kthDone_21 rfl (by decide) ?_
        refine jm_goto (pc := 24) (tgt := 7) dN_kthDone_24 (by decide) ?_
        exact ih (j + 1) _ _ (by rw [hx3]; exact ni1 j) hjm (by omega) (by rw [hnx j p hp])
set_option maxRecDepth 100000 in
set_option maxHeartbeats 4000000 in
theorem c_N_kthDone {i m : Nat} {L : List Nat} (hf : st.2.2.1 0 i 18 = L.head?) (hnx : ∀ k p, L[k]? = some p → st.2.2.1 0 p 19 = L[k + 1]?) (hm : m < 2 ^ 31) : MC l D mN_kthDone d 0 0 [vR (some (0, i)), vI (nI m)] st (fun v s' => st = s' ∧ v = some (vR ((L[m]?).map (Prod.mk 0)))) := by
  refine jm_start (ls0 := [some (vR (some (0, i))), some (vI (nI m)), none, none]) (by decide) (Nat.le_of_ble_eq_true rfl) rfl ?_
  refine jm_aload_n (pc := 0) dN_kthDone_0 rfl ?_
  refine jm_getr (pc := 1) lN_58 dN_kthDone_1 rfl rfl ?_
  refine jm_astore_n (pc := 4) dN_kthDone_4 (by decide) ?_
  refine jm_iconst (pc := 5) (v := 0) dN_kthDone_5 (by decide) ?_
  refine jm_istore_n (pc := 6) dN_kthDone_6 (by decide) ?_
  exact lp_N_kthDone hnx hm (m + 1) 0 _ _ rfl (by omega) (by omega) (by rw [hf, List.head?_eq_getElem?])
set_option maxRecDepth 100000 in
set_option maxHeartbeats 4000000 in
theorem c_R_canDoTest {i f t : Nat} {S : Int64} (hC : CD l D E f (d - 1 - 1)) (hT : TC E st) (hi : i < eN E) (hs : eS E i = 3) (hdp : eD E i + 1 + f = 21) (hA : st.2.1 0 i 13 = S) (hB : st.2.1 0 i 14 = S) (h16 : st.1 0 i 16 = nI i) (htr : st.1 3 0 2 = nI (t + 1)) (ht : t + 1 ≤ 20000) (hd : 2 ≤ d) : MC l D mR_canDoTest d 0 0 [vR (some (3, 0)), vR (some (0, i))] st (cQ E i S (f + 1) t st) := by
  refine jm_start (ls0 := [some (vR (some (3, 0))), some (vR (some (0, i))), none, none, none]) (by decide) (Nat.le_of_ble_eq_true rfl) rfl ?_
  refine jm_aload_n (pc := 0) dR_canDoTest_0 rfl ?_
  refine jm_iconst (pc := 1) (v := 0) dR_canDoTest_1 (by decide) ?_
  refine jm_callV (pc := 2) (c_N_kthPart (d := d - 1) (m := 0) (hT.2.2.2 i hi).2.2.2.1 (hT.2.2.2 i hi).2.2.2.2.1 (by decide)) fN_kthPart vN_kthPart cR_108 dR_canDoTest_2 rfl rfl rfl rfl (by omega) ⟨Nat.le_refl _, Nat.le_refl _⟩ rfl (Nat.le_of_ble_eq_true rfl) (fun v s2 hq => ?_)
  obtain ⟨rfl, rfl⟩ := hq
  refine jm_astore_n (pc := 5) dR_canDoTest_5 (by decide) ?_
  refine jm_aload_n (pc := 6) dR_canDoTest_6 rfl ?_
  refine jm_iconst (pc := 7) (v := 1) dR_canDoTest_7 (by decide) ?_
  refine jm_callV (pc := 8) (c_N_kthPart (d := d - 1) (m := 1) (hT.2.2.2 i hi).2.2.2.1 (hT.2.2.2 i hi).2.2.2.2.1 (by decide)) fN_kthPart vN_kthPart cR_108 dR_canDoTest_8 rfl rfl rfl rfl (by omega) ⟨Nat.le_refl _, Nat.le_refl _⟩ rfl (Nat.le_of_ble_eq_true rfl) (fun v s2 hq => ?_)
  obtain ⟨rfl, rfl⟩ := hq
  refine jm_astore_n (pc := 11) dR_canDoTest_11 (by decide) ?_
  refine jm_aload_n (pc := 12) dR_canDoTest_12 rfl ?_
  refine jm_iconst (pc := 13) (v := 2) dR_canDoTest_13 (by decide) ?_
  refine jm_callV (pc := 14) (c_N_kthPart (d := d - 1) (m := 2) (hT.2.2.2 i hi).2.2.2.1 (hT.2.2.2 i hi).2.2.2.2.1 (by decide)) fN_kthPart vN_kthPart cR_108 dR_canDoTest_14 rfl rfl rfl rfl (by omega) ⟨Nat.le_refl _, Nat.le_refl _⟩ rfl (Nat.le_of_ble_eq_true rfl) (fun v s2 hq => ?_)
  obtain ⟨rfl, rfl⟩ := hq
  refine jm_astore (pc := 17) dR_canDoTest_17 (by decide) ?_
  refine jm_aload_n (pc := 19) dR_canDoTest_19 rfl ?_
  refine jm_ifnull (pc := 20) (tgt := 32) dR_canDoTest_20 (by decide) (fun h20 => ?_) (fun q20 h20 => ?_)
  · refine jm_iconst (pc := 32) (v := 0) dR_canDoTest_32 (by decide) ?_
    refine jm_zret (pc := 33) dR_canDoTest_33 rfl (by first | exact Or.inl rfl | exact Or.inr rfl | assumption) ⟨Nat.le_refl _, Nat.le_refl _⟩ ?_
    have hns : ∀ a b c r, eK E i ≠ a :: b :: c :: r := by
      intro a b c r hk
      rw [hk] at h20
      cases h20
    rcases hK : eK E i with _ | ⟨a, _ | ⟨b, _ | ⟨c, r⟩⟩⟩
    · refine bQ_cQ (r := (.inr i, 0)) (L := []) ?_ ?_ (by omega) (by omega) ?_
      · conv => lhs; unfold tryF
        rw [if_neg (by omega), if_neg (by omega), if_neg (by omega), if_pos hs, hK]
        try rfl
      · conv => lhs; unfold finF
        rw [if_neg (by omega), if_neg (by omega), if_neg (by omega), if_pos hs, hK]
        try rfl
      exact ⟨TF.rf, Or.inl ⟨⟨ht, htr, rfl⟩, rfl, h16⟩⟩
    · refine bQ_cQ (r := (.inr i, 0)) (L := []) ?_ ?_ (by omega) (by omega) ?_
      · conv => lhs; unfold tryF
        rw [if_neg (by omega), if_neg (by omega), if_neg (by omega), if_pos hs, hK]
        try rfl
      · conv => lhs; unfold finF
        rw [if_neg (by omega), if_neg (by omega), if_neg (by omega), if_pos hs, hK]
        try rfl
      exact ⟨TF.rf, Or.inl ⟨⟨ht, htr, rfl⟩, rfl, h16⟩⟩
    · refine bQ_cQ (r := (.inr i, 0)) (L := []) ?_ ?_ (by omega) (by omega) ?_
      · conv => lhs; unfold tryF
        rw [if_neg (by omega), if_neg (by omega), if_neg (by omega), if_pos hs, hK]
        try rfl
      · conv => lhs; unfold finF
        rw [if_neg (by omega), if_neg (by omega), if_neg (by omega), if_pos hs, hK]
        try rfl
      exact ⟨TF.rf, Or.inl ⟨⟨ht, htr, rfl⟩, rfl, h16⟩⟩
    · exact absurd hK (hns a b c r)
  · refine jm_aload_n (pc := 23) dR_canDoTest_23 rfl ?_
    refine jm_ifnull (pc := 24) (tgt := 32) dR_canDoTest_24 (by decide) (fun h24 => ?_) (fun q24 h24 => ?_)
    · refine jm_iconst (pc := 32) (v := 0) dR_canDoTest_32 (by decide) ?_
      refine jm_zret (pc := 33) dR_canDoTest_33 rfl (by first | exact Or.inl rfl | exact Or.inr rfl | assumption) ⟨Nat.le_refl _, Nat.le_refl _⟩ ?_
      have hns : ∀ a b c r, eK E i ≠ a :: b :: c :: r := by
        intro a b c r hk
        rw [hk] at h24
        cases h24
      rcases hK : eK E i with _ | ⟨a, _ | ⟨b, _ | ⟨c, r⟩⟩⟩
      · refine bQ_cQ (r := (.inr i, 0)) (L := []) ?_ ?_ (by omega) (by omega) ?_
        · conv => lhs; unfold tryF
          rw [if_neg (by omega), if_neg (by omega), if_neg (by omega), if_pos hs, hK]
          try rfl
        · conv => lhs; unfold finF
          rw [if_neg (by omega), if_neg (by omega), if_neg (by omega), if_pos hs, hK]
          try rfl
        exact ⟨TF.rf, Or.inl ⟨⟨ht, htr, rfl⟩, rfl, h16⟩⟩
      · refine bQ_cQ (r := (.inr i, 0)) (L := []) ?_ ?_ (by omega) (by omega) ?_
        · conv => lhs; unfold tryF
          rw [if_neg (by omega), if_neg (by omega), if_neg (by omega), if_pos hs, hK]
          try rfl
        · conv => lhs; unfold finF
          rw [if_neg (by omega), if_neg (by omega), if_neg (by omega), if_pos hs, hK]
          try rfl
        exact ⟨TF.rf, Or.inl ⟨⟨ht, htr, rfl⟩, rfl, h16⟩⟩
      · refine bQ_cQ (r := (.inr i, 0)) (L := []) ?_ ?_ (by omega) (by omega) ?_
        · conv => lhs; unfold tryF
          rw [if_neg (by omega), if_neg (by omega), if_neg (by omega), if_pos hs, hK]
          try rfl
        · conv => lhs; unfold finF
          rw [if_neg (by omega), if_neg (by omega), if_neg (by omega), if_pos hs, hK]
          try rfl
        exact ⟨TF.rf, Or.inl ⟨⟨ht, htr, rfl⟩, rfl, h16⟩⟩
      · exact absurd hK (hns a b c r)
    · refine jm_aload (pc := 27) dR_canDoTest_27 rfl ?_
      refine jm_ifnonnull (pc := 29) (tgt := 34) dR_canDoTest_29 (by decide) (fun q29 h29 => ?_) (fun h29 => ?_)
      · obtain ⟨a, b, c, r, hk⟩ : ∃ a b c r, eK E i = a :: b :: c :: r := by
          rcases hK : eK E i with _ | ⟨a, _ | ⟨b, _ | ⟨c, r⟩⟩⟩
          · rw [hK] at h20; cases h20
          · rw [hK] at h24; cases h24
          · rw [hK] at h29; cases h29
          · exact ⟨a, b, c, r, rfl⟩
        have hka : a ∈ eK E i := by rw [hk]; simp
        have hkb : b ∈ eK E i := by rw [hk]; simp
        have hkc : c ∈ eK E i := by rw [hk]; simp
        have hnd := (hT.tr.2.2 i hi).2.2.1
        rw [hk] at hnd
        have hab' : a ≠ b := fun e => by subst e; simp at hnd
        have hac' : a ≠ c := fun e => by subst e; simp at hnd
        have hbc' : b ≠ c := fun e => by subst e; simp at hnd
        rw [show (eK E i)[0]? = some a by rw [hk]; rfl, show (eK E i)[1]? = some b by rw [hk]; rfl, show (eK E i)[2]? = some c by rw [hk]; rfl]
        refine jm_aload_n (pc := 34) dR_canDoTest_34 rfl ?_
        refine jm_aload_n (pc := 35) dR_canDoTest_35 rfl ?_
        refine jm_aload_n (pc := 36) dR_canDoTest_36 rfl ?_
        refine jm_aload_n (pc := 37) dR_canDoTest_37 rfl ?_
        refine jm_getl (pc := 38) lR_31 dR_canDoTest_38 rfl (fun _ => rfl) ?_
        rw [hA]
        refine jm_callV (pc := 41) (c_R_canDoPart (d := d - 1) hC hT hi hka hdp htr ht (by omega)) fR_canDoPart vR_canDoPart cR_93 dR_canDoTest_41 rfl rfl rfl rfl (by omega) ⟨Nat.le_refl _, Nat.le_refl _⟩ rfl (Nat.le_of_ble_eq_true rfl) (fun v s2 hq => ?_)
        obtain ⟨b1, rfl, hb1⟩ := pQ_v hq
        have hqa := hq
        refine jm_if_ne (pc := 44) (tgt := 49) dR_canDoTest_44 (by decide) (fun h44 => ?_) (fun h44 => ?_)
        · obtain ⟨A, ea, hna, tfa, ga1, ga2, ga3⟩ := pQ_1 hqa h44
          have haa := tfa.at hT.tr hi hka
          have hTa := hT.mv tfa.1
          refine jm_aload_n (pc := 49) dR_canDoTest_49 rfl ?_
          refine jm_callS (pc := 50) (c_R_madeBy (d := d - 1)) fR_madeBy sR_madeBy cR_101 dR_canDoTest_50 rfl (by omega) ⟨Nat.le_refl _, Nat.le_refl _⟩ rfl (Nat.le_of_ble_eq_true rfl) (fun v s2 hq => ?_)
          obtain ⟨rfl, rfl⟩ := hq
          rw [ga1, ga2]
          refine jm_aload_n (pc := 53) dR_canDoTest_53 rfl ?_
          refine jm_aload_n (pc := 54) dR_canDoTest_54 rfl ?_
          refine jm_callV (pc := 55) (c_R_outerOf (d := d - 1)) fR_outerOf vR_outerOf cR_105 dR_canDoTest_55 rfl rfl rfl rfl (by omega) ⟨Nat.le_refl _, Nat.le_refl _⟩ rfl (Nat.le_of_ble_eq_true rfl) (fun v s2 hq => ?_)
          obtain ⟨rfl, rfl⟩ := hq
          rw [(hTa.2.2.2 i hi).2.2.2.2.2.2.1]
          refine jm_aload (pc := 58) dR_canDoTest_58 rfl ?_
          refine jm_getl (pc := 60) lR_112 dR_canDoTest_60 rfl (fun _ => rfl) ?_
          rw [(hTa.2.2.2 c (hT.tr.kid hi hkc).1).2.2.2.2.2.1]
          refine jm_lor (pc := 63) dR_canDoTest_63 ?_
          refine jm_land (pc := 64) dR_canDoTest_64 ?_
          refine jm_lconst (pc := 65) (v := 0) dR_canDoTest_65 (by decide) ?_
          refine jm_lcmp (pc := 66) dR_canDoTest_66 ?_
          refine jm_if_eq (pc := 67) (tgt := 72) dR_canDoTest_67 (by decide) (fun h67 => ?_) (fun h67 => ?_)
          · refine jm_aload_n (pc := 72) dR_canDoTest_72 rfl ?_
            refine jm_aload_n (pc := 73) dR_canDoTest_73 rfl ?_
            refine jm_aload_n (pc := 74) dR_canDoTest_74 rfl ?_
            refine jm_aload_n (pc := 75) dR_canDoTest_75 rfl ?_
            refine jm_getl (pc := 76) lR_36 dR_canDoTest_76 rfl (fun _ => rfl) ?_
            rw [ga1]
            refine jm_callV (pc := 79) (c_R_canDoPart (d := d - 1) hC hTa hi hkb hdp hna.2.1 hna.1 (by omega)) fR_canDoPart vR_canDoPart cR_93 dR_canDoTest_79 rfl rfl rfl rfl (by omega) ⟨Nat.le_refl _, Nat.le_refl _⟩ rfl (Nat.le_of_ble_eq_true rfl) (fun v s2 hq => ?_)
            obtain ⟨b2, rfl, hb2⟩ := pQ_v hq
            have hqb := hq
            refine jm_if_eq (pc := 82) (tgt := 99) dR_canDoTest_82 (by decide) (fun h82 => ?_) (fun h82 => ?_)
            · refine jm_iconst (pc := 99) (v := 0) dR_canDoTest_99 (by decide) ?_
              refine jm_zret (pc := 100) dR_canDoTest_100 rfl (by first | exact Or.inl rfl | exact Or.inr rfl | assumption) ⟨Nat.le_refl _, Nat.le_refl _⟩ ?_
              refine bQ_cQ (r := testF (tryF E f) i S (eO E i) (eI E c) a b c) (L := (match (tryF E f a S).1 with | .inl A => finF E f a S ++ finF E f b A ++ finF E f c S | .inr _ => [])) ?_ ?_ (by omega) (by omega) ?_
              · conv => lhs; unfold tryF
                rw [if_neg (by omega), if_neg (by omega), if_neg (by omega), if_pos hs, hk]
                try rfl
              · conv => lhs; unfold finF
                rw [if_neg (by omega), if_neg (by omega), if_neg (by omega), if_pos hs, hk]
                try rfl
              rw [testF_b ea (lg0.mp h67)]
              refine bQ_step (r := tB (tryF E f) i S (eO E i) A b c) (tfa.up hT.tr hi hka) hna ?_
              first
                | exact bQ_fail (pQ_0 hqb h82) (fun k2 hk2 => by unfold tB; rw [hk2]) tB_le
                | (have eB : tB (tryF E f) i S (eO E i) A b c = ((tC (tryF E f) i S (eO E i) B c).1, (tryF E f b A).2 + (tC (tryF E f) i S (eO E i) B c).2) := by
                     conv => lhs; unfold tB
                     rw [eb]
                   rw [eB]
                   exact bQ_step (r := tC (tryF E f) i S (eO E i) B c) (tfb.up hT.tr hi hkb) hnb (bQ_fail (pQ_0 hqc h96) (fun k2 hk2 => by unfold tC; rw [hk2]) (by rw [tC_eq]; exact Nat.le_refl _)))
            · obtain ⟨B, eb, hnb, tfb, gb1, gb2, gb3⟩ := pQ_1 hqb h82
              have hab := tfb.at hT.tr hi hkb
              have hTb := hTa.mv tfb.1
              refine jm_aload_n (pc := 85) dR_canDoTest_85 rfl ?_
              refine jm_aload_n (pc := 86) dR_canDoTest_86 rfl ?_
              refine jm_aload (pc := 87) dR_canDoTest_87 rfl ?_
              refine jm_aload_n (pc := 89) dR_canDoTest_89 rfl ?_
              refine jm_getl (pc := 90) lR_31 dR_canDoTest_90 rfl (fun _ => rfl) ?_
              rw [(hab 13).2.1.trans ((haa 13).2.1.trans hA)]
              refine jm_callV (pc := 93) (c_R_canDoPart (d := d - 1) hC hTb hi hkc hdp hnb.2.1 hnb.1 (by omega)) fR_canDoPart vR_canDoPart cR_93 dR_canDoTest_93 rfl rfl rfl rfl (by omega) ⟨Nat.le_refl _, Nat.le_refl _⟩ rfl (Nat.le_of_ble_eq_true rfl) (fun v s2 hq => ?_)
              obtain ⟨b3, rfl, hb3⟩ := pQ_v hq
              have hqc := hq
              refine jm_if_ne (pc := 96) (tgt := 101) dR_canDoTest_96 (by decide) (fun h96 => ?_) (fun h96 => ?_)
              · obtain ⟨C, ec, hnc, tfc, gc1, gc2, gc3⟩ := pQ_1 hqc h96
                have hac := tfc.at hT.tr hi hkc
                have hTc := hTb.mv tfc.1
                have hB3 := (tfc.sib hT.tr hi hkc hkb (Ne.symm hbc') subP_self 14).2.1.trans gb1
                refine jm_aload_n (pc := 101) dR_canDoTest_101 rfl ?_
                refine jm_aload_n (pc := 102) dR_canDoTest_102 rfl ?_
                refine jm_aload_n (pc := 103) dR_canDoTest_103 rfl ?_
                refine jm_getl (pc := 104) lR_36 dR_canDoTest_104 rfl (fun _ => rfl) ?_
                refine jm_aload (pc := 107) dR_canDoTest_107 rfl ?_
                refine jm_getl (pc := 109) lR_36 dR_canDoTest_109 rfl (fun _ => rfl) ?_
                rw [hB3, gc1]
                refine jm_land (pc := 112) dR_canDoTest_112 ?_
                refine jm_aload_n (pc := 113) dR_canDoTest_113 rfl ?_
                refine jm_getl (pc := 114) lR_36 dR_canDoTest_114 rfl (fun _ => rfl) ?_
                refine jm_aload (pc := 117) dR_canDoTest_117 rfl ?_
                refine jm_getl (pc := 119) lR_36 dR_canDoTest_119 rfl (fun _ => rfl) ?_
                rw [hB3, gc1]
                refine jm_lor (pc := 122) dR_canDoTest_122 ?_
                refine jm_callV (pc := 123) (c_R_canJoin (d := d - 1) ((hac 13).2.1.trans ((hab 13).2.1.trans ((haa 13).2.1.trans hA))) (hTc.2.2.2 i hi).2.2.2.2.2.2.1 (by omega)) fR_canJoin vR_canJoin cR_97 dR_canDoTest_123 rfl rfl rfl rfl (by omega) ⟨Nat.le_refl _, Nat.le_refl _⟩ rfl (Nat.le_of_ble_eq_true rfl) (fun v s2 hq => ?_)
                obtain ⟨b4, rfl, hb4⟩ := jQ_v hq
                refine jm_zret (pc := 126) dR_canDoTest_126 rfl (hb4) ⟨Nat.le_refl _, Nat.le_refl _⟩ ?_
                refine bQ_cQ (r := testF (tryF E f) i S (eO E i) (eI E c) a b c) (L := (match (tryF E f a S).1 with | .inl A => finF E f a S ++ finF E f b A ++ finF E f c S | .inr _ => [])) ?_ ?_ (by omega) (by omega) ?_
                · conv => lhs; unfold tryF
                  rw [if_neg (by omega), if_neg (by omega), if_neg (by omega), if_pos hs, hk]
                  try rfl
                · conv => lhs; unfold finF
                  rw [if_neg (by omega), if_neg (by omega), if_neg (by omega), if_pos hs, hk]
                  try rfl
                rw [testF_b ea (lg0.mp h67), ea]
                have eB : tB (tryF E f) i S (eO E i) A b c = ((tC (tryF E f) i S (eO E i) B c).1, (tryF E f b A).2 + (tC (tryF E f) i S (eO E i) B c).2) := by
                  conv => lhs; unfold tB
                  rw [eb]
                have eC : tC (tryF E f) i S (eO E i) B c = (joinF i S (eO E i) (B &&& C) (B ||| C), (tryF E f c S).2 + 0) := by
                  unfold tC
                  rw [ec]
                  rfl
                refine bQ_step (r := tB (tryF E f) i S (eO E i) A b c) (tfa.up hT.tr hi hka) hna ?_
                rw [eB]
                refine bQ_step (r := tC (tryF E f) i S (eO E i) B c) (tfb.up hT.tr hi hkb) hnb ?_
                rw [eC]
                refine bQ_step (r := (joinF i S (eO E i) (B &&& C) (B ||| C), 0)) (tfc.up hT.tr hi hkc) hnc ?_
                refine bQ_join hT.tr hi (fun q hq2 => ?_) ?_ hnc.2.1 hnc.1 ((hac 13).2.1.trans ((hab 13).2.1.trans ((haa 13).2.1.trans hA))) ((hac 16).1.trans ((hab 16).1.trans ((haa 16).1.trans h16))) hq
                · rcases List.mem_append.mp hq2 with h | h
                  · rcases List.mem_append.mp h with h | h
                    · exact finF_ne hT.tr hi hka q h
                    · exact finF_ne hT.tr hi hkb q h
                  · exact finF_ne hT.tr hi hkc q h
                · refine gd.app (gd.app ?_ ?_) gc3
                  · exact gd.sib hT.tr hi hkc hka (Ne.symm hac') tfc (gd.sib hT.tr hi hkb hka (Ne.symm hab') tfb ga3)
                  · exact gd.sib hT.tr hi hkc hkb (Ne.symm hbc') tfc gb3
              · refine jm_iconst (pc := 99) (v := 0) dR_canDoTest_99 (by decide) ?_
                refine jm_zret (pc := 100) dR_canDoTest_100 rfl (by first | exact Or.inl rfl | exact Or.inr rfl | assumption) ⟨Nat.le_refl _, Nat.le_refl _⟩ ?_
                refine bQ_cQ (r := testF (tryF E f) i S (eO E i) (eI E c) a b c) (L := (match (tryF E f a S).1 with | .inl A => finF E f a S ++ finF E f b A ++ finF E f c S | .inr _ => [])) ?_ ?_ (by omega) (by omega) ?_
                · conv => lhs; unfold tryF
                  rw [if_neg (by omega), if_neg (by omega), if_neg (by omega), if_pos hs, hk]
                  try rfl
                · conv => lhs; unfold finF
                  rw [if_neg (by omega), if_neg (by omega), if_neg (by omega), if_pos hs, hk]
                  try rfl
                rw [testF_b ea (lg0.mp h67)]
                refine bQ_step (r := tB (tryF E f) i S (eO E i) A b c) (tfa.up hT.tr hi hka) hna ?_
                first
                  | exact bQ_fail (pQ_0 hqb h82) (fun k2 hk2 => by unfold tB; rw [hk2]) tB_le
                  | (have eB : tB (tryF E f) i S (eO E i) A b c = ((tC (tryF E f) i S (eO E i) B c).1, (tryF E f b A).2 + (tC (tryF E f) i S (eO E i) B c).2) := by
                       conv => lhs; unfold tB
                       rw [eb]
                     rw [eB]
                     exact bQ_step (r := tC (tryF E f) i S (eO E i) B c) (tfb.up hT.tr hi hkb) hnb (bQ_fail (pQ_0 hqc h96) (fun k2 hk2 => by unfold tC; rw [hk2]) (by rw [tC_eq]; exact Nat.le_refl _)))
          · refine jm_iconst (pc := 70) (v := 0) dR_canDoTest_70 (by decide) ?_
            refine jm_zret (pc := 71) dR_canDoTest_71 rfl (by first | exact Or.inl rfl | exact Or.inr rfl | assumption) ⟨Nat.le_refl _, Nat.le_refl _⟩ ?_
            refine bQ_cQ (r := testF (tryF E f) i S (eO E i) (eI E c) a b c) (L := (match (tryF E f a S).1 with | .inl A => finF E f a S ++ finF E f b A ++ finF E f c S | .inr _ => [])) ?_ ?_ (by omega) (by omega) ?_
            · conv => lhs; unfold tryF
              rw [if_neg (by omega), if_neg (by omega), if_neg (by omega), if_pos hs, hk]
              try rfl
            · conv => lhs; unfold finF
              rw [if_neg (by omega), if_neg (by omega), if_neg (by omega), if_pos hs, hk]
              try rfl
            rw [testF_m ea (fun q => h67 (lg0.mpr q))]
            exact ⟨tfa.up hT.tr hi hka, Or.inl ⟨hna, rfl, (haa 16).1.trans h16⟩⟩
        · refine jm_iconst (pc := 47) (v := 0) dR_canDoTest_47 (by decide) ?_
          refine jm_zret (pc := 48) dR_canDoTest_48 rfl (by first | exact Or.inl rfl | exact Or.inr rfl | assumption) ⟨Nat.le_refl _, Nat.le_refl _⟩ ?_
          refine bQ_cQ (r := testF (tryF E f) i S (eO E i) (eI E c) a b c) (L := (match (tryF E f a S).1 with | .inl A => finF E f a S ++ finF E f b A ++ finF E f c S | .inr _ => [])) ?_ ?_ (by omega) (by omega) ?_
          · conv => lhs; unfold tryF
            rw [if_neg (by omega), if_neg (by omega), if_neg (by omega), if_pos hs, hk]
            try rfl
          · conv => lhs; unfold finF
            rw [if_neg (by omega), if_neg (by omega), if_neg (by omega), if_pos hs, hk]
            try rfl
          exact bQ_fail (pQ_0 hqa h44) (fun k2 hk2 => testF_a hk2) testF_le
      · refine jm_iconst (pc := 32) (v := 0) dR_canDoTest_32 (by decide) ?_
        refine jm_zret (pc := 33) dR_canDoTest_33 rfl (by first | exact Or.inl rfl | exact Or.inr rfl | assumption) ⟨Nat.le_refl _, Nat.le_refl _⟩ ?_
        have hns : ∀ a b c r, eK E i ≠ a :: b :: c :: r := by
          intro a b c r hk
          rw [hk] at h29
          cases h29
        rcases hK : eK E i with _ | ⟨a, _ | ⟨b, _ | ⟨c, r⟩⟩⟩
        · refine bQ_cQ (r := (.inr i, 0)) (L := []) ?_ ?_ (by omega) (by omega) ?_
          · conv => lhs; unfold tryF
            rw [if_neg (by omega), if_neg (by omega), if_neg (by omega), if_pos hs, hK]
            try rfl
          · conv => lhs; unfold finF
            rw [if_neg (by omega), if_neg (by omega), if_neg (by omega), if_pos hs, hK]
            try rfl
          exact ⟨TF.rf, Or.inl ⟨⟨ht, htr, rfl⟩, rfl, h16⟩⟩
        · refine bQ_cQ (r := (.inr i, 0)) (L := []) ?_ ?_ (by omega) (by omega) ?_
          · conv => lhs; unfold tryF
            rw [if_neg (by omega), if_neg (by omega), if_neg (by omega), if_pos hs, hK]
            try rfl
          · conv => lhs; unfold finF
            rw [if_neg (by omega), if_neg (by omega), if_neg (by omega), if_pos hs, hK]
            try rfl
          exact ⟨TF.rf, Or.inl ⟨⟨ht, htr, rfl⟩, rfl, h16⟩⟩
        · refine bQ_cQ (r := (.inr i, 0)) (L := []) ?_ ?_ (by omega) (by omega) ?_
          · conv => lhs; unfold tryF
            rw [if_neg (by omega), if_neg (by omega), if_neg (by omega), if_pos hs, hK]
            try rfl
          · conv => lhs; unfold finF
            rw [if_neg (by omega), if_neg (by omega), if_neg (by omega), if_pos hs, hK]
            try rfl
          exact ⟨TF.rf, Or.inl ⟨⟨ht, htr, rfl⟩, rfl, h16⟩⟩
        · exact absurd hK (hns a b c r)
end CTest
end
section
section CCan
variable {l : Launch} {D : mD} {d : Nat} {st : aS} {E : EE}
theorem cQ_pre {i f t : Nat} {S : Int64} {s1 s' : aS} {v : Option aV} (tf : TF E i st s1) (ho : s1.1 3 0 3 = st.1 3 0 3) (h : cQ E i S f t s1 v s') : cQ E i S f t st v s' := by
  obtain ⟨a, b⟩ := h
  refine ⟨tf.tr a, ?_⟩
  rcases b with ⟨b1, b2⟩ | b
  · exact Or.inl ⟨⟨b1.1, b1.2.1, b1.2.2.trans ho⟩, b2⟩
  · exact Or.inr b
theorem aP_cQ {i f t : Nat} {S : Int64} {s1 s' : aS} {v : Option aV} (h3 : 3 < eS E i) (hA : s1.2.1 0 i 13 = S) (h16 : s1.1 0 i 16 = nI i) (htr : s1.1 3 0 2 = nI (t + 1)) (ht : t + 1 ≤ 20000) (h : aP s1 i (eA E i S) v s') : cQ E i S (f + 1) t s1 v s' := by
  have e1 : tryF E (f + 1) i S = (match eA E i S with | some z => .inl (S ||| z.2) | none => .inr i, 1) := by
    conv => lhs; unfold tryF
    rw [if_neg (by omega), if_neg (by omega), if_neg (by omega), if_neg (by omega)]
    rfl
  have e2 : finF E (f + 1) i S = [(i, S, [])] := by
    conv => lhs; unfold finF
    rw [if_neg (by omega), if_neg (by omega), if_neg (by omega), if_neg (by omega)]
  unfold cQ rQ
  rw [e1, e2]
  cases hr : eA E i S with
  | none =>
    rw [hr] at h
    obtain ⟨rfl, rfl⟩ := h
    exact ⟨TF.rf, Or.inl ⟨⟨ht, htr, rfl⟩, rfl, h16⟩⟩
  | some q =>
    rw [hr] at h
    obtain ⟨rfl, rfl⟩ := h
    have a13 : (stt s1 i q.1 q.2).2.1 0 i 13 = S := (sL_ne (by omega)).trans hA
    refine ⟨(TF.pI subP_self (Or.inl rfl)).tr (TF.pL subP_self (Or.inr rfl)), Or.inl ⟨⟨ht, show (sI s1 0 i 15 q.1).1 3 0 2 = nI (t + 1) from (sI_ne (by omega)).trans htr, show (sI s1 0 i 15 q.1).1 3 0 3 = _ from sI_ne (by omega)⟩, rfl, ?_, a13, ?_⟩⟩
    · show (sL (sI s1 0 i 15 q.1) 0 i 14 (s1.2.1 0 i 13 ||| q.2)).2.1 0 i 14 = _
      rw [sL_eq, hA]
    · refine gd.cons a13 (fun _ => ⟨q.1, q.2, hr, show (sI s1 0 i 15 q.1).1 0 i 15 = _ from sI_eq⟩) (fun z => ?_) (fun _ h => by cases h)
      have z2 : eS E i = 0 := z
      omega
theorem sL_i0 {st : aS} {i : Nat} {x : Int32} {S : Int64} : (sL (sL (sI st 3 0 2 x) 0 i 13 S) 0 i 14 S).1 0 i 0 = st.1 0 i 0 := show (sI st 3 0 2 x).1 0 i 0 = _ from sI_ne (by omega)
set_option maxRecDepth 100000 in
set_option maxHeartbeats 4000000 in
theorem c_R_canDo {i f t : Nat} {S : Int64} (hC : CD l D E f (d - 1 - 1 - 1)) (hT : TC E st) (hi : i < eN E) (hdp : eD E i + (f + 1) = 21) (htr : st.1 3 0 2 = nI t) (ht : t ≤ 20000) (hd : 5 ≤ d) : MC l D mR_canDo d 0 0 [vR (some (3, 0)), vR (some (0, i)), vL S] st (cQ E i S (f + 1) t st) := by
  refine jm_start (ls0 := [some (vR (some (3, 0))), some (vR (some (0, i))), some (vL S), none]) (by decide) (Nat.le_of_ble_eq_true rfl) rfl ?_
  refine jm_aload_n (pc := 0) dR_canDo_0 rfl ?_
  refine jm_geti (pc := 1) lR_19 dR_canDo_1 rfl (fun _ => rfl) ?_
  refine jm_sipush (pc := 4) (v := 20000) dR_canDo_4 (by decide) ?_
  refine jm_icmp_lt (pc := 7) (tgt := 17) dR_canDo_7 (by decide) (fun h7 => ?_) (fun h7 => ?_)
  · have ht1 : t + 1 ≤ 20000 := by
      rcases Nat.lt_or_ge t 20000 with q | q
      · exact q
      · rw [htr, show t = 20000 by omega] at h7
        exact absurd h7 (by decide)
    have e0 : st.1 3 0 2 + 1 = nI (t + 1) := by rw [htr]; exact nI_1 t
    refine jm_aload_n (pc := 17) dR_canDo_17 rfl ?_
    refine jm_dup (pc := 18) dR_canDo_18 rfl ?_
    refine jm_geti (pc := 19) lR_19 dR_canDo_19 rfl (fun _ => rfl) ?_
    refine jm_iconst (pc := 22) (v := 1) dR_canDo_22 (by decide) ?_
    refine jm_iadd (pc := 23) dR_canDo_23 ?_
    refine jm_puti (pc := 24) pR_canDo_19 dR_canDo_24 rfl rfl ?_
    refine jm_aload_n (pc := 27) dR_canDo_27 rfl ?_
    refine jm_lload_n (pc := 28) dR_canDo_28 rfl ?_
    refine jm_putl (pc := 29) pR_canDo_31 dR_canDo_29 rfl rfl ?_
    refine jm_aload_n (pc := 32) dR_canDo_32 rfl ?_
    refine jm_lload_n (pc := 33) dR_canDo_33 rfl ?_
    refine jm_putl (pc := 34) pR_canDo_36 dR_canDo_34 rfl rfl ?_
    refine jm_aload_n (pc := 37) dR_canDo_37 rfl ?_
    refine jm_aload_n (pc := 38) dR_canDo_38 rfl ?_
    refine jm_geti (pc := 39) lR_39 dR_canDo_39 rfl (fun _ => rfl) ?_
    refine jm_puti (pc := 42) pR_canDo_42 dR_canDo_42 rfl rfl ?_
    rw [(sL_i0 : (sL (sL (sI st 3 0 2 (st.1 3 0 2 + 1)) 0 i 13 S) 0 i 14 S).1 0 i 0 = st.1 0 i 0), (hT.2.2.2 i hi).1, e0]
    generalize hs1 : sI (sL (sL (sI st 3 0 2 (nI (t + 1))) 0 i 13 S) 0 i 14 S) 0 i 16 (nI i) = s1
    have tf : TF E i st s1 := by
      rw [← hs1]
      exact (((TF.pT (Or.inl rfl)).tr (TF.pL subP_self (Or.inl rfl))).tr (TF.pL subP_self (Or.inr rfl))).tr (TF.pI subP_self (Or.inr (Or.inl rfl)))
    have hT1 := hT.mv tf.1
    have hA : s1.2.1 0 i 13 = S := by rw [← hs1]; exact (sL_ne (by omega)).trans sL_eq
    have hB : s1.2.1 0 i 14 = S := by rw [← hs1]; exact sL_eq
    have h16 : s1.1 0 i 16 = nI i := by rw [← hs1]; exact sI_eq
    have htr1 : s1.1 3 0 2 = nI (t + 1) := by rw [← hs1]; exact (sI_ne (by omega)).trans (show (sI st 3 0 2 (nI (t + 1))).1 3 0 2 = _ from sI_eq)
    have ho : s1.1 3 0 3 = st.1 3 0 3 := by rw [← hs1]; exact (sI_ne (by omega)).trans (show (sI st 3 0 2 (nI (t + 1))).1 3 0 3 = _ from sI_ne (by omega))
    have hsr := (hT1.2.2.2 i hi).2.1
    have hC2 : CD l D E f (d - 1 - 1 - 1) := hC
    refine jm_aload_n (pc := 45) dR_canDo_45 rfl ?_
    refine jm_geti (pc := 46) lR_45 dR_canDo_46 rfl (fun _ => rfl) ?_
    rw [hsr]
    rcases (show eS E i = 0 ∨ eS E i = 1 ∨ eS E i = 2 ∨ eS E i = 3 ∨ eS E i = 4 ∨ eS E i = 5 ∨ eS E i = 6 ∨ eS E i = 7 ∨ eS E i = 8 ∨ eS E i = 9 ∨ eS E i = 10 ∨ eS E i = 11 ∨ eS E i = 12 by have := (hT.tr.2.2 i hi).1; omega) with hv | hv | hv | hv | hv | hv | hv | hv | hv | hv | hv | hv | hv
    · rw [hv]
      refine jm_tableIn (pc := 49) (tgt := 80) (off := 31) dR_canDo_49 (by decide) (by decide) rfl (by decide) ?_
      refine jm_aload_n (pc := 80) dR_canDo_80 rfl ?_
      refine jm_aload_n (pc := 81) dR_canDo_81 rfl ?_
      refine jm_callV (pc := 82) (c_R_canDoRow (d := d - 1) hC2 hT1 hi hv (by omega) hA hB htr1 ht1 (by omega)) fR_canDoRow vR_canDoRow cR_48 dR_canDo_82 rfl rfl rfl rfl (by omega) ⟨Nat.le_refl _, Nat.le_refl _⟩ rfl (Nat.le_of_ble_eq_true rfl) (fun v s2 hq => ?_)
      obtain ⟨b, rfl, hb⟩ := cQ_v hq
      refine jm_zret (pc := 85) dR_canDo_85 rfl (hb) ⟨Nat.le_refl _, Nat.le_refl _⟩ ?_
      exact cQ_pre tf ho hq
    · rw [hv]
      refine jm_tableIn (pc := 49) (tgt := 86) (off := 37) dR_canDo_49 (by decide) (by decide) rfl (by decide) ?_
      refine jm_aload_n (pc := 86) dR_canDo_86 rfl ?_
      refine jm_aload_n (pc := 87) dR_canDo_87 rfl ?_
      refine jm_callV (pc := 88) (c_R_canDoChoice (d := d - 1) hC2 hT1 hi hv (by omega) hA hB h16 htr1 ht1 (by omega)) fR_canDoChoice vR_canDoChoice cR_52 dR_canDo_88 rfl rfl rfl rfl (by omega) ⟨Nat.le_refl _, Nat.le_refl _⟩ rfl (Nat.le_of_ble_eq_true rfl) (fun v s2 hq => ?_)
      obtain ⟨b, rfl, hb⟩ := cQ_v hq
      refine jm_zret (pc := 91) dR_canDo_91 rfl (hb) ⟨Nat.le_refl _, Nat.le_refl _⟩ ?_
      exact cQ_pre tf ho hq
    · rw [hv]
      refine jm_tableIn (pc := 49) (tgt := 92) (off := 43) dR_canDo_49 (by decide) (by decide) rfl (by decide) ?_
      refine jm_aload_n (pc := 92) dR_canDo_92 rfl ?_
      refine jm_aload_n (pc := 93) dR_canDo_93 rfl ?_
      refine jm_callV (pc := 94) (c_R_canDoNot (d := d - 1) hC2 hT1 hi hv (by omega) hA hB h16 htr1 ht1 (by omega)) fR_canDoNot vR_canDoNot cR_55 dR_canDo_94 rfl rfl rfl rfl (by omega) ⟨Nat.le_refl _, Nat.le_refl _⟩ rfl (Nat.le_of_ble_eq_true rfl) (fun v s2 hq => ?_)
      obtain ⟨b, rfl, hb⟩ := cQ_v hq
      refine jm_zret (pc := 97) dR_canDo_97 rfl (hb) ⟨Nat.le_refl _, Nat.le_refl _⟩ ?_
      exact cQ_pre tf ho hq
    · rw [hv]
      refine jm_tableIn (pc := 49) (tgt := 98) (off := 49) dR_canDo_49 (by decide) (by decide) rfl (by decide) ?_
      refine jm_aload_n (pc := 98) dR_canDo_98 rfl ?_
      refine jm_aload_n (pc := 99) dR_canDo_99 rfl ?_
      refine jm_callV (pc := 100) (c_R_canDoTest (d := d - 1) hC2 hT1 hi hv (by omega) hA hB h16 htr1 ht1 (by omega)) fR_canDoTest vR_canDoTest cR_58 dR_canDo_100 rfl rfl rfl rfl (by omega) ⟨Nat.le_refl _, Nat.le_refl _⟩ rfl (Nat.le_of_ble_eq_true rfl) (fun v s2 hq => ?_)
      obtain ⟨b, rfl, hb⟩ := cQ_v hq
      refine jm_zret (pc := 103) dR_canDo_103 rfl (hb) ⟨Nat.le_refl _, Nat.le_refl _⟩ ?_
      exact cQ_pre tf ho hq
    · rw [hv]
      refine jm_tableOut (pc := 49) (tgt := 104) dR_canDo_49 (by decide) (by decide) ?_
      refine jm_aload_n (pc := 104) dR_canDo_104 rfl ?_
      refine jm_aload_n (pc := 105) dR_canDo_105 rfl ?_
      refine jm_callV (pc := 106) (c_R_canDoAtom (d := d - 1) (s := eS E i) (p := eQ E i) (hT1.2.2.2 i hi).2.2.2.2.2.2.2.1 hT1.2.1 hT1.2.2.1 hsr (by omega) (hT.tr.2.2 i hi).2.2.2.2.1 (hT.tr.2.2 i hi).2.2.2.2.2.1 (fun q => ⟨(hT1.2.2.2 i hi).2.2.2.2.2.2.2.2 q, (hT.tr.2.2 i hi).2.2.2.2.2.2.1 q⟩) ((hT1.2.2.2 i hi).2.2.2.2.2.1.trans ((hT.tr.2.2 i hi).2.2.2.2.2.2.2 (by omega))) (by omega)) fR_canDoAtom vR_canDoAtom cR_61 dR_canDo_106 rfl rfl rfl rfl (by omega) ⟨Nat.le_refl _, Nat.le_refl _⟩ rfl (Nat.le_of_ble_eq_true rfl) (fun v s2 hq => ?_)
      obtain ⟨b, rfl, hb⟩ := aP_v hq
      refine jm_zret (pc := 109) dR_canDo_109 rfl (hb) ⟨Nat.le_refl _, Nat.le_refl _⟩ ?_
      exact cQ_pre tf ho (aP_cQ (by omega) hA h16 htr1 ht1 (by unfold eA; rw [← hA]; exact hq))
    · rw [hv]
      refine jm_tableOut (pc := 49) (tgt := 104) dR_canDo_49 (by decide) (by decide) ?_
      refine jm_aload_n (pc := 104) dR_canDo_104 rfl ?_
      refine jm_aload_n (pc := 105) dR_canDo_105 rfl ?_
      refine jm_callV (pc := 106) (c_R_canDoAtom (d := d - 1) (s := eS E i) (p := eQ E i) (hT1.2.2.2 i hi).2.2.2.2.2.2.2.1 hT1.2.1 hT1.2.2.1 hsr (by omega) (hT.tr.2.2 i hi).2.2.2.2.1 (hT.tr.2.2 i hi).2.2.2.2.2.1 (fun q => ⟨(hT1.2.2.2 i hi).2.2.2.2.2.2.2.2 q, (hT.tr.2.2 i hi).2.2.2.2.2.2.1 q⟩) ((hT1.2.2.2 i hi).2.2.2.2.2.1.trans ((hT.tr.2.2 i hi).2.2.2.2.2.2.2 (by omega))) (by omega)) fR_canDoAtom vR_canDoAtom cR_61 dR_canDo_106 rfl rfl rfl rfl (by omega) ⟨Nat.le_refl _, Nat.le_refl _⟩ rfl (Nat.le_of_ble_eq_true rfl) (fun v s2 hq => ?_)
      obtain ⟨b, rfl, hb⟩ := aP_v hq
      refine jm_zret (pc := 109) dR_canDo_109 rfl (hb) ⟨Nat.le_refl _, Nat.le_refl _⟩ ?_
      exact cQ_pre tf ho (aP_cQ (by omega) hA h16 htr1 ht1 (by unfold eA; rw [← hA]; exact hq))
    · rw [hv]
      refine jm_tableOut (pc := 49) (tgt := 104) dR_canDo_49 (by decide) (by decide) ?_
      refine jm_aload_n (pc := 104) dR_canDo_104 rfl ?_
      refine jm_aload_n (pc := 105) dR_canDo_105 rfl ?_
      refine jm_callV (pc := 106) (c_R_canDoAtom (d := d - 1) (s := eS E i) (p := eQ E i) (hT1.2.2.2 i hi).2.2.2.2.2.2.2.1 hT1.2.1 hT1.2.2.1 hsr (by omega) (hT.tr.2.2 i hi).2.2.2.2.1 (hT.tr.2.2 i hi).2.2.2.2.2.1 (fun q => ⟨(hT1.2.2.2 i hi).2.2.2.2.2.2.2.2 q, (hT.tr.2.2 i hi).2.2.2.2.2.2.1 q⟩) ((hT1.2.2.2 i hi).2.2.2.2.2.1.trans ((hT.tr.2.2 i hi).2.2.2.2.2.2.2 (by omega))) (by omega)) fR_canDoAtom vR_canDoAtom cR_61 dR_canDo_106 rfl rfl rfl rfl (by omega) ⟨Nat.le_refl _, Nat.le_refl _⟩ rfl (Nat.le_of_ble_eq_true rfl) (fun v s2 hq => ?_)
      obtain ⟨b, rfl, hb⟩ := aP_v hq
      refine jm_zret (pc := 109) dR_canDo_109 rfl (hb) ⟨Nat.le_refl _, Nat.le_refl _⟩ ?_
      exact cQ_pre tf ho (aP_cQ (by omega) hA h16 htr1 ht1 (by unfold eA; rw [← hA]; exact hq))
    · rw [hv]
      refine jm_tableOut (pc := 49) (tgt := 104) dR_canDo_49 (by decide) (by decide) ?_
      refine jm_aload_n (pc := 104) dR_canDo_104 rfl ?_
      refine jm_aload_n (pc := 105) dR_canDo_105 rfl ?_
      refine jm_callV (pc := 106) (c_R_canDoAtom (d := d - 1) (s := eS E i) (p := eQ E i) (hT1.2.2.2 i hi).2.2.2.2.2.2.2.1 hT1.2.1 hT1.2.2.1 hsr (by omega) (hT.tr.2.2 i hi).2.2.2.2.1 (hT.tr.2.2 i hi).2.2.2.2.2.1 (fun q => ⟨(hT1.2.2.2 i hi).2.2.2.2.2.2.2.2 q, (hT.tr.2.2 i hi).2.2.2.2.2.2.1 q⟩) ((hT1.2.2.2 i hi).2.2.2.2.2.1.trans ((hT.tr.2.2 i hi).2.2.2.2.2.2.2 (by omega))) (by omega)) fR_canDoAtom vR_canDoAtom cR_61 dR_canDo_106 rfl rfl rfl rfl (by omega) ⟨Nat.le_refl _, Nat.le_refl _⟩ rfl (Nat.le_of_ble_eq_true rfl) (fun v s2 hq => ?_)
      obtain ⟨b, rfl, hb⟩ := aP_v hq
      refine jm_zret (pc := 109) dR_canDo_109 rfl (hb) ⟨Nat.le_refl _, Nat.le_refl _⟩ ?_
      exact cQ_pre tf ho (aP_cQ (by omega) hA h16 htr1 ht1 (by unfold eA; rw [← hA]; exact hq))
    · rw [hv]
      refine jm_tableOut (pc := 49) (tgt := 104) dR_canDo_49 (by decide) (by decide) ?_
      refine jm_aload_n (pc := 104) dR_canDo_104 rfl ?_
      refine jm_aload_n (pc := 105) dR_canDo_105 rfl ?_
      refine jm_callV (pc := 106) (c_R_canDoAtom (d := d - 1) (s := eS E i) (p := eQ E i) (hT1.2.2.2 i hi).2.2.2.2.2.2.2.1 hT1.2.1 hT1.2.2.1 hsr (by omega) (hT.tr.2.2 i hi).2.2.2.2.1 (hT.tr.2.2 i hi).2.2.2.2.2.1 (fun q => ⟨(hT1.2.2.2 i hi).2.2.2.2.2.2.2.2 q, (hT.tr.2.2 i hi).2.2.2.2.2.2.1 q⟩) ((hT1.2.2.2 i hi).2.2.2.2.2.1.trans ((hT.tr.2.2 i hi).2.2.2.2.2.2.2 (by omega))) (by omega)) fR_canDoAtom vR_canDoAtom cR_61 dR_canDo_106 rfl rfl rfl rfl (by omega) ⟨Nat.le_refl _, Nat.le_refl _⟩ rfl (Nat.le_of_ble_eq_true rfl) (fun v s2 hq => ?_)
      obtain ⟨b, rfl, hb⟩ := aP_v hq
      refine jm_zret (pc := 109) dR_canDo_109 rfl (hb) ⟨Nat.le_refl _, Nat.le_refl _⟩ ?_
      exact cQ_pre tf ho (aP_cQ (by omega) hA h16 htr1 ht1 (by unfold eA; rw [← hA]; exact hq))
    · rw [hv]
      refine jm_tableOut (pc := 49) (tgt := 104) dR_canDo_49 (by decide) (by decide) ?_
      refine jm_aload_n (pc := 104) dR_canDo_104 rfl ?_
      refine jm_aload_n (pc := 105) dR_canDo_105 rfl ?_
      refine jm_callV (pc := 106) (c_R_canDoAtom (d := d - 1) (s := eS E i) (p := eQ E i) (hT1.2.2.2 i hi).2.2.2.2.2.2.2.1 hT1.2.1 hT1.2.2.1 hsr (by omega) (hT.tr.2.2 i hi).2.2.2.2.1 (hT.tr.2.2 i hi).2.2.2.2.2.1 (fun q => ⟨(hT1.2.2.2 i hi).2.2.2.2.2.2.2.2 q, (hT.tr.2.2 i hi).2.2.2.2.2.2.1 q⟩) ((hT1.2.2.2 i hi).2.2.2.2.2.1.trans ((hT.tr.2.2 i hi).2.2.2.2.2.2.2 (by omega))) (by omega)) fR_canDoAtom vR_canDoAtom cR_61 dR_canDo_106 rfl rfl rfl rfl (by omega) ⟨Nat.le_refl _, Nat.le_refl _⟩ rfl (Nat.le_of_ble_eq_true rfl) (fun v s2 hq => ?_)
      obtain ⟨b, rfl, hb⟩ := aP_v hq
      refine jm_zret (pc := 109) dR_canDo_109 rfl (hb) ⟨Nat.le_refl _, Nat.le_refl _⟩ ?_
      exact cQ_pre tf ho (aP_cQ (by omega) hA h16 htr1 ht1 (by unfold eA; rw [← hA]; exact hq))
    · rw [hv]
      refine jm_tableOut (pc := 49) (tgt := 104) dR_canDo_49 (by decide) (by decide) ?_
      refine jm_aload_n (pc := 104) dR_canDo_104 rfl ?_
      refine jm_aload_n (pc := 105) dR_canDo_105 rfl ?_
      refine jm_callV (pc := 106) (c_R_canDoAtom (d := d - 1) (s := eS E i) (p := eQ E i) (hT1.2.2.2 i hi).2.2.2.2.2.2.2.1 hT1.2.1 hT1.2.2.1 hsr (by omega) (hT.tr.2.2 i hi).2.2.2.2.1 (hT.tr.2.2 i hi).2.2.2.2.2.1 (fun q => ⟨(hT1.2.2.2 i hi).2.2.2.2.2.2.2.2 q, (hT.tr.2.2 i hi).2.2.2.2.2.2.1 q⟩) ((hT1.2.2.2 i hi).2.2.2.2.2.1.trans ((hT.tr.2.2 i hi).2.2.2.2.2.2.2 (by omega))) (by omega)) fR_canDoAtom vR_canDoAtom cR_61 dR_canDo_106 rfl rfl rfl rfl (by omega) ⟨Nat.le_refl _, Nat.le_refl _⟩ rfl (Nat.le_of_ble_eq_true rfl) (fun v s2 hq => ?_)
      obtain ⟨b, rfl, hb⟩ := aP_v hq
      refine jm_zret (pc := 109) dR_canDo_109 rfl (hb) ⟨Nat.le_refl _, Nat.le_refl _⟩ ?_
      exact cQ_pre tf ho (aP_cQ (by omega) hA h16 htr1 ht1 (by unfold eA; rw [← hA]; exact hq))
    · rw [hv]
      refine jm_tableOut (pc := 49) (tgt := 104) dR_canDo_49 (by decide) (by decide) ?_
      refine jm_aload_n (pc := 104) dR_canDo_104 rfl ?_
      refine jm_aload_n (pc := 105) dR_canDo_105 rfl ?_
      refine jm_callV (pc := 106) (c_R_canDoAtom (d := d - 1) (s := eS E i) (p := eQ E i) (hT1.2.2.2 i hi).2.2.2.2.2.2.2.1 hT1.2.1 hT1.2.2.1 hsr (by omega) (hT.tr.2.2 i hi).2.2.2.2.1 (hT.tr.2.2 i hi).2.2.2.2.2.1 (fun q => ⟨(hT1.2.2.2 i hi).2.2.2.2.2.2.2.2 q, (hT.tr.2.2 i hi).2.2.2.2.2.2.1 q⟩) ((hT1.2.2.2 i hi).2.2.2.2.2.1.trans ((hT.tr.2.2 i hi).2.2.2.2.2.2.2 (by omega))) (by omega)) fR_canDoAtom vR_canDoAtom cR_61 dR_canDo_106 rfl rfl rfl rfl (by omega) ⟨Nat.le_refl _, Nat.le_refl _⟩ rfl (Nat.le_of_ble_eq_true rfl) (fun v s2 hq => ?_)
      obtain ⟨b, rfl, hb⟩ := aP_v hq
      refine jm_zret (pc := 109) dR_canDo_109 rfl (hb) ⟨Nat.le_refl _, Nat.le_refl _⟩ ?_
      exact cQ_pre tf ho (aP_cQ (by omega) hA h16 htr1 ht1 (by unfold eA; rw [← hA]; exact hq))
    · rw [hv]
      refine jm_tableOut (pc := 49) (tgt := 104) dR_canDo_49 (by decide) (by decide) ?_
      refine jm_aload_n (pc := 104) dR_canDo_104 rfl ?_
      refine jm_aload_n (pc := 105) dR_canDo_105 rfl ?_
      refine jm_callV (pc := 106) (c_R_canDoAtom (d := d - 1) (s := eS E i) (p := eQ E i) (hT1.2.2.2 i hi).2.2.2.2.2.2.2.1 hT1.2.1 hT1.2.2.1 hsr (by omega) (hT.tr.2.2 i hi).2.2.2.2.1 (hT.tr.2.2 i hi).2.2.2.2.2.1 (fun q => ⟨(hT1.2.2.2 i hi).2.2.2.2.2.2.2.2 q, (hT.tr.2.2 i hi).2.2.2.2.2.2.1 q⟩) ((hT1.2.2.2 i hi).2.2.2.2.2.1.trans ((hT.tr.2.2 i hi).2.2.2.2.2.2.2 (by omega))) (by omega)) fR_canDoAtom vR_canDoAtom cR_61 dR_canDo_106 rfl rfl rfl rfl (by omega) ⟨Nat.le_refl _, Nat.le_refl _⟩ rfl (Nat.le_of_ble_eq_true rfl) (fun v s2 hq => ?_)
      obtain ⟨b, rfl, hb⟩ := aP_v hq
      refine jm_zret (pc := 109) dR_canDo_109 rfl (hb) ⟨Nat.le_refl _, Nat.le_refl _⟩ ?_
      exact cQ_pre tf ho (aP_cQ (by omega) hA h16 htr1 ht1 (by unfold eA; rw [← hA]; exact hq))
  · refine jm_aload_n (pc := 10) dR_canDo_10 rfl ?_
    refine jm_iconst (pc := 11) (v := 1) dR_canDo_11 (by decide) ?_
    refine jm_putz (pc := 12) pR_canDo_23 dR_canDo_12 rfl rfl (by first | exact Or.inl rfl | exact Or.inr rfl | assumption) ?_
    refine jm_iconst (pc := 15) (v := 0) dR_canDo_15 (by decide) ?_
    refine jm_zret (pc := 16) dR_canDo_16 rfl (by first | exact Or.inl rfl | exact Or.inr rfl | assumption) ⟨Nat.le_refl _, Nat.le_refl _⟩ ?_
    have e2 : t = 20000 := by
      rcases Nat.lt_or_ge t 20000 with q | q
      · exact absurd (by rw [htr]; exact nI_lt (b := 20000) q (by decide)) h7
      · omega
    refine ⟨TF.pT (Or.inr rfl), Or.inr ⟨?_, (sI_ne (by omega)).trans (by rw [htr, e2]), sI_eq, rfl⟩⟩
    have := tryF_pos E (f + 1) i S
    omega
/-- canDo, for every node of every tree -/
theorem c_canDo : ∀ (f d : Nat), 3 * f + 5 ≤ d → CD l D E f d
  | 0, d, _ => fun st i S t hT hi hdp _ _ => by
    have := (hT.tr.2.2 i hi).2.1
    omega
  | f + 1, d, hd => fun st i S t hT hi hdp htr ht => c_R_canDo (c_canDo f (d - 1 - 1 - 1) (by omega)) hT hi hdp htr ht (by omega)
end CCan
end
section
/-! bits of sets -/
/-- variable v is in the set -/
def gB (S : Int64) (v : Nat) : Prop := S.toBitVec.getLsbD v = true
theorem i64_ext {a b : Int64} (h : ∀ v, v < 64 → (a.toBitVec.getLsbD v = b.toBitVec.getLsbD v)) : a = b := by
  have e : a.toBitVec = b.toBitVec := BitVec.eq_of_getLsbD_eq (fun i hi => h i hi)
  cases a; cases b
  congr 1
  exact congrArg UInt64.ofBitVec e
theorem i64_or (a b : Int64) (v : Nat) : (a ||| b).toBitVec.getLsbD v = (a.toBitVec.getLsbD v || b.toBitVec.getLsbD v) := by
  show (a.toBitVec ||| b.toBitVec).getLsbD v = _
  exact BitVec.getLsbD_or
theorem i64_and (a b : Int64) (v : Nat) : (a &&& b).toBitVec.getLsbD v = (a.toBitVec.getLsbD v && b.toBitVec.getLsbD v) := by
  show (a.toBitVec &&& b.toBitVec).getLsbD v = _
  exact BitVec.getLsbD_and
theorem i64_nt (a : Int64) {v : Nat} (hv : v < 64) : (nt a).toBitVec.getLsbD v = !(a.toBitVec.getLsbD v) := by
  show (a.toBitVec ^^^ (-1 : Int64).toBitVec).getLsbD v = _
  rw [BitVec.getLsbD_xor, show (-1 : Int64).toBitVec = BitVec.allOnes 64 by decide, BitVec.getLsbD_allOnes]
  simp [hv]
theorem i64_0 (v : Nat) : (0 : Int64).toBitVec.getLsbD v = false := by
  show (0#64).getLsbD v = false
  exact BitVec.getLsbD_zero
theorem b1_tp : ∀ v, v < 64 → (b1 v).toBitVec = BitVec.twoPow 64 v := by decide +kernel
theorem b1_bit {v x : Nat} (hv : v < 64) : (b1 v).toBitVec.getLsbD x = decide (x = v) := by
  rw [b1_tp v hv, BitVec.getLsbD_twoPow]
  by_cases h : x = v
  · subst h; simp [hv]
  · have : ¬ v = x := fun q => h q.symm
    simp [h, this]
/-- a is within b -/
theorem sub_iff {a b : Int64} : a &&& nt b = 0 ↔ ∀ v, v < 64 → gB a v → gB b v := by
  constructor
  · intro h v hv ha
    have h1 := congrArg (fun z => z.toBitVec.getLsbD v) h
    simp only [i64_and, i64_nt b hv, i64_0] at h1
    unfold gB at ha ⊢
    rw [ha] at h1
    simpa using h1
  · intro h
    refine i64_ext (fun v hv => ?_)
    rw [i64_and, i64_nt b hv, i64_0]
    have := h v hv
    unfold gB at this
    cases ha : a.toBitVec.getLsbD v
    · rfl
    · rw [this ha]; rfl
theorem sub_iff2 {a b : Int64} : a &&& b = a ↔ a &&& nt b = 0 := by
  rw [sub_iff]
  constructor
  · intro h v hv ha
    have h1 := congrArg (fun z => z.toBitVec.getLsbD v) h
    simp only [i64_and] at h1
    unfold gB at ha ⊢
    rw [ha] at h1
    simpa using h1
  · intro h
    refine i64_ext (fun v hv => ?_)
    rw [i64_and]
    have := h v hv
    unfold gB at this
    cases ha : a.toBitVec.getLsbD v
    · rfl
    · rw [this ha]; rfl
theorem b1_sub {v : Nat} (hv : v < 64) {S : Int64} : b1 v &&& nt S = 0 ↔ gB S v := by
  rw [sub_iff]
  constructor
  · intro h
    exact h v hv (by unfold gB; rw [b1_bit hv]; simp)
  · intro h x _ hx
    unfold gB at hx
    rw [b1_bit hv] at hx
    have : x = v := by simpa using hx
    rw [this]; exact h
theorem gB_or {a b : Int64} {v : Nat} : gB (a ||| b) v ↔ gB a v ∨ gB b v := by
  unfold gB
  rw [i64_or, Bool.or_eq_true]
theorem gB_b1 {x v : Nat} (hx : x < 64) : gB (b1 x) v ↔ v = x := by
  unfold gB
  rw [b1_bit hx]
  simp
theorem or_sub {a b S : Int64} : (a ||| b) &&& nt S = 0 ↔ a &&& nt S = 0 ∧ b &&& nt S = 0 := by
  simp only [sub_iff, gB_or]
  constructor
  · intro h
    exact ⟨fun v hv ha => h v hv (Or.inl ha), fun v hv hb => h v hv (Or.inr hb)⟩
  · intro h v hv hab
    rcases hab with q | q
    · exact h.1 v hv q
    · exact h.2 v hv q
theorem or_in {a S : Int64} (h : a &&& nt S = 0) : S ||| a = S := by
  rw [sub_iff] at h
  refine i64_ext (fun v hv => ?_)
  rw [i64_or]
  have := h v hv
  unfold gB at this
  cases ha : a.toBitVec.getLsbD v
  · simp
  · rw [this ha]; rfl
theorem i64_or0 (S : Int64) : S ||| 0 = S := or_in (by rw [sub_iff]; intro v _ h; unfold gB at h; rw [i64_0] at h; cases h)
theorem wb_c6 : ∀ k, k < 64 → (((nI k).toInt64 &&& 63).toBitVec.smod 64).toNat = k := by decide +kernel
/-- isIn of the reference -/
theorem isIn_iff {S : Int64} {v : Nat} (hv : v < 63) : (S >>> ((nI v).toInt64 &&& 63)) &&& 1 = 1 ↔ gB S v := by
  have key : ((S >>> ((nI v).toInt64 &&& 63)) &&& 1).toBitVec.getLsbD 0 = S.toBitVec.getLsbD v := by
    rw [i64_and]
    have h1 : (1 : Int64).toBitVec.getLsbD 0 = true := by decide
    rw [h1, Bool.and_true]
    show (S.toBitVec.sshiftRight' (((nI v).toInt64 &&& 63).toBitVec.smod 64)).getLsbD 0 = _
    rw [BitVec.sshiftRight', wb_c6 v (by omega), BitVec.getLsbD_sshiftRight]
    simp
    omega
  constructor
  · intro h
    unfold gB
    rw [← key, h]
    decide
  · intro h
    unfold gB at h
    refine i64_ext (fun x hx => ?_)
    by_cases h0 : x = 0
    · subst h0
      rw [key, h]
      decide
    · rw [i64_and]
      have h1 : (1 : Int64).toBitVec.getLsbD x = false := by
        show (1#64).getLsbD x = false
        simp [BitVec.getLsbD_one]
        omega
      rw [h1, Bool.and_false]
/-- holds of the class -/
theorem hB_iff {S : Int64} {v : Nat} (hv : v < 63) : ¬ hB S (nI v) = 0 ↔ gB S v := by
  have hu : ∀ k, k < 64 → (((nI k).toInt64.toUInt64 &&& Int64.toUInt64 63).toBitVec % 64).toNat = k := by decide +kernel
  have key : (hB S (nI v)).toBitVec.getLsbD 0 = S.toBitVec.getLsbD v := by
    unfold hB
    rw [i64_and]
    have h1 : (1 : Int64).toBitVec.getLsbD 0 = true := by decide
    rw [h1, Bool.and_true]
    show (S.toBitVec >>> (((nI v).toInt64.toUInt64 &&& Int64.toUInt64 63).toBitVec % 64)).getLsbD 0 = _
    rw [BitVec.ushiftRight_eq', hu v (by omega), BitVec.getLsbD_ushiftRight]
    simp
  have oth : ∀ x, x ≠ 0 → (hB S (nI v)).toBitVec.getLsbD x = false := by
    intro x hx
    unfold hB
    rw [i64_and]
    have h1 : (1 : Int64).toBitVec.getLsbD x = false := by
      show (1#64).getLsbD x = false
      simp [BitVec.getLsbD_one]
      omega
    rw [h1, Bool.and_false]
  constructor
  · intro h
    unfold gB
    rw [← key]
    cases hk : (hB S (nI v)).toBitVec.getLsbD 0
    · refine absurd (i64_ext (fun x hx => ?_)) h
      by_cases h0 : x = 0
      · subst h0; rw [hk, i64_0]
      · rw [oth x h0, i64_0]
    · rfl
  · intro h q
    unfold gB at h
    rw [← key, q, i64_0] at h
    cases h
/-- the row's set by its variables -/
theorem rsF_iff {vr : Nat → Nat} : ∀ (n k : Nat) (S : Int64) (v : Nat), (∀ j, k ≤ j → j < k + n → vr j < 60) → (gB (rsF vr n k S) v ↔ gB S v ∨ ∃ j, k ≤ j ∧ j < k + n ∧ vr j = v)
  | 0, k, S, v, _ => by
    constructor
    · exact Or.inl
    · rintro (h | ⟨j, h1, h2, -⟩)
      · exact h
      · omega
  | n + 1, k, S, v, h => by
    show gB (rsF vr n (k + 1) (S ||| b1 (vr k))) v ↔ _
    rw [rsF_iff n (k + 1) _ v (fun j h1 h2 => h j (by omega) (by omega)), gB_or, gB_b1 (by have := h k (by omega) (by omega); omega)]
    constructor
    · rintro ((h1 | h1) | ⟨j, h1, h2, h3⟩)
      · exact Or.inl h1
      · exact Or.inr ⟨k, by omega, by omega, h1.symm⟩
      · exact Or.inr ⟨j, by omega, by omega, h3⟩
    · rintro (h1 | ⟨j, h1, h2, h3⟩)
      · exact Or.inl (Or.inl h1)
      · by_cases e : j = k
        · subst e; exact Or.inl (Or.inr h3.symm)
        · exact Or.inr ⟨j, by omega, by omega, h3⟩
theorem rowS_iff {w fr : Nat} {vr : Nat → Nat} {v : Nat} (h : ∀ j, j < w → vr j < 60) : gB (rowS w vr fr) v ↔ ∃ j, fr ≤ j ∧ j < w ∧ vr j = v := by
  unfold rowS
  rw [rsF_iff _ _ _ _ (fun j h1 h2 => h j (by omega))]
  constructor
  · rintro (h1 | ⟨j, h1, h2, h3⟩)
    · unfold gB at h1; rw [i64_0] at h1; cases h1
    · exact ⟨j, h1, by omega, h3⟩
  · rintro ⟨j, h1, h2, h3⟩
    exact Or.inr ⟨j, h1, by omega, h3⟩
end
section
/-! the reference: its arrays, its rows -/
def mAr (j : Nat) : Bool := decide (j ∈ [2, 3, 4, 6, 7, 8, 9, 10, 11, 12, 13, 14, 15, 16, 20, 21, 22, 23, 24, 25, 26, 27, 28, 29, 30, 31, 32, 33, 34, 35, 36, 37])
def mF (st : aS) : Prop := ∀ j, mAr j = true → st.2.2.1 5 0 j = some 0
def mV (st : aS) (i w : Nat) (vr : Nat → Nat) : Prop := st.1 23 0 i = nI w ∧ w ≤ 7 ∧ i < 250 ∧ ∀ k, k < w → st.1 24 0 (7 * i + k) = nI (vr k) ∧ vr k < 60
theorem sI_self {st : aS} {k i j : Nat} : sI st k i j (st.1 k i j) = st := by
  unfold sI
  have : u3 st.1 k i j (st.1 k i j) = st.1 := by
    funext a b c
    unfold u3
    split
    · next h => rw [h.1, h.2.1, h.2.2]
    · rfl
  rw [this]
theorem sI_sI {st : aS} {k i j : Nat} {v w : Int32} : sI (sI st k i j v) k i j w = sI st k i j w := by
  unfold sI
  have : u3 (u3 st.1 k i j v) k i j w = u3 st.1 k i j w := by
    funext a b c
    unfold u3
    split
    · rfl
    · rfl
  rw [show (u3 st.1 k i j v, st.2).1 = u3 st.1 k i j v from rfl, this]
/-- bit k of an int -/
def oB (o : Int32) (k : Nat) : Bool := o.toBitVec.getLsbD k
theorem i32_ext {a b : Int32} (h : ∀ v, v < 32 → (a.toBitVec.getLsbD v = b.toBitVec.getLsbD v)) : a = b := by
  have e : a.toBitVec = b.toBitVec := BitVec.eq_of_getLsbD_eq (fun i hi => h i hi)
  cases a; cases b
  congr 1
  exact congrArg UInt32.ofBitVec e
theorem i32_and (a b : Int32) (v : Nat) : (a &&& b).toBitVec.getLsbD v = (a.toBitVec.getLsbD v && b.toBitVec.getLsbD v) := by
  show (a.toBitVec &&& b.toBitVec).getLsbD v = _
  exact BitVec.getLsbD_and
theorem i32_or (a b : Int32) (v : Nat) : (a ||| b).toBitVec.getLsbD v = (a.toBitVec.getLsbD v || b.toBitVec.getLsbD v) := by
  show (a.toBitVec ||| b.toBitVec).getLsbD v = _
  exact BitVec.getLsbD_or
theorem i32_1 {x : Nat} (hx : x ≠ 0) : (1 : Int32).toBitVec.getLsbD x = false := by
  show (1#32).getLsbD x = false
  simp [BitVec.getLsbD_one]
  omega
theorem wb_c5 : ∀ k, k < 32 → ((nI k &&& 31).toBitVec.smod 32).toNat = k := by decide +kernel
theorem oB_iff {o : Int32} {k : Nat} (hk : k < 31) : (o >>> (nI k &&& 31)) &&& 1 = 1 ↔ oB o k = true := by
  have key : ((o >>> (nI k &&& 31)) &&& 1).toBitVec.getLsbD 0 = o.toBitVec.getLsbD k := by
    rw [i32_and]
    have h1 : (1 : Int32).toBitVec.getLsbD 0 = true := by decide
    rw [h1, Bool.and_true]
    show (o.toBitVec.sshiftRight' ((nI k &&& 31).toBitVec.smod 32)).getLsbD 0 = _
    rw [BitVec.sshiftRight', wb_c5 k (by omega), BitVec.getLsbD_sshiftRight]
    simp
    omega
  constructor
  · intro h
    unfold oB
    rw [← key, h]
    decide
  · intro h
    unfold oB at h
    refine i32_ext (fun x hx => ?_)
    by_cases h0 : x = 0
    · subst h0
      rw [key, h]
      decide
    · rw [i32_and, i32_1 h0, Bool.and_false]
theorem hP_iff {o : Int32} {k : Nat} (hk : k < 31) : ¬ hP o (nI k) = 0 ↔ oB o k = true := by
  have hu : ∀ k, k < 32 → (((nI k).toUInt32 &&& Int32.toUInt32 31).toBitVec % 32).toNat = k := by decide +kernel
  have key : (hP o (nI k)).toBitVec.getLsbD 0 = o.toBitVec.getLsbD k := by
    unfold hP
    rw [i32_and]
    have h1 : (1 : Int32).toBitVec.getLsbD 0 = true := by decide
    rw [h1, Bool.and_true]
    show (o.toBitVec >>> (((nI k).toUInt32 &&& Int32.toUInt32 31).toBitVec % 32)).getLsbD 0 = _
    rw [BitVec.ushiftRight_eq', hu k (by omega), BitVec.getLsbD_ushiftRight]
    simp
  have oth : ∀ x, x ≠ 0 → (hP o (nI k)).toBitVec.getLsbD x = false := by
    intro x hx
    unfold hP
    rw [i32_and, i32_1 hx, Bool.and_false]
  have z0 : ∀ x, (0 : Int32).toBitVec.getLsbD x = false := fun x => by
    show (0#32).getLsbD x = false
    exact BitVec.getLsbD_zero
  constructor
  · intro h
    unfold oB
    rw [← key]
    cases hk : (hP o (nI k)).toBitVec.getLsbD 0
    · refine absurd (i32_ext (fun x hx => ?_)) h
      by_cases h0 : x = 0
      · subst h0; rw [hk, z0]
      · rw [oth x h0, z0]
    · rfl
  · intro h q
    unfold oB at h
    rw [← key, q, z0] at h
    cases h
/-- what compare gathers -/
def cmF (bc : Nat → Bool) (vr : Nat → Nat) : Nat → Nat → Int64 → Int32 → Int32
  | 0, _, _, acc => acc
  | n + 1, k, seen, acc => if bc k = true then cmF bc vr n (k + 1) (seen ||| b1 (vr k)) (if seen.toBitVec.getLsbD (vr k) = true then acc ||| (1 <<< (nI k &&& 31)) else acc) else cmF bc vr n (k + 1) seen acc
theorem one_bit : ∀ k, k < 32 → ((1 : Int32) <<< (nI k &&& 31)).toBitVec = BitVec.twoPow 32 k := by decide +kernel
theorem one_bit2 {k x : Nat} (hk : k < 32) : ((1 : Int32) <<< (nI k &&& 31)).toBitVec.getLsbD x = decide (x = k) := by
  rw [one_bit k hk, BitVec.getLsbD_twoPow]
  by_cases h : x = k
  · subst h; simp [hk]
  · have : ¬ k = x := fun q => h q.symm
    simp [h, this]
theorem cmF_iff {bc : Nat → Bool} {vr : Nat → Nat} : ∀ (n k : Nat) (seen : Int64) (acc : Int32), k + n ≤ 7 → (∀ j, j < k + n → vr j < 60) → ∀ x, oB (cmF bc vr n k seen acc) x = true ↔ (oB acc x = true ∨ (k ≤ x ∧ x < k + n ∧ bc x = true ∧ (gB seen (vr x) ∨ ∃ j, k ≤ j ∧ j < x ∧ bc j = true ∧ vr j = vr x)))
  | 0, k, seen, acc, _, _, x => by
    constructor
    · exact Or.inl
    · rintro (h | ⟨h1, h2, -⟩)
      · exact h
      · omega
  | n + 1, k, seen, acc, h7, hv, x => by
    unfold cmF
    by_cases hb : bc k = true
    · rw [if_pos hb, cmF_iff n (k + 1) _ _ (by omega) (fun j hj => hv j (by omega)) x]
      have ha : oB (if seen.toBitVec.getLsbD (vr k) = true then acc ||| (1 <<< (nI k &&& 31)) else acc) x = true ↔ oB acc x = true ∨ (x = k ∧ gB seen (vr k)) := by
        by_cases hs : seen.toBitVec.getLsbD (vr k) = true
        · rw [if_pos hs]
          unfold oB
          rw [i32_or, one_bit2 (by omega), Bool.or_eq_true, decide_eq_true_eq]
          constructor
          · rintro (h | h)
            · exact Or.inl h
            · exact Or.inr ⟨h, hs⟩
          · rintro (h | h)
            · exact Or.inl h
            · exact Or.inr h.1
        · rw [if_neg hs]
          constructor
          · exact Or.inl
          · rintro (h | h)
            · exact h
            · exact absurd h.2 hs
      rw [ha]
      have hk60 := hv k (by omega)
      constructor
      · rintro ((h | ⟨rfl, h⟩) | ⟨h1, h2, h3, h4⟩)
        · exact Or.inl h
        · exact Or.inr ⟨by omega, by omega, hb, Or.inl h⟩
        · refine Or.inr ⟨by omega, by omega, h3, ?_⟩
          rcases h4 with h4 | ⟨j, j1, j2, j3, j4⟩
          · rcases gB_or.mp h4 with h4 | h4
            · exact Or.inl h4
            · exact Or.inr ⟨k, by omega, by omega, hb, ((gB_b1 (by omega)).mp h4).symm⟩
          · exact Or.inr ⟨j, by omega, j2, j3, j4⟩
      · rintro (h | ⟨h1, h2, h3, h4⟩)
        · exact Or.inl (Or.inl h)
        · by_cases e : x = k
          · subst e
            rcases h4 with h4 | ⟨j, j1, j2, -⟩
            · exact Or.inl (Or.inr ⟨rfl, h4⟩)
            · omega
          · refine Or.inr ⟨by omega, by omega, h3, ?_⟩
            rcases h4 with h4 | ⟨j, j1, j2, j3, j4⟩
            · exact Or.inl (gB_or.mpr (Or.inl h4))
            · by_cases e2 : j = k
              · subst e2
                exact Or.inl (gB_or.mpr (Or.inr ((gB_b1 (by omega)).mpr j4.symm)))
              · exact Or.inr ⟨j, by omega, j2, j3, j4⟩
    · rw [if_neg hb, cmF_iff n (k + 1) _ _ (by omega) (fun j hj => hv j (by omega)) x]
      constructor
      · rintro (h | ⟨h1, h2, h3, h4⟩)
        · exact Or.inl h
        · refine Or.inr ⟨by omega, by omega, h3, ?_⟩
          rcases h4 with h4 | ⟨j, j1, j2, j3, j4⟩
          · exact Or.inl h4
          · exact Or.inr ⟨j, by omega, j2, j3, j4⟩
      · rintro (h | ⟨h1, h2, h3, h4⟩)
        · exact Or.inl h
        · have hxk : x ≠ k := fun e => hb (by rw [← e]; exact h3)
          refine Or.inr ⟨by omega, by omega, h3, ?_⟩
          rcases h4 with h4 | ⟨j, j1, j2, j3, j4⟩
          · exact Or.inl h4
          · have hjk : j ≠ k := fun e => hb (by rw [← e]; exact j3)
            exact Or.inr ⟨j, by omega, j2, j3, j4⟩
theorem e7 (i k : Nat) : (7 : Int32) * nI i + nI k = nI (7 * i + k) := by
  have : (7 : Int32) * nI i = nI (7 * i) := pk_mul 7 i
  rw [this, nI_add]
theorem lg1 {x y : Int64} : lg_cmp x y = 0 ↔ x = y := by
  unfold lg_cmp
  split
  · next h =>
    constructor
    · intro q; exact absurd q (by decide)
    · intro q; subst q; exact absurd h (Int64.lt_irrefl)
  · split
    · next h => exact ⟨fun _ => h, fun _ => rfl⟩
    · next h => exact ⟨fun q => absurd q (by decide), fun q => absurd q h⟩
end
section
section CM1
variable {l : Launch} {D : mD} {d : Nat} {st : aS} {E : EE}
set_option maxRecDepth 100000 in
set_option maxHeartbeats 4000000 in
theorem c_M_isIn {x : Nat} (S : Int64) (hv : x < 60) : MC l D mM_isIn d 0 0 [vR (some (5, 0)), vL S, vI (nI x)] st (fun v s' => st = s' ∧ v = some (vI (jb (S.toBitVec.getLsbD x = true)))) := by
  refine jm_start (ls0 := [some (vR (some (5, 0))), some (vL S), none, some (vI (nI x))]) (by decide) (Nat.le_of_ble_eq_true rfl) rfl ?_
  refine jm_lload_n (pc := 0) dM_isIn_0 rfl ?_
  refine jm_iload_n (pc := 1) dM_isIn_1 rfl ?_
  refine jm_lshr (pc := 2) dM_isIn_2 ?_
  refine jm_lconst (pc := 3) (v := 1) dM_isIn_3 (by decide) ?_
  refine jm_land (pc := 4) dM_isIn_4 ?_
  refine jm_lconst (pc := 5) (v := 1) dM_isIn_5 (by decide) ?_
  refine jm_lcmp (pc := 6) dM_isIn_6 ?_
  refine jm_if_ne (pc := 7) (tgt := 14) dM_isIn_7 (by decide) (fun h7 => ?_) (fun h7 => ?_)
  · refine jm_iconst (pc := 14) (v := 0) dM_isIn_14 (by decide) ?_
    refine jm_zret (pc := 15) dM_isIn_15 rfl (by first | exact Or.inl rfl | exact Or.inr rfl | assumption) ⟨Nat.le_refl _, Nat.le_refl _⟩ ?_
    refine ⟨rfl, ?_⟩
    first
      | exact jbt ((isIn_iff (by omega)).mp (lg1.mp h7))
      | exact jbf (fun q => h7 (lg1.mpr ((isIn_iff (by omega)).mpr q)))
  · refine jm_iconst (pc := 10) (v := 1) dM_isIn_10 (by decide) ?_
    refine jm_goto (pc := 11) (tgt := 15) dM_isIn_11 (by decide) ?_
    refine jm_zret (pc := 15) dM_isIn_15 rfl (by first | exact Or.inl rfl | exact Or.inr rfl | assumption) ⟨Nat.le_refl _, Nat.le_refl _⟩ ?_
    refine ⟨rfl, ?_⟩
    first
      | exact jbt ((isIn_iff (by omega)).mp (lg1.mp h7))
      | exact jbf (fun q => h7 (lg1.mpr ((isIn_iff (by omega)).mpr q)))
set_option maxRecDepth 100000 in
set_option maxHeartbeats 4000000 in
theorem c_M_areIn (S a : Int64)  : MC l D mM_areIn d 0 0 [vR (some (5, 0)), vL S, vL a] st (fun v s' => st = s' ∧ v = some (vI (jb (a &&& S = a)))) := by
  refine jm_start (ls0 := [some (vR (some (5, 0))), some (vL S), none, some (vL a), none]) (by decide) (Nat.le_of_ble_eq_true rfl) rfl ?_
  refine jm_lload_n (pc := 0) dM_areIn_0 rfl ?_
  refine jm_lload_n (pc := 1) dM_areIn_1 rfl ?_
  refine jm_land (pc := 2) dM_areIn_2 ?_
  refine jm_lload_n (pc := 3) dM_areIn_3 rfl ?_
  refine jm_lcmp (pc := 4) dM_areIn_4 ?_
  refine jm_if_ne (pc := 5) (tgt := 12) dM_areIn_5 (by decide) (fun h5 => ?_) (fun h5 => ?_)
  · refine jm_iconst (pc := 12) (v := 0) dM_areIn_12 (by decide) ?_
    refine jm_zret (pc := 13) dM_areIn_13 rfl (by first | exact Or.inl rfl | exact Or.inr rfl | assumption) ⟨Nat.le_refl _, Nat.le_refl _⟩ ?_
    refine ⟨rfl, ?_⟩
    first
      | exact jbt (lg1.mp h5)
      | exact jbf (fun q => h5 (lg1.mpr q))
  · refine jm_iconst (pc := 8) (v := 1) dM_areIn_8 (by decide) ?_
    refine jm_goto (pc := 9) (tgt := 13) dM_areIn_9 (by decide) ?_
    refine jm_zret (pc := 13) dM_areIn_13 rfl (by first | exact Or.inl rfl | exact Or.inr rfl | assumption) ⟨Nat.le_refl _, Nat.le_refl _⟩ ?_
    refine ⟨rfl, ?_⟩
    first
      | exact jbt (lg1.mp h5)
      | exact jbf (fun q => h5 (lg1.mpr q))
set_option maxRecDepth 100000 in
set_option maxHeartbeats 4000000 in
theorem c_M_comes {i : Nat} (w : Int32) (S : Int64) (hm : mF st) (hi : i < 250) : MC l D mM_comes d 0 0 [vR (some (5, 0)), vI (nI i), vI w, vL S] st (fun v s' => s' = sL (sI (sI st 31 0 i 1) 34 0 i w) 30 0 i S ∧ v = none) := by
  refine jm_start (ls0 := [some (vR (some (5, 0))), some (vI (nI i)), some (vI w), some (vL S), none]) (by decide) (Nat.le_of_ble_eq_true rfl) rfl ?_
  refine jm_aload_n (pc := 0) dM_comes_0 rfl ?_
  refine jm_getq (pc := 1) lM_68 dM_comes_1 rfl rfl (hm 25 rfl) ?_
  refine jm_iload_n (pc := 4) dM_comes_4 rfl ?_
  refine jm_iconst (pc := 5) (v := 1) dM_comes_5 (by decide) ?_
  refine jm_zast (pc := 6) dM_comes_6 rfl (by decide) rfl (fun _ => rfl) ?hin (by first | exact Or.inl rfl | exact Or.inr rfl | assumption) ?_
  case hin =>
    exact vp_in_nI (N := 250) (by omega) (by decide)
  refine jm_aload_n (pc := 7) dM_comes_7 rfl ?_
  refine jm_getq (pc := 8) lM_78 dM_comes_8 rfl rfl (hm 28 rfl) ?_
  refine jm_iload_n (pc := 11) dM_comes_11 rfl ?_
  refine jm_iload_n (pc := 12) dM_comes_12 rfl ?_
  refine jm_iast (pc := 13) dM_comes_13 rfl (by decide) rfl (fun _ => rfl) ?hin ?_
  case hin =>
    exact vp_in_nI (N := 250) (by omega) (by decide)
  refine jm_aload_n (pc := 14) dM_comes_14 rfl ?_
  refine jm_getq (pc := 15) lM_65 dM_comes_15 rfl rfl (hm 24 rfl) ?_
  refine jm_iload_n (pc := 18) dM_comes_18 rfl ?_
  refine jm_lload_n (pc := 19) dM_comes_19 rfl ?_
  refine jm_last (pc := 20) dM_comes_20 rfl (by decide) rfl (fun _ => rfl) ?hin ?_
  case hin =>
    exact vp_in_nI (N := 250) (by omega) (by decide)
  refine jm_vret (pc := 21) dM_comes_21 rfl ⟨Nat.le_refl _, Nat.le_refl _⟩ ?_
  rw [nI_clamp (by omega)]
  exact ⟨rfl, rfl⟩
set_option maxRecDepth 100000 in
set_option maxHeartbeats 4000000 in
theorem lp_M_rowOf {i w fr : Nat} {vr : Nat → Nat} {fx : Int32} (hm : mF st) (hv : mV st i w vr) : ∀ (n : Nat) (k : Nat) (x : Int32) (S : Int64), x = nI k → k ≤ w → w - k < n → rsF vr (w - k) k S = rowS w vr fr → MS l D mM_rowOf d 0 0 (fun v s' => st = s' ∧ v = some (vL (rowS w vr fr))) 0 0 5 [some (vR (some (5, 0))), some (vI (nI i)), some (vI fx), some (vL S), none, some (vI x)] [] st := by
  intro n
  induction n with
  | zero =>
    intro k x S hx hk hn hS
    omega
  | succ n ih =>
    intro k x S hx hk hn hS
    refine jm_iload (pc := 5) dM_rowOf_5 rfl ?_
    refine jm_aload_n (pc := 7) dM_rowOf_7 rfl ?_
    refine jm_getq (pc := 8) lM_43 dM_rowOf_8 rfl rfl (hm 14 rfl) ?_
    refine jm_iload_n (pc := 11) dM_rowOf_11 rfl ?_
    refine jm_iald (pc := 12) dM_rowOf_12 rfl (by decide) rfl (fun _ => rfl) ?hin ?_
    case hin =>
      have h250 := hv.2.2.1
      exact vp_in_nI (N := 250) (by omega) (by decide)
    have h250 := hv.2.2.1
    have hw7 := hv.2.1
    rw [nI_clamp (by omega), hv.1]
    refine jm_icmp_ge (pc := 13) (tgt := 39) dM_rowOf_13 (by decide) (fun h13 => ?_) (fun h13 => ?_)
    · refine jm_lload_n (pc := 39) dM_rowOf_39 rfl ?_
      refine jm_lret (pc := 40) dM_rowOf_40 rfl ⟨Nat.le_refl _, Nat.le_refl _⟩ ?_
      have hkw : ¬ k < w := fun q => nI_ge q (by omega) (by rw [hx] at h13; exact h13)
      rw [show w - k = 0 by omega] at hS
      exact ⟨rfl, by rw [← hS]; rfl⟩
    · have hkw : k < w := Nat.lt_of_not_le fun q => h13 (by rw [hx]; exact nI_le q (by omega))
      subst hx
      refine jm_lload_n (pc := 16) dM_rowOf_16 rfl ?_
      refine jm_lconst (pc := 17) (v := 1) dM_rowOf_17 (by decide) ?_
      refine jm_aload_n (pc := 18) dM_rowOf_18 rfl ?_
      refine jm_getq (pc := 19) lM_46 dM_rowOf_19 rfl rfl (hm 15 rfl) ?_
      refine jm_bipush (pc := 22) (v := 7) dM_rowOf_22 (by decide) ?_
      refine jm_iload_n (pc := 24) dM_rowOf_24 rfl ?_
      refine jm_imul (pc := 25) dM_rowOf_25 ?_
      refine jm_iload (pc := 26) dM_rowOf_26 rfl ?_
      refine jm_iadd (pc := 28) dM_rowOf_28 ?_
      rw [e7]
      refine jm_iald (pc := 29) dM_rowOf_29 rfl (by decide) rfl (fun _ => rfl) ?hin ?_
      case hin =>
        exact vp_in_nI (N := 1750) (by omega) (by decide)
      refine jm_lshl (pc := 30) dM_rowOf_30 ?_
      refine jm_lor (pc := 31) dM_rowOf_31 ?_
      refine jm_lstore_n (pc := 32) dM_rowOf_32 (by decide) ?_
      refine jm_iinc (pc := 33) dM_rowOf_33 rfl (by decide) ?_
      refine jm_goto (pc := 36) (tgt := 5) dM_rowOf_36 (by decide) ?_
      refine ih (k + 1) _ _ (ni1 k) (by omega) (by omega) ?_
      rw [← hS, show w - k = (w - (k + 1)) + 1 by omega]
      show rsF vr (w - (k + 1)) (k + 1) _ = rsF vr (w - (k + 1)) (k + 1) _
      rw [nI_clamp (by omega), (hv.2.2.2 k hkw).1]
      rfl
set_option maxRecDepth 100000 in
set_option maxHeartbeats 4000000 in
theorem c_M_rowOf {i w fr : Nat} {vr : Nat → Nat} (hm : mF st) (hv : mV st i w vr) (hf : fr ≤ w) : MC l D mM_rowOf d 0 0 [vR (some (5, 0)), vI (nI i), vI (nI fr)] st (fun v s' => st = s' ∧ v = some (vL (rowS w vr fr))) := by
  refine jm_start (ls0 := [some (vR (some (5, 0))), some (vI (nI i)), some (vI (nI fr)), none, none, none]) (by decide) (Nat.le_of_ble_eq_true rfl) rfl ?_
  refine jm_lconst (pc := 0) (v := 0) dM_rowOf_0 (by decide) ?_
  refine jm_lstore_n (pc := 1) dM_rowOf_1 (by decide) ?_
  refine jm_iload_n (pc := 2) dM_rowOf_2 rfl ?_
  refine jm_istore (pc := 3) dM_rowOf_3 (by decide) ?_
  exact lp_M_rowOf hm hv (w - fr + 1) fr _ _ rfl hf (by omega) rfl
set_option maxRecDepth 100000 in
set_option maxHeartbeats 4000000 in
theorem c_M_ended {i F : Nat} (g : Int32) (S : Int64) (hm : mF st) (hi : i < 250) (hF : st.1 5 0 38 = nI (F + 1)) (hg : g = 0 ∨ g = 1) : MC l D mM_ended d 0 0 [vR (some (5, 0)), vI (nI i), vI g, vL S] st (fun v s' => s' = sL (sI (sI st 5 0 38 (nI F)) 31 0 i g) 30 0 i S ∧ v = none) := by
  refine jm_start (ls0 := [some (vR (some (5, 0))), some (vI (nI i)), some (vI g), some (vL S), none]) (by decide) (Nat.le_of_ble_eq_true rfl) rfl ?_
  refine jm_aload_n (pc := 0) dM_ended_0 rfl ?_
  refine jm_dup (pc := 1) dM_ended_1 rfl ?_
  refine jm_geti (pc := 2) lM_193 dM_ended_2 rfl (fun _ => rfl) ?_
  refine jm_iconst (pc := 5) (v := 1) dM_ended_5 (by decide) ?_
  refine jm_isub (pc := 6) dM_ended_6 ?_
  rw [hF, show nI (F + 1) - 1 = nI F from nI_pred F]
  refine jm_puti (pc := 7) pM_ended_193 dM_ended_7 rfl rfl ?_
  refine jm_aload_n (pc := 10) dM_ended_10 rfl ?_
  refine jm_getq (pc := 11) lM_68 dM_ended_11 rfl rfl (hm 25 rfl) ?_
  refine jm_iload_n (pc := 14) dM_ended_14 rfl ?_
  refine jm_iload_n (pc := 15) dM_ended_15 rfl ?_
  refine jm_zast (pc := 16) dM_ended_16 rfl (by decide) rfl (fun _ => rfl) ?hin (by first | exact Or.inl rfl | exact Or.inr rfl | assumption) ?_
  case hin =>
    exact vp_in_nI (N := 250) (by omega) (by decide)
  refine jm_aload_n (pc := 17) dM_ended_17 rfl ?_
  refine jm_getq (pc := 18) lM_65 dM_ended_18 rfl rfl (hm 24 rfl) ?_
  refine jm_iload_n (pc := 21) dM_ended_21 rfl ?_
  refine jm_lload_n (pc := 22) dM_ended_22 rfl ?_
  refine jm_last (pc := 23) dM_ended_23 rfl (by decide) rfl (fun _ => rfl) ?hin ?_
  case hin =>
    exact vp_in_nI (N := 250) (by omega) (by decide)
  refine jm_vret (pc := 24) dM_ended_24 rfl ⟨Nat.le_refl _, Nat.le_refl _⟩ ?_
  rw [nI_clamp (by omega)]
  exact ⟨rfl, rfl⟩
end CM1
end
section
def cm (st : aS) (i : Nat) (w : Int32) (B : Int64) : aS := sL (sI (sI st 31 0 i 1) 34 0 i w) 30 0 i B
def aM (st : aS) (i : Nat) (S : Int64) (r : Option (Int32 × Int64)) (v : Option aV) (s' : aS) : Prop := v = none ∧ (match r with
  | some z => s' = cm st i z.1 (S ||| z.2)
  | none => st = s')
theorem aM_s {st s' : aS} {i : Nat} {S B : Int64} {r : Option (Int32 × Int64)} {w : Int32} {m : Int64} (h : r = some (w, m)) (hB : B = S ||| m) (hs : s' = cm st i w B) : aM st i S r none s' := by
  rw [h]
  refine ⟨rfl, ?_⟩
  show s' = cm st i w (S ||| m)
  rw [hs, hB]
theorem aM_n {st : aS} {i : Nat} {S : Int64} {r : Option (Int32 × Int64)} (h : r = none) : aM st i S r none st := by
  rw [h]
  exact ⟨rfl, rfl⟩
theorem or_swap {a b S : Int64} (h : b &&& nt S = 0) : S ||| a ||| b = S ||| a := by
  refine or_in ?_
  rw [sub_iff] at h ⊢
  intro v hv hb
  exact gB_or.mpr (Or.inl (h v hv hb))
theorem insF_iff {o : Int32} {vr : Nat → Nat} : ∀ (n k : Nat) (S : Int64) (v : Nat), k + n ≤ 7 → (∀ j, j < k + n → vr j < 60) → (gB (insF o vr n k S) v ↔ gB S v ∨ ∃ j, k ≤ j ∧ j < k + n ∧ ¬ oB o j = true ∧ vr j = v)
  | 0, k, S, v, _, _ => by
    constructor
    · exact Or.inl
    · rintro (h | ⟨j, h1, h2, -⟩)
      · exact h
      · omega
  | n + 1, k, S, v, h7, h => by
    show gB (insF o vr n (k + 1) (if hP o (nI k) = 0 then S ||| b1 (vr k) else S)) v ↔ _
    rw [insF_iff n (k + 1) _ v (by omega) (fun j h1 => h j (by omega))]
    have hk := h k (by omega)
    by_cases hp : hP o (nI k) = 0
    · have hn : ¬ oB o k = true := fun q => (hP_iff (by omega)).mpr q hp
      rw [if_pos hp, gB_or, gB_b1 (by omega)]
      constructor
      · rintro ((h1 | h1) | ⟨j, h1, h2, h3, h4⟩)
        · exact Or.inl h1
        · exact Or.inr ⟨k, by omega, by omega, hn, h1.symm⟩
        · exact Or.inr ⟨j, by omega, by omega, h3, h4⟩
      · rintro (h1 | ⟨j, h1, h2, h3, h4⟩)
        · exact Or.inl (Or.inl h1)
        · by_cases e : j = k
          · subst e; exact Or.inl (Or.inr h4.symm)
          · exact Or.inr ⟨j, by omega, by omega, h3, h4⟩
    · have hn : oB o k = true := (hP_iff (by omega)).mp hp
      rw [if_neg hp]
      constructor
      · rintro (h1 | ⟨j, h1, h2, h3, h4⟩)
        · exact Or.inl h1
        · exact Or.inr ⟨j, by omega, by omega, h3, h4⟩
      · rintro (h1 | ⟨j, h1, h2, h3, h4⟩)
        · exact Or.inl h1
        · by_cases e : j = k
          · subst e; exact absurd hn h3
          · exact Or.inr ⟨j, by omega, by omega, h3, h4⟩
/-- all that is IN is ground -/
def allF (o : Int32) (vr : Nat → Nat) (S : Int64) (k : Nat) : Prop := ∀ j, j < k → oB o j = true ∨ gB S (vr j)
theorem insS_iff {o : Int32} {w : Nat} {vr : Nat → Nat} {S : Int64} (hw : w ≤ 7) (h : ∀ j, j < w → vr j < 60) : insS o w vr &&& nt S = 0 ↔ allF o vr S w := by
  rw [sub_iff]
  unfold insS
  constructor
  · intro h1 j hj
    by_cases hb : oB o j = true
    · exact Or.inl hb
    · exact Or.inr (h1 (vr j) (by have := h j hj; omega) ((insF_iff w 0 0 (vr j) (by omega) (fun k hk => h k (by omega))).mpr (Or.inr ⟨j, by omega, by omega, hb, rfl⟩)))
  · intro h1 v hv h2
    rcases (insF_iff w 0 0 v (by omega) (fun k hk => h k (by omega))).mp h2 with h3 | ⟨j, j1, j2, j3, j4⟩
    · unfold gB at h3; rw [i64_0] at h3; cases h3
    · rcases h1 j (by omega) with h4 | h4
      · exact absurd h4 j3
      · rw [← j4]; exact h4
/-- what call leaves -/
def caM (st : aS) (i w : Nat) (vr : Nat → Nat) (md : Nat) (ou : Nat → Int32) (S : Int64) (r : Option (Int32 × Int64)) (v : Option aV) (s' : aS) : Prop := v = none ∧ (match r with
  | some z => ∃ m, m < md ∧ z.1 = nI m ∧ s' = sI (cm st i z.1 (S ||| z.2)) 35 0 i (cmF (oB (ou m)) vr w 0 S (st.1 35 0 i))
  | none => st = s')
end
section
section CM2
variable {l : Launch} {D : mD} {d : Nat} {st : aS} {E : EE}
set_option maxRecDepth 100000 in
set_option maxHeartbeats 4000000 in
theorem c_M_same {i x y : Nat} {S : Int64} (hm : mF st) (hi : i < 250) (hx : x < 60) (hy : y < 60) (hd : 1 ≤ d) : MC l D mM_same d 0 0 [vR (some (5, 0)), vI (nI i), vI (nI x), vI (nI y), vL S] st (aM st i S (sameR (b1 x) (b1 y) S)) := by
  refine jm_start (ls0 := [some (vR (some (5, 0))), some (vI (nI i)), some (vI (nI x)), some (vI (nI y)), some (vL S), none, none, none]) (by decide) (Nat.le_of_ble_eq_true rfl) rfl ?_
  refine jm_aload_n (pc := 0) dM_same_0 rfl ?_
  refine jm_lload (pc := 1) dM_same_1 rfl ?_
  refine jm_iload_n (pc := 3) dM_same_3 rfl ?_
  refine jm_callV (pc := 4) (c_M_isIn (d := d - 1) _ hx) fM_isIn vM_isIn cM_163 dM_same_4 rfl rfl rfl rfl (by omega) ⟨Nat.le_refl _, Nat.le_refl _⟩ rfl (Nat.le_of_ble_eq_true rfl) (fun v s2 hq => ?_)
  obtain ⟨rfl, rfl⟩ := hq
  refine jm_istore (pc := 7) dM_same_7 (by decide) ?_
  refine jm_aload_n (pc := 9) dM_same_9 rfl ?_
  refine jm_lload (pc := 10) dM_same_10 rfl ?_
  refine jm_iload_n (pc := 12) dM_same_12 rfl ?_
  refine jm_callV (pc := 13) (c_M_isIn (d := d - 1) _ hy) fM_isIn vM_isIn cM_163 dM_same_13 rfl rfl rfl rfl (by omega) ⟨Nat.le_refl _, Nat.le_refl _⟩ rfl (Nat.le_of_ble_eq_true rfl) (fun v s2 hq => ?_)
  obtain ⟨rfl, rfl⟩ := hq
  refine jm_istore (pc := 16) dM_same_16 (by decide) ?_
  have bx : b1 x &&& nt S = 0 ↔ S.toBitVec.getLsbD x = true := b1_sub (by omega)
  have by_ : b1 y &&& nt S = 0 ↔ S.toBitVec.getLsbD y = true := b1_sub (by omega)
  refine jm_iload (pc := 18) dM_same_18 rfl ?_
  refine jm_if_ne (pc := 20) (tgt := 29) dM_same_20 (by decide) (fun h20 => ?_) (fun h20 => ?_)
  · refine jm_aload_n (pc := 29) dM_same_29 rfl ?_
    refine jm_iload_n (pc := 30) dM_same_30 rfl ?_
    refine jm_iload (pc := 31) dM_same_31 rfl ?_
    refine jm_if_eq (pc := 33) (tgt := 45) dM_same_33 (by decide) (fun h33 => ?_) (fun h33 => ?_)
    · refine jm_iload (pc := 45) dM_same_45 rfl ?_
      refine jm_if_eq (pc := 47) (tgt := 54) dM_same_47 (by decide) (fun h47 => ?_) (fun h47 => ?_)
      · refine jm_iconst (pc := 54) (v := 3) dM_same_54 (by decide) ?_
        refine jm_lload (pc := 55) dM_same_55 rfl ?_
        refine jm_lconst (pc := 57) (v := 1) dM_same_57 (by decide) ?_
        refine jm_iload_n (pc := 58) dM_same_58 rfl ?_
        refine jm_lshl (pc := 59) dM_same_59 ?_
        refine jm_lor (pc := 60) dM_same_60 ?_
        refine jm_lconst (pc := 61) (v := 1) dM_same_61 (by decide) ?_
        refine jm_iload_n (pc := 62) dM_same_62 rfl ?_
        refine jm_lshl (pc := 63) dM_same_63 ?_
        refine jm_lor (pc := 64) dM_same_64 ?_
        refine jm_callV (pc := 65) (c_M_comes (d := d - 1) _ _ hm hi) fM_comes vM_comes cM_167 dM_same_65 rfl rfl rfl rfl (by omega) ⟨Nat.le_refl _, Nat.le_refl _⟩ rfl (Nat.le_of_ble_eq_true rfl) (fun v s2 hq => ?_)
        obtain ⟨rfl, rfl⟩ := hq
        refine jm_vret (pc := 68) dM_same_68 rfl ⟨Nat.le_refl _, Nat.le_refl _⟩ ?_
        first
          | exact absurd h33 h20
          | exact absurd h33 h47
          | exact absurd h47 h33
          | exact aM_s (w := 1) (m := 0) (by unfold sameR; rw [if_pos (or_sub.mpr ⟨bx.mpr (jb_ne0 h33), by_.mpr (jb_ne0 h38)⟩)]) (by rw [i64_or0]; show S ||| b1 x ||| b1 y = S; rw [or_in (bx.mpr (jb_ne0 h33)), or_in (by_.mpr (jb_ne0 h38))]) rfl
          | exact aM_s (w := 2) (m := b1 y) (by unfold sameR; rw [if_neg (fun q => jb_eq0 h38 (by_.mp (or_sub.mp q).2)), if_pos (bx.mpr (jb_ne0 h33))]) (by show S ||| b1 x ||| b1 y = _; rw [or_in (bx.mpr (jb_ne0 h33))]) rfl
          | exact aM_s (w := 3) (m := b1 x) (by unfold sameR; rw [if_neg (fun q => jb_eq0 h33 (bx.mp (or_sub.mp q).1)), if_neg (fun q => jb_eq0 h33 (bx.mp q)), if_pos (by_.mpr (jb_ne0 h25))]) (by show S ||| b1 x ||| b1 y = _; rw [or_swap (by_.mpr (jb_ne0 h25))]) rfl
      · refine jm_iconst (pc := 50) (v := 2) dM_same_50 (by decide) ?_
        refine jm_goto (pc := 51) (tgt := 55) dM_same_51 (by decide) ?_
        refine jm_lload (pc := 55) dM_same_55 rfl ?_
        refine jm_lconst (pc := 57) (v := 1) dM_same_57 (by decide) ?_
        refine jm_iload_n (pc := 58) dM_same_58 rfl ?_
        refine jm_lshl (pc := 59) dM_same_59 ?_
        refine jm_lor (pc := 60) dM_same_60 ?_
        refine jm_lconst (pc := 61) (v := 1) dM_same_61 (by decide) ?_
        refine jm_iload_n (pc := 62) dM_same_62 rfl ?_
        refine jm_lshl (pc := 63) dM_same_63 ?_
        refine jm_lor (pc := 64) dM_same_64 ?_
        refine jm_callV (pc := 65) (c_M_comes (d := d - 1) _ _ hm hi) fM_comes vM_comes cM_167 dM_same_65 rfl rfl rfl rfl (by omega) ⟨Nat.le_refl _, Nat.le_refl _⟩ rfl (Nat.le_of_ble_eq_true rfl) (fun v s2 hq => ?_)
        obtain ⟨rfl, rfl⟩ := hq
        refine jm_vret (pc := 68) dM_same_68 rfl ⟨Nat.le_refl _, Nat.le_refl _⟩ ?_
        first
          | exact absurd h33 h20
          | exact absurd h33 h47
          | exact absurd h47 h33
          | exact aM_s (w := 1) (m := 0) (by unfold sameR; rw [if_pos (or_sub.mpr ⟨bx.mpr (jb_ne0 h33), by_.mpr (jb_ne0 h38)⟩)]) (by rw [i64_or0]; show S ||| b1 x ||| b1 y = S; rw [or_in (bx.mpr (jb_ne0 h33)), or_in (by_.mpr (jb_ne0 h38))]) rfl
          | exact aM_s (w := 2) (m := b1 y) (by unfold sameR; rw [if_neg (fun q => jb_eq0 h38 (by_.mp (or_sub.mp q).2)), if_pos (bx.mpr (jb_ne0 h33))]) (by show S ||| b1 x ||| b1 y = _; rw [or_in (bx.mpr (jb_ne0 h33))]) rfl
          | exact aM_s (w := 3) (m := b1 x) (by unfold sameR; rw [if_neg (fun q => jb_eq0 h33 (bx.mp (or_sub.mp q).1)), if_neg (fun q => jb_eq0 h33 (bx.mp q)), if_pos (by_.mpr (jb_ne0 h25))]) (by show S ||| b1 x ||| b1 y = _; rw [or_swap (by_.mpr (jb_ne0 h25))]) rfl
    · refine jm_iload (pc := 36) dM_same_36 rfl ?_
      refine jm_if_eq (pc := 38) (tgt := 45) dM_same_38 (by decide) (fun h38 => ?_) (fun h38 => ?_)
      · refine jm_iload (pc := 45) dM_same_45 rfl ?_
        refine jm_if_eq (pc := 47) (tgt := 54) dM_same_47 (by decide) (fun h47 => ?_) (fun h47 => ?_)
        · refine jm_iconst (pc := 54) (v := 3) dM_same_54 (by decide) ?_
          refine jm_lload (pc := 55) dM_same_55 rfl ?_
          refine jm_lconst (pc := 57) (v := 1) dM_same_57 (by decide) ?_
          refine jm_iload_n (pc := 58) dM_same_58 rfl ?_
          refine jm_lshl (pc := 59) dM_same_59 ?_
          refine jm_lor (pc := 60) dM_same_60 ?_
          refine jm_lconst (pc := 61) (v := 1) dM_same_61 (by decide) ?_
          refine jm_iload_n (pc := 62) dM_same_62 rfl ?_
          refine jm_lshl (pc := 63) dM_same_63 ?_
          refine jm_lor (pc := 64) dM_same_64 ?_
          refine jm_callV (pc := 65) (c_M_comes (d := d - 1) _ _ hm hi) fM_comes vM_comes cM_167 dM_same_65 rfl rfl rfl rfl (by omega) ⟨Nat.le_refl _, Nat.le_refl _⟩ rfl (Nat.le_of_ble_eq_true rfl) (fun v s2 hq => ?_)
          obtain ⟨rfl, rfl⟩ := hq
          refine jm_vret (pc := 68) dM_same_68 rfl ⟨Nat.le_refl _, Nat.le_refl _⟩ ?_
          first
            | exact absurd h33 h20
            | exact absurd h33 h47
            | exact absurd h47 h33
            | exact aM_s (w := 1) (m := 0) (by unfold sameR; rw [if_pos (or_sub.mpr ⟨bx.mpr (jb_ne0 h33), by_.mpr (jb_ne0 h38)⟩)]) (by rw [i64_or0]; show S ||| b1 x ||| b1 y = S; rw [or_in (bx.mpr (jb_ne0 h33)), or_in (by_.mpr (jb_ne0 h38))]) rfl
            | exact aM_s (w := 2) (m := b1 y) (by unfold sameR; rw [if_neg (fun q => jb_eq0 h38 (by_.mp (or_sub.mp q).2)), if_pos (bx.mpr (jb_ne0 h33))]) (by show S ||| b1 x ||| b1 y = _; rw [or_in (bx.mpr (jb_ne0 h33))]) rfl
            | exact aM_s (w := 3) (m := b1 x) (by unfold sameR; rw [if_neg (fun q => jb_eq0 h33 (bx.mp (or_sub.mp q).1)), if_neg (fun q => jb_eq0 h33 (bx.mp q)), if_pos (by_.mpr (jb_ne0 h25))]) (by show S ||| b1 x ||| b1 y = _; rw [or_swap (by_.mpr (jb_ne0 h25))]) rfl
        · refine jm_iconst (pc := 50) (v := 2) dM_same_50 (by decide) ?_
          refine jm_goto (pc := 51) (tgt := 55) dM_same_51 (by decide) ?_
          refine jm_lload (pc := 55) dM_same_55 rfl ?_
          refine jm_lconst (pc := 57) (v := 1) dM_same_57 (by decide) ?_
          refine jm_iload_n (pc := 58) dM_same_58 rfl ?_
          refine jm_lshl (pc := 59) dM_same_59 ?_
          refine jm_lor (pc := 60) dM_same_60 ?_
          refine jm_lconst (pc := 61) (v := 1) dM_same_61 (by decide) ?_
          refine jm_iload_n (pc := 62) dM_same_62 rfl ?_
          refine jm_lshl (pc := 63) dM_same_63 ?_
          refine jm_lor (pc := 64) dM_same_64 ?_
          refine jm_callV (pc := 65) (c_M_comes (d := d - 1) _ _ hm hi) fM_comes vM_comes cM_167 dM_same_65 rfl rfl rfl rfl (by omega) ⟨Nat.le_refl _, Nat.le_refl _⟩ rfl (Nat.le_of_ble_eq_true rfl) (fun v s2 hq => ?_)
          obtain ⟨rfl, rfl⟩ := hq
          refine jm_vret (pc := 68) dM_same_68 rfl ⟨Nat.le_refl _, Nat.le_refl _⟩ ?_
          first
            | exact absurd h33 h20
            | exact absurd h33 h47
            | exact absurd h47 h33
            | exact aM_s (w := 1) (m := 0) (by unfold sameR; rw [if_pos (or_sub.mpr ⟨bx.mpr (jb_ne0 h33), by_.mpr (jb_ne0 h38)⟩)]) (by rw [i64_or0]; show S ||| b1 x ||| b1 y = S; rw [or_in (bx.mpr (jb_ne0 h33)), or_in (by_.mpr (jb_ne0 h38))]) rfl
            | exact aM_s (w := 2) (m := b1 y) (by unfold sameR; rw [if_neg (fun q => jb_eq0 h38 (by_.mp (or_sub.mp q).2)), if_pos (bx.mpr (jb_ne0 h33))]) (by show S ||| b1 x ||| b1 y = _; rw [or_in (bx.mpr (jb_ne0 h33))]) rfl
            | exact aM_s (w := 3) (m := b1 x) (by unfold sameR; rw [if_neg (fun q => jb_eq0 h33 (bx.mp (or_sub.mp q).1)), if_neg (fun q => jb_eq0 h33 (bx.mp q)), if_pos (by_.mpr (jb_ne0 h25))]) (by show S ||| b1 x ||| b1 y = _; rw [or_swap (by_.mpr (jb_ne0 h25))]) rfl
      · refine jm_iconst (pc := 41) (v := 1) dM_same_41 (by decide) ?_
        refine jm_goto (pc := 42) (tgt := 55) dM_same_42 (by decide) ?_
        refine jm_lload (pc := 55) dM_same_55 rfl ?_
        refine jm_lconst (pc := 57) (v := 1) dM_same_57 (by decide) ?_
        refine jm_iload_n (pc := 58) dM_same_58 rfl ?_
        refine jm_lshl (pc := 59) dM_same_59 ?_
        refine jm_lor (pc := 60) dM_same_60 ?_
        refine jm_lconst (pc := 61) (v := 1) dM_same_61 (by decide) ?_
        refine jm_iload_n (pc := 62) dM_same_62 rfl ?_
        refine jm_lshl (pc := 63) dM_same_63 ?_
        refine jm_lor (pc := 64) dM_same_64 ?_
        refine jm_callV (pc := 65) (c_M_comes (d := d - 1) _ _ hm hi) fM_comes vM_comes cM_167 dM_same_65 rfl rfl rfl rfl (by omega) ⟨Nat.le_refl _, Nat.le_refl _⟩ rfl (Nat.le_of_ble_eq_true rfl) (fun v s2 hq => ?_)
        obtain ⟨rfl, rfl⟩ := hq
        refine jm_vret (pc := 68) dM_same_68 rfl ⟨Nat.le_refl _, Nat.le_refl _⟩ ?_
        first
          | exact absurd h33 h20
          | exact absurd h33 h47
          | exact absurd h47 h33
          | exact aM_s (w := 1) (m := 0) (by unfold sameR; rw [if_pos (or_sub.mpr ⟨bx.mpr (jb_ne0 h33), by_.mpr (jb_ne0 h38)⟩)]) (by rw [i64_or0]; show S ||| b1 x ||| b1 y = S; rw [or_in (bx.mpr (jb_ne0 h33)), or_in (by_.mpr (jb_ne0 h38))]) rfl
          | exact aM_s (w := 2) (m := b1 y) (by unfold sameR; rw [if_neg (fun q => jb_eq0 h38 (by_.mp (or_sub.mp q).2)), if_pos (bx.mpr (jb_ne0 h33))]) (by show S ||| b1 x ||| b1 y = _; rw [or_in (bx.mpr (jb_ne0 h33))]) rfl
          | exact aM_s (w := 3) (m := b1 x) (by unfold sameR; rw [if_neg (fun q => jb_eq0 h33 (bx.mp (or_sub.mp q).1)), if_neg (fun q => jb_eq0 h33 (bx.mp q)), if_pos (by_.mpr (jb_ne0 h25))]) (by show S ||| b1 x ||| b1 y = _; rw [or_swap (by_.mpr (jb_ne0 h25))]) rfl
  · refine jm_iload (pc := 23) dM_same_23 rfl ?_
    refine jm_if_ne (pc := 25) (tgt := 29) dM_same_25 (by decide) (fun h25 => ?_) (fun h25 => ?_)
    · refine jm_aload_n (pc := 29) dM_same_29 rfl ?_
      refine jm_iload_n (pc := 30) dM_same_30 rfl ?_
      refine jm_iload (pc := 31) dM_same_31 rfl ?_
      refine jm_if_eq (pc := 33) (tgt := 45) dM_same_33 (by decide) (fun h33 => ?_) (fun h33 => ?_)
      · refine jm_iload (pc := 45) dM_same_45 rfl ?_
        refine jm_if_eq (pc := 47) (tgt := 54) dM_same_47 (by decide) (fun h47 => ?_) (fun h47 => ?_)
        · refine jm_iconst (pc := 54) (v := 3) dM_same_54 (by decide) ?_
          refine jm_lload (pc := 55) dM_same_55 rfl ?_
          refine jm_lconst (pc := 57) (v := 1) dM_same_57 (by decide) ?_
          refine jm_iload_n (pc := 58) dM_same_58 rfl ?_
          refine jm_lshl (pc := 59) dM_same_59 ?_
          refine jm_lor (pc := 60) dM_same_60 ?_
          refine jm_lconst (pc := 61) (v := 1) dM_same_61 (by decide) ?_
          refine jm_iload_n (pc := 62) dM_same_62 rfl ?_
          refine jm_lshl (pc := 63) dM_same_63 ?_
          refine jm_lor (pc := 64) dM_same_64 ?_
          refine jm_callV (pc := 65) (c_M_comes (d := d - 1) _ _ hm hi) fM_comes vM_comes cM_167 dM_same_65 rfl rfl rfl rfl (by omega) ⟨Nat.le_refl _, Nat.le_refl _⟩ rfl (Nat.le_of_ble_eq_true rfl) (fun v s2 hq => ?_)
          obtain ⟨rfl, rfl⟩ := hq
          refine jm_vret (pc := 68) dM_same_68 rfl ⟨Nat.le_refl _, Nat.le_refl _⟩ ?_
          first
            | exact absurd h33 h20
            | exact absurd h33 h47
            | exact absurd h47 h33
            | exact aM_s (w := 1) (m := 0) (by unfold sameR; rw [if_pos (or_sub.mpr ⟨bx.mpr (jb_ne0 h33), by_.mpr (jb_ne0 h38)⟩)]) (by rw [i64_or0]; show S ||| b1 x ||| b1 y = S; rw [or_in (bx.mpr (jb_ne0 h33)), or_in (by_.mpr (jb_ne0 h38))]) rfl
            | exact aM_s (w := 2) (m := b1 y) (by unfold sameR; rw [if_neg (fun q => jb_eq0 h38 (by_.mp (or_sub.mp q).2)), if_pos (bx.mpr (jb_ne0 h33))]) (by show S ||| b1 x ||| b1 y = _; rw [or_in (bx.mpr (jb_ne0 h33))]) rfl
            | exact aM_s (w := 3) (m := b1 x) (by unfold sameR; rw [if_neg (fun q => jb_eq0 h33 (bx.mp (or_sub.mp q).1)), if_neg (fun q => jb_eq0 h33 (bx.mp q)), if_pos (by_.mpr (jb_ne0 h25))]) (by show S ||| b1 x ||| b1 y = _; rw [or_swap (by_.mpr (jb_ne0 h25))]) rfl
        · refine jm_iconst (pc := 50) (v := 2) dM_same_50 (by decide) ?_
          refine jm_goto (pc := 51) (tgt := 55) dM_same_51 (by decide) ?_
          refine jm_lload (pc := 55) dM_same_55 rfl ?_
          refine jm_lconst (pc := 57) (v := 1) dM_same_57 (by decide) ?_
          refine jm_iload_n (pc := 58) dM_same_58 rfl ?_
          refine jm_lshl (pc := 59) dM_same_59 ?_
          refine jm_lor (pc := 60) dM_same_60 ?_
          refine jm_lconst (pc := 61) (v := 1) dM_same_61 (by decide) ?_
          refine jm_iload_n (pc := 62) dM_same_62 rfl ?_
          refine jm_lshl (pc := 63) dM_same_63 ?_
          refine jm_lor (pc := 64) dM_same_64 ?_
          refine jm_callV (pc := 65) (c_M_comes (d := d - 1) _ _ hm hi) fM_comes vM_comes cM_167 dM_same_65 rfl rfl rfl rfl (by omega) ⟨Nat.le_refl _, Nat.le_refl _⟩ rfl (Nat.le_of_ble_eq_true rfl) (fun v s2 hq => ?_)
          obtain ⟨rfl, rfl⟩ := hq
          refine jm_vret (pc := 68) dM_same_68 rfl ⟨Nat.le_refl _, Nat.le_refl _⟩ ?_
          first
            | exact absurd h33 h20
            | exact absurd h33 h47
            | exact absurd h47 h33
            | exact aM_s (w := 1) (m := 0) (by unfold sameR; rw [if_pos (or_sub.mpr ⟨bx.mpr (jb_ne0 h33), by_.mpr (jb_ne0 h38)⟩)]) (by rw [i64_or0]; show S ||| b1 x ||| b1 y = S; rw [or_in (bx.mpr (jb_ne0 h33)), or_in (by_.mpr (jb_ne0 h38))]) rfl
            | exact aM_s (w := 2) (m := b1 y) (by unfold sameR; rw [if_neg (fun q => jb_eq0 h38 (by_.mp (or_sub.mp q).2)), if_pos (bx.mpr (jb_ne0 h33))]) (by show S ||| b1 x ||| b1 y = _; rw [or_in (bx.mpr (jb_ne0 h33))]) rfl
            | exact aM_s (w := 3) (m := b1 x) (by unfold sameR; rw [if_neg (fun q => jb_eq0 h33 (bx.mp (or_sub.mp q).1)), if_neg (fun q => jb_eq0 h33 (bx.mp q)), if_pos (by_.mpr (jb_ne0 h25))]) (by show S ||| b1 x ||| b1 y = _; rw [or_swap (by_.mpr (jb_ne0 h25))]) rfl
      · refine jm_iload (pc := 36) dM_same_36 rfl ?_
        refine jm_if_eq (pc := 38) (tgt := 45) dM_same_38 (by decide) (fun h38 => ?_) (fun h38 => ?_)
        · refine jm_iload (pc := 45) dM_same_45 rfl ?_
          refine jm_if_eq (pc := 47) (tgt := 54) dM_same_47 (by decide) (fun h47 => ?_) (fun h47 => ?_)
          · refine jm_iconst (pc := 54) (v := 3) dM_same_54 (by decide) ?_
            refine jm_lload (pc := 55) dM_same_55 rfl ?_
            refine jm_lconst (pc := 57) (v := 1) dM_same_57 (by decide) ?_
            refine jm_iload_n (pc := 58) dM_same_58 rfl ?_
            refine jm_lshl (pc := 59) dM_same_59 ?_
            refine jm_lor (pc := 60) dM_same_60 ?_
            refine jm_lconst (pc := 61) (v := 1) dM_same_61 (by decide) ?_
            refine jm_iload_n (pc := 62) dM_same_62 rfl ?_
            refine jm_lshl (pc := 63) dM_same_63 ?_
            refine jm_lor (pc := 64) dM_same_64 ?_
            refine jm_callV (pc := 65) (c_M_comes (d := d - 1) _ _ hm hi) fM_comes vM_comes cM_167 dM_same_65 rfl rfl rfl rfl (by omega) ⟨Nat.le_refl _, Nat.le_refl _⟩ rfl (Nat.le_of_ble_eq_true rfl) (fun v s2 hq => ?_)
            obtain ⟨rfl, rfl⟩ := hq
            refine jm_vret (pc := 68) dM_same_68 rfl ⟨Nat.le_refl _, Nat.le_refl _⟩ ?_
            first
              | exact absurd h33 h20
              | exact absurd h33 h47
              | exact absurd h47 h33
              | exact aM_s (w := 1) (m := 0) (by unfold sameR; rw [if_pos (or_sub.mpr ⟨bx.mpr (jb_ne0 h33), by_.mpr (jb_ne0 h38)⟩)]) (by rw [i64_or0]; show S ||| b1 x ||| b1 y = S; rw [or_in (bx.mpr (jb_ne0 h33)), or_in (by_.mpr (jb_ne0 h38))]) rfl
              | exact aM_s (w := 2) (m := b1 y) (by unfold sameR; rw [if_neg (fun q => jb_eq0 h38 (by_.mp (or_sub.mp q).2)), if_pos (bx.mpr (jb_ne0 h33))]) (by show S ||| b1 x ||| b1 y = _; rw [or_in (bx.mpr (jb_ne0 h33))]) rfl
              | exact aM_s (w := 3) (m := b1 x) (by unfold sameR; rw [if_neg (fun q => jb_eq0 h33 (bx.mp (or_sub.mp q).1)), if_neg (fun q => jb_eq0 h33 (bx.mp q)), if_pos (by_.mpr (jb_ne0 h25))]) (by show S ||| b1 x ||| b1 y = _; rw [or_swap (by_.mpr (jb_ne0 h25))]) rfl
          · refine jm_iconst (pc := 50) (v := 2) dM_same_50 (by decide) ?_
            refine jm_goto (pc := 51) (tgt := 55) dM_same_51 (by decide) ?_
            refine jm_lload (pc := 55) dM_same_55 rfl ?_
            refine jm_lconst (pc := 57) (v := 1) dM_same_57 (by decide) ?_
            refine jm_iload_n (pc := 58) dM_same_58 rfl ?_
            refine jm_lshl (pc := 59) dM_same_59 ?_
            refine jm_lor (pc := 60) dM_same_60 ?_
            refine jm_lconst (pc := 61) (v := 1) dM_same_61 (by decide) ?_
            refine jm_iload_n (pc := 62) dM_same_62 rfl ?_
            refine jm_lshl (pc := 63) dM_same_63 ?_
            refine jm_lor (pc := 64) dM_same_64 ?_
            refine jm_callV (pc := 65) (c_M_comes (d := d - 1) _ _ hm hi) fM_comes vM_comes cM_167 dM_same_65 rfl rfl rfl rfl (by omega) ⟨Nat.le_refl _, Nat.le_refl _⟩ rfl (Nat.le_of_ble_eq_true rfl) (fun v s2 hq => ?_)
            obtain ⟨rfl, rfl⟩ := hq
            refine jm_vret (pc := 68) dM_same_68 rfl ⟨Nat.le_refl _, Nat.le_refl _⟩ ?_
            first
              | exact absurd h33 h20
              | exact absurd h33 h47
              | exact absurd h47 h33
              | exact aM_s (w := 1) (m := 0) (by unfold sameR; rw [if_pos (or_sub.mpr ⟨bx.mpr (jb_ne0 h33), by_.mpr (jb_ne0 h38)⟩)]) (by rw [i64_or0]; show S ||| b1 x ||| b1 y = S; rw [or_in (bx.mpr (jb_ne0 h33)), or_in (by_.mpr (jb_ne0 h38))]) rfl
              | exact aM_s (w := 2) (m := b1 y) (by unfold sameR; rw [if_neg (fun q => jb_eq0 h38 (by_.mp (or_sub.mp q).2)), if_pos (bx.mpr (jb_ne0 h33))]) (by show S ||| b1 x ||| b1 y = _; rw [or_in (bx.mpr (jb_ne0 h33))]) rfl
              | exact aM_s (w := 3) (m := b1 x) (by unfold sameR; rw [if_neg (fun q => jb_eq0 h33 (bx.mp (or_sub.mp q).1)), if_neg (fun q => jb_eq0 h33 (bx.mp q)), if_pos (by_.mpr (jb_ne0 h25))]) (by show S ||| b1 x ||| b1 y = _; rw [or_swap (by_.mpr (jb_ne0 h25))]) rfl
        · refine jm_iconst (pc := 41) (v := 1) dM_same_41 (by decide) ?_
          refine jm_goto (pc := 42) (tgt := 55) dM_same_42 (by decide) ?_
          refine jm_lload (pc := 55) dM_same_55 rfl ?_
          refine jm_lconst (pc := 57) (v := 1) dM_same_57 (by decide) ?_
          refine jm_iload_n (pc := 58) dM_same_58 rfl ?_
          refine jm_lshl (pc := 59) dM_same_59 ?_
          refine jm_lor (pc := 60) dM_same_60 ?_
          refine jm_lconst (pc := 61) (v := 1) dM_same_61 (by decide) ?_
          refine jm_iload_n (pc := 62) dM_same_62 rfl ?_
          refine jm_lshl (pc := 63) dM_same_63 ?_
          refine jm_lor (pc := 64) dM_same_64 ?_
          refine jm_callV (pc := 65) (c_M_comes (d := d - 1) _ _ hm hi) fM_comes vM_comes cM_167 dM_same_65 rfl rfl rfl rfl (by omega) ⟨Nat.le_refl _, Nat.le_refl _⟩ rfl (Nat.le_of_ble_eq_true rfl) (fun v s2 hq => ?_)
          obtain ⟨rfl, rfl⟩ := hq
          refine jm_vret (pc := 68) dM_same_68 rfl ⟨Nat.le_refl _, Nat.le_refl _⟩ ?_
          first
            | exact absurd h33 h20
            | exact absurd h33 h47
            | exact absurd h47 h33
            | exact aM_s (w := 1) (m := 0) (by unfold sameR; rw [if_pos (or_sub.mpr ⟨bx.mpr (jb_ne0 h33), by_.mpr (jb_ne0 h38)⟩)]) (by rw [i64_or0]; show S ||| b1 x ||| b1 y = S; rw [or_in (bx.mpr (jb_ne0 h33)), or_in (by_.mpr (jb_ne0 h38))]) rfl
            | exact aM_s (w := 2) (m := b1 y) (by unfold sameR; rw [if_neg (fun q => jb_eq0 h38 (by_.mp (or_sub.mp q).2)), if_pos (bx.mpr (jb_ne0 h33))]) (by show S ||| b1 x ||| b1 y = _; rw [or_in (bx.mpr (jb_ne0 h33))]) rfl
            | exact aM_s (w := 3) (m := b1 x) (by unfold sameR; rw [if_neg (fun q => jb_eq0 h33 (bx.mp (or_sub.mp q).1)), if_neg (fun q => jb_eq0 h33 (bx.mp q)), if_pos (by_.mpr (jb_ne0 h25))]) (by show S ||| b1 x ||| b1 y = _; rw [or_swap (by_.mpr (jb_ne0 h25))]) rfl
    · refine jm_vret (pc := 28) dM_same_28 rfl ⟨Nat.le_refl _, Nat.le_refl _⟩ ?_
      exact aM_n (by unfold sameR; rw [if_neg (fun q => jb_eq0 h20 (bx.mp (or_sub.mp q).1)), if_neg (fun q => jb_eq0 h20 (bx.mp q)), if_neg (fun q => jb_eq0 h25 (by_.mp q))])
set_option maxRecDepth 100000 in
set_option maxHeartbeats 4000000 in
theorem lp_M_compare {i w s : Nat} {vr : Nat → Nat} {o : Int32} {S0 : Int64} {st0 : aS} (hm : mF st0) (hv : mV st0 i w vr) (hs : st0.1 15 0 i = nI s) (hs9 : s < 100) (hd : 1 ≤ d) : ∀ (n : Nat) (k : Nat) (x : Int32) (S : Int64) (acc : Int32) (x8 x9 : Option aV), x = nI k → k ≤ w → w - k < n → cmF (fun k => if s = 8 then decide (0 < k) else oB o k) vr (w - k) k S acc = cmF (fun k => if s = 8 then decide (0 < k) else oB o k) vr w 0 S0 (st0.1 35 0 i) → MS l D mM_compare d 0 0 (fun v s' => s' = sI st0 35 0 i (cmF (fun k => if s = 8 then decide (0 < k) else oB o k) vr w 0 S0 (st0.1 35 0 i)) ∧ v = none) 0 0 6 [some (vR (some (5, 0))), some (vI (nI i)), some (vI o), some (vL S0), none, some (vL S), none, some (vI x), x8, x9] [] (sI st0 35 0 i acc) := by
  intro n
  induction n with
  | zero =>
    intro k x S acc x8 x9 hx hk hn hS
    omega
  | succ n ih =>
    intro k x S acc x8 x9 hx hk hn hS
    refine jm_iload (pc := 6) dM_compare_6 rfl ?_
    refine jm_aload_n (pc := 8) dM_compare_8 rfl ?_
    
    refine jm_getq (pc := 9) lM_43 dM_compare_9 rfl rfl (hm 14 rfl) ?_
    refine jm_iload_n (pc := 12) dM_compare_12 rfl ?_
    refine jm_iald (pc := 13) dM_compare_13 rfl (by decide) rfl (fun _ => rfl) ?hin ?_
    case hin =>
      have h250 := hv.2.2.1
      exact vp_in_nI (N := 250) (by omega) (by decide)
    have h250 := hv.2.2.1
    have hw7 := hv.2.1
    rw [nI_clamp (by omega), show (sI st0 35 0 i acc).1 23 0 i = nI w from (sI_ne (by omega)).trans hv.1]
    refine jm_icmp_ge (pc := 14) (tgt := 119) dM_compare_14 (by decide) (fun h14 => ?_) (fun h14 => ?_)
    · refine jm_vret (pc := 119) dM_compare_119 rfl ⟨Nat.le_refl _, Nat.le_refl _⟩ ?_
      have hkw : ¬ k < w := fun q => nI_ge q (by omega) (by rw [hx] at h14; exact h14)
      rw [show w - k = 0 by omega] at hS
      exact ⟨by rw [← hS]; rfl, rfl⟩
    · have hkw : k < w := Nat.lt_of_not_le fun q => h14 (by rw [hx]; exact nI_le q (by omega))
      subst hx
      have hva := hv.2.2.2 k hkw
      refine jm_aload_n (pc := 17) dM_compare_17 rfl ?_
      refine jm_getq (pc := 18) lM_19 dM_compare_18 rfl rfl (hm 6 rfl) ?_
      refine jm_iload_n (pc := 21) dM_compare_21 rfl ?_
      refine jm_iald (pc := 22) dM_compare_22 rfl (by decide) rfl (fun _ => rfl) ?hin ?_
      case hin =>
        exact vp_in_nI (N := 250) (by omega) (by decide)
      refine jm_bipush (pc := 23) (v := 8) dM_compare_23 (by decide) ?_
      rw [nI_clamp (by omega), show (sI st0 35 0 i acc).1 15 0 i = nI s from (sI_ne (by omega)).trans hs]
      refine jm_icmp_ne (pc := 25) (tgt := 41) dM_compare_25 (by decide) (fun h25 => ?_) (fun h25 => ?_)
      · refine jm_iload_n (pc := 41) dM_compare_41 rfl ?_
        refine jm_iload (pc := 42) dM_compare_42 rfl ?_
        refine jm_ishr (pc := 44) dM_compare_44 ?_
        refine jm_iconst (pc := 45) (v := 1) dM_compare_45 (by decide) ?_
        refine jm_iand (pc := 46) dM_compare_46 ?_
        refine jm_iconst (pc := 47) (v := 1) dM_compare_47 (by decide) ?_
        refine jm_icmp_ne (pc := 48) (tgt := 55) dM_compare_48 (by decide) (fun h48 => ?_) (fun h48 => ?_)
        · refine jm_iconst (pc := 55) (v := 0) dM_compare_55 (by decide) ?_
          refine jm_istore (pc := 56) dM_compare_56 (by decide) ?_
          refine jm_iload (pc := 58) dM_compare_58 rfl ?_
          refine jm_if_ne (pc := 60) (tgt := 66) dM_compare_60 (by decide) (fun h60 => ?_) (fun h60 => ?_)
          · refine jm_aload_n (pc := 66) dM_compare_66 rfl ?_
            refine jm_getq (pc := 67) lM_46 dM_compare_67 rfl rfl (hm 15 rfl) ?_
            refine jm_bipush (pc := 70) (v := 7) dM_compare_70 (by decide) ?_
            refine jm_iload_n (pc := 72) dM_compare_72 rfl ?_
            refine jm_imul (pc := 73) dM_compare_73 ?_
            refine jm_iload (pc := 74) dM_compare_74 rfl ?_
            refine jm_iadd (pc := 76) dM_compare_76 ?_
            rw [e7]
            refine jm_iald (pc := 77) dM_compare_77 rfl (by decide) rfl (fun _ => rfl) ?hin ?_
            case hin =>
              exact vp_in_nI (N := 1750) (by omega) (by decide)
            rw [nI_clamp (by omega), show (sI st0 35 0 i acc).1 24 0 (7 * i + k) = nI (vr k) from (sI_ne (by omega)).trans hva.1]
            refine jm_istore (pc := 78) dM_compare_78 (by decide) ?_
            refine jm_aload_n (pc := 80) dM_compare_80 rfl ?_
            refine jm_lload (pc := 81) dM_compare_81 rfl ?_
            refine jm_iload (pc := 83) dM_compare_83 rfl ?_
            refine jm_callV (pc := 85) (c_M_isIn (d := d - 1) _ hva.2) fM_isIn vM_isIn cM_163 dM_compare_85 rfl rfl rfl rfl (by omega) ⟨Nat.le_refl _, Nat.le_refl _⟩ rfl (Nat.le_of_ble_eq_true rfl) (fun v s2 hq => ?_)
            obtain ⟨rfl, rfl⟩ := hq
            refine jm_if_eq (pc := 88) (tgt := 104) dM_compare_88 (by decide) (fun h88 => ?_) (fun h88 => ?_)
            · refine jm_lload (pc := 104) dM_compare_104 rfl ?_
              refine jm_lconst (pc := 106) (v := 1) dM_compare_106 (by decide) ?_
              refine jm_iload (pc := 107) dM_compare_107 rfl ?_
              refine jm_lshl (pc := 109) dM_compare_109 ?_
              refine jm_lor (pc := 110) dM_compare_110 ?_
              refine jm_lstore (pc := 111) dM_compare_111 (by decide) ?_
              refine jm_iinc (pc := 113) dM_compare_113 rfl (by decide) ?_
              refine jm_goto (pc := 116) (tgt := 6) dM_compare_116 (by decide) ?_
              first
                | exact absurd rfl h60
                | exact absurd h60 (by decide)
                | (have hb : (if s = 8 then decide (0 < k) else oB o k) = true := by
                     first
                       | (rw [if_pos (show s = 8 from (nI_eq (a := s) (b := 8) (by omega) (by decide)).mp h25)]
                          exact decide_eq_true (Nat.pos_of_ne_zero (fun q => h30 (by rw [q]; decide))))
                       | (rw [if_neg (show ¬ s = 8 from fun q => h25 (by rw [q]; rfl))]
                          exact (oB_iff (by omega)).mp h48)
                   refine MS.to (ih (k + 1) _ _ (if S.toBitVec.getLsbD (vr k) = true then acc ||| (1 <<< (nI k &&& 31)) else acc) _ _ (ni1 k) (by omega) (by omega) ?_) rfl rfl (by
                     first
                       | (rw [if_pos (jb_ne0 h88), nI_clamp (by omega)]
                          exact sI_sI)
                       | rw [if_neg (jb_eq0 h88)])
                   rw [← hS, show w - k = (w - (k + 1)) + 1 by omega]
                   conv => rhs; unfold cmF
                   rw [if_pos hb]
                   rfl)
                | (have hb : ¬ (if s = 8 then decide (0 < k) else oB o k) = true := by
                     first
                       | (rw [if_pos (show s = 8 from (nI_eq (a := s) (b := 8) (by omega) (by decide)).mp h25)]
                          intro q
                          exact nI_nle (of_decide_eq_true q) (by omega) h30)
                       | (rw [if_neg (show ¬ s = 8 from fun q => h25 (by rw [q]; rfl))]
                          exact fun q => h48 ((oB_iff (by omega)).mpr q))
                   refine ih (k + 1) _ _ acc _ _ (ni1 k) (by omega) (by omega) ?_
                   rw [← hS, show w - k = (w - (k + 1)) + 1 by omega]
                   conv => rhs; unfold cmF
                   rw [if_neg hb])
            · refine jm_aload_n (pc := 91) dM_compare_91 rfl ?_
              refine jm_getq (pc := 92) lM_81 dM_compare_92 rfl rfl (hm 29 rfl) ?_
              refine jm_iload_n (pc := 95) dM_compare_95 rfl ?_
              first | refine jm_dup2_2 (pc := 96) dM_compare_96 rfl ?_ | refine jm_dup2_11 (pc := 96) dM_compare_96 rfl rfl ?_
              refine jm_iald (pc := 97) dM_compare_97 rfl (by decide) rfl (fun _ => rfl) ?hin ?_
              case hin =>
                exact vp_in_nI (N := 250) (by omega) (by decide)
              refine jm_iconst (pc := 98) (v := 1) dM_compare_98 (by decide) ?_
              refine jm_iload (pc := 99) dM_compare_99 rfl ?_
              refine jm_ishl (pc := 101) dM_compare_101 ?_
              refine jm_ior (pc := 102) dM_compare_102 ?_
              rw [nI_clamp (by omega), sI_eq]
              refine jm_iast (pc := 103) dM_compare_103 rfl (by decide) rfl (fun _ => rfl) ?hin ?_
              case hin =>
                exact vp_in_nI (N := 250) (by omega) (by decide)
              refine jm_lload (pc := 104) dM_compare_104 rfl ?_
              refine jm_lconst (pc := 106) (v := 1) dM_compare_106 (by decide) ?_
              refine jm_iload (pc := 107) dM_compare_107 rfl ?_
              refine jm_lshl (pc := 109) dM_compare_109 ?_
              refine jm_lor (pc := 110) dM_compare_110 ?_
              refine jm_lstore (pc := 111) dM_compare_111 (by decide) ?_
              refine jm_iinc (pc := 113) dM_compare_113 rfl (by decide) ?_
              refine jm_goto (pc := 116) (tgt := 6) dM_compare_116 (by decide) ?_
              first
                | exact absurd rfl h60
                | exact absurd h60 (by decide)
                | (have hb : (if s = 8 then decide (0 < k) else oB o k) = true := by
                     first
                       | (rw [if_pos (show s = 8 from (nI_eq (a := s) (b := 8) (by omega) (by decide)).mp h25)]
                          exact decide_eq_true (Nat.pos_of_ne_zero (fun q => h30 (by rw [q]; decide))))
                       | (rw [if_neg (show ¬ s = 8 from fun q => h25 (by rw [q]; rfl))]
                          exact (oB_iff (by omega)).mp h48)
                   refine MS.to (ih (k + 1) _ _ (if S.toBitVec.getLsbD (vr k) = true then acc ||| (1 <<< (nI k &&& 31)) else acc) _ _ (ni1 k) (by omega) (by omega) ?_) rfl rfl (by
                     first
                       | (rw [if_pos (jb_ne0 h88), nI_clamp (by omega)]
                          exact sI_sI)
                       | rw [if_neg (jb_eq0 h88)])
                   rw [← hS, show w - k = (w - (k + 1)) + 1 by omega]
                   conv => rhs; unfold cmF
                   rw [if_pos hb]
                   rfl)
                | (have hb : ¬ (if s = 8 then decide (0 < k) else oB o k) = true := by
                     first
                       | (rw [if_pos (show s = 8 from (nI_eq (a := s) (b := 8) (by omega) (by decide)).mp h25)]
                          intro q
                          exact nI_nle (of_decide_eq_true q) (by omega) h30)
                       | (rw [if_neg (show ¬ s = 8 from fun q => h25 (by rw [q]; rfl))]
                          exact fun q => h48 ((oB_iff (by omega)).mpr q))
                   refine ih (k + 1) _ _ acc _ _ (ni1 k) (by omega) (by omega) ?_
                   rw [← hS, show w - k = (w - (k + 1)) + 1 by omega]
                   conv => rhs; unfold cmF
                   rw [if_neg hb])
          · refine jm_goto (pc := 63) (tgt := 113) dM_compare_63 (by decide) ?_
            refine jm_iinc (pc := 113) dM_compare_113 rfl (by decide) ?_
            refine jm_goto (pc := 116) (tgt := 6) dM_compare_116 (by decide) ?_
            first
              | exact absurd rfl h60
              | exact absurd h60 (by decide)
              | (have hb : (if s = 8 then decide (0 < k) else oB o k) = true := by
                   first
                     | (rw [if_pos (show s = 8 from (nI_eq (a := s) (b := 8) (by omega) (by decide)).mp h25)]
                        exact decide_eq_true (Nat.pos_of_ne_zero (fun q => h30 (by rw [q]; decide))))
                     | (rw [if_neg (show ¬ s = 8 from fun q => h25 (by rw [q]; rfl))]
                        exact (oB_iff (by omega)).mp h48)
                 refine MS.to (ih (k + 1) _ _ (if S.toBitVec.getLsbD (vr k) = true then acc ||| (1 <<< (nI k &&& 31)) else acc) _ _ (ni1 k) (by omega) (by omega) ?_) rfl rfl (by
                   first
                     | (rw [if_pos (jb_ne0 h88), nI_clamp (by omega)]
                        exact sI_sI)
                     | rw [if_neg (jb_eq0 h88)])
                 rw [← hS, show w - k = (w - (k + 1)) + 1 by omega]
                 conv => rhs; unfold cmF
                 rw [if_pos hb]
                 rfl)
              | (have hb : ¬ (if s = 8 then decide (0 < k) else oB o k) = true := by
                   first
                     | (rw [if_pos (show s = 8 from (nI_eq (a := s) (b := 8) (by omega) (by decide)).mp h25)]
                        intro q
                        exact nI_nle (of_decide_eq_true q) (by omega) h30)
                     | (rw [if_neg (show ¬ s = 8 from fun q => h25 (by rw [q]; rfl))]
                        exact fun q => h48 ((oB_iff (by omega)).mpr q))
                 refine ih (k + 1) _ _ acc _ _ (ni1 k) (by omega) (by omega) ?_
                 rw [← hS, show w - k = (w - (k + 1)) + 1 by omega]
                 conv => rhs; unfold cmF
                 rw [if_neg hb])
        · refine jm_iconst (pc := 51) (v := 1) dM_compare_51 (by decide) ?_
          refine jm_goto (pc := 52) (tgt := 56) dM_compare_52 (by decide) ?_
          refine jm_istore (pc := 56) dM_compare_56 (by decide) ?_
          refine jm_iload (pc := 58) dM_compare_58 rfl ?_
          refine jm_if_ne (pc := 60) (tgt := 66) dM_compare_60 (by decide) (fun h60 => ?_) (fun h60 => ?_)
          · refine jm_aload_n (pc := 66) dM_compare_66 rfl ?_
            refine jm_getq (pc := 67) lM_46 dM_compare_67 rfl rfl (hm 15 rfl) ?_
            refine jm_bipush (pc := 70) (v := 7) dM_compare_70 (by decide) ?_
            refine jm_iload_n (pc := 72) dM_compare_72 rfl ?_
            refine jm_imul (pc := 73) dM_compare_73 ?_
            refine jm_iload (pc := 74) dM_compare_74 rfl ?_
            refine jm_iadd (pc := 76) dM_compare_76 ?_
            rw [e7]
            refine jm_iald (pc := 77) dM_compare_77 rfl (by decide) rfl (fun _ => rfl) ?hin ?_
            case hin =>
              exact vp_in_nI (N := 1750) (by omega) (by decide)
            rw [nI_clamp (by omega), show (sI st0 35 0 i acc).1 24 0 (7 * i + k) = nI (vr k) from (sI_ne (by omega)).trans hva.1]
            refine jm_istore (pc := 78) dM_compare_78 (by decide) ?_
            refine jm_aload_n (pc := 80) dM_compare_80 rfl ?_
            refine jm_lload (pc := 81) dM_compare_81 rfl ?_
            refine jm_iload (pc := 83) dM_compare_83 rfl ?_
            refine jm_callV (pc := 85) (c_M_isIn (d := d - 1) _ hva.2) fM_isIn vM_isIn cM_163 dM_compare_85 rfl rfl rfl rfl (by omega) ⟨Nat.le_refl _, Nat.le_refl _⟩ rfl (Nat.le_of_ble_eq_true rfl) (fun v s2 hq => ?_)
            obtain ⟨rfl, rfl⟩ := hq
            refine jm_if_eq (pc := 88) (tgt := 104) dM_compare_88 (by decide) (fun h88 => ?_) (fun h88 => ?_)
            · refine jm_lload (pc := 104) dM_compare_104 rfl ?_
              refine jm_lconst (pc := 106) (v := 1) dM_compare_106 (by decide) ?_
              refine jm_iload (pc := 107) dM_compare_107 rfl ?_
              refine jm_lshl (pc := 109) dM_compare_109 ?_
              refine jm_lor (pc := 110) dM_compare_110 ?_
              refine jm_lstore (pc := 111) dM_compare_111 (by decide) ?_
              refine jm_iinc (pc := 113) dM_compare_113 rfl (by decide) ?_
              refine jm_goto (pc := 116) (tgt := 6) dM_compare_116 (by decide) ?_
              first
                | exact absurd rfl h60
                | exact absurd h60 (by decide)
                | (have hb : (if s = 8 then decide (0 < k) else oB o k) = true := by
                     first
                       | (rw [if_pos (show s = 8 from (nI_eq (a := s) (b := 8) (by omega) (by decide)).mp h25)]
                          exact decide_eq_true (Nat.pos_of_ne_zero (fun q => h30 (by rw [q]; decide))))
                       | (rw [if_neg (show ¬ s = 8 from fun q => h25 (by rw [q]; rfl))]
                          exact (oB_iff (by omega)).mp h48)
                   refine MS.to (ih (k + 1) _ _ (if S.toBitVec.getLsbD (vr k) = true then acc ||| (1 <<< (nI k &&& 31)) else acc) _ _ (ni1 k) (by omega) (by omega) ?_) rfl rfl (by
                     first
                       | (rw [if_pos (jb_ne0 h88), nI_clamp (by omega)]
                          exact sI_sI)
                       | rw [if_neg (jb_eq0 h88)])
                   rw [← hS, show w - k = (w - (k + 1)) + 1 by omega]
                   conv => rhs; unfold cmF
                   rw [if_pos hb]
                   rfl)
                | (have hb : ¬ (if s = 8 then decide (0 < k) else oB o k) = true := by
                     first
                       | (rw [if_pos (show s = 8 from (nI_eq (a := s) (b := 8) (by omega) (by decide)).mp h25)]
                          intro q
                          exact nI_nle (of_decide_eq_true q) (by omega) h30)
                       | (rw [if_neg (show ¬ s = 8 from fun q => h25 (by rw [q]; rfl))]
                          exact fun q => h48 ((oB_iff (by omega)).mpr q))
                   refine ih (k + 1) _ _ acc _ _ (ni1 k) (by omega) (by omega) ?_
                   rw [← hS, show w - k = (w - (k + 1)) + 1 by omega]
                   conv => rhs; unfold cmF
                   rw [if_neg hb])
            · refine jm_aload_n (pc := 91) dM_compare_91 rfl ?_
              refine jm_getq (pc := 92) lM_81 dM_compare_92 rfl rfl (hm 29 rfl) ?_
              refine jm_iload_n (pc := 95) dM_compare_95 rfl ?_
              first | refine jm_dup2_2 (pc := 96) dM_compare_96 rfl ?_ | refine jm_dup2_11 (pc := 96) dM_compare_96 rfl rfl ?_
              refine jm_iald (pc := 97) dM_compare_97 rfl (by decide) rfl (fun _ => rfl) ?hin ?_
              case hin =>
                exact vp_in_nI (N := 250) (by omega) (by decide)
              refine jm_iconst (pc := 98) (v := 1) dM_compare_98 (by decide) ?_
              refine jm_iload (pc := 99) dM_compare_99 rfl ?_
              refine jm_ishl (pc := 101) dM_compare_101 ?_
              refine jm_ior (pc := 102) dM_compare_102 ?_
              rw [nI_clamp (by omega), sI_eq]
              refine jm_iast (pc := 103) dM_compare_103 rfl (by decide) rfl (fun _ => rfl) ?hin ?_
              case hin =>
                exact vp_in_nI (N := 250) (by omega) (by decide)
              refine jm_lload (pc := 104) dM_compare_104 rfl ?_
              refine jm_lconst (pc := 106) (v := 1) dM_compare_106 (by decide) ?_
              refine jm_iload (pc := 107) dM_compare_107 rfl ?_
              refine jm_lshl (pc := 109) dM_compare_109 ?_
              refine jm_lor (pc := 110) dM_compare_110 ?_
              refine jm_lstore (pc := 111) dM_compare_111 (by decide) ?_
              refine jm_iinc (pc := 113) dM_compare_113 rfl (by decide) ?_
              refine jm_goto (pc := 116) (tgt := 6) dM_compare_116 (by decide) ?_
              first
                | exact absurd rfl h60
                | exact absurd h60 (by decide)
                | (have hb : (if s = 8 then decide (0 < k) else oB o k) = true := by
                     first
                       | (rw [if_pos (show s = 8 from (nI_eq (a := s) (b := 8) (by omega) (by decide)).mp h25)]
                          exact decide_eq_true (Nat.pos_of_ne_zero (fun q => h30 (by rw [q]; decide))))
                       | (rw [if_neg (show ¬ s = 8 from fun q => h25 (by rw [q]; rfl))]
                          exact (oB_iff (by omega)).mp h48)
                   refine MS.to (ih (k + 1) _ _ (if S.toBitVec.getLsbD (vr k) = true then acc ||| (1 <<< (nI k &&& 31)) else acc) _ _ (ni1 k) (by omega) (by omega) ?_) rfl rfl (by
                     first
                       | (rw [if_pos (jb_ne0 h88), nI_clamp (by omega)]
                          exact sI_sI)
                       | rw [if_neg (jb_eq0 h88)])
                   rw [← hS, show w - k = (w - (k + 1)) + 1 by omega]
                   conv => rhs; unfold cmF
                   rw [if_pos hb]
                   rfl)
                | (have hb : ¬ (if s = 8 then decide (0 < k) else oB o k) = true := by
                     first
                       | (rw [if_pos (show s = 8 from (nI_eq (a := s) (b := 8) (by omega) (by decide)).mp h25)]
                          intro q
                          exact nI_nle (of_decide_eq_true q) (by omega) h30)
                       | (rw [if_neg (show ¬ s = 8 from fun q => h25 (by rw [q]; rfl))]
                          exact fun q => h48 ((oB_iff (by omega)).mpr q))
                   refine ih (k + 1) _ _ acc _ _ (ni1 k) (by omega) (by omega) ?_
                   rw [← hS, show w - k = (w - (k + 1)) + 1 by omega]
                   conv => rhs; unfold cmF
                   rw [if_neg hb])
          · refine jm_goto (pc := 63) (tgt := 113) dM_compare_63 (by decide) ?_
            refine jm_iinc (pc := 113) dM_compare_113 rfl (by decide) ?_
            refine jm_goto (pc := 116) (tgt := 6) dM_compare_116 (by decide) ?_
            first
              | exact absurd rfl h60
              | exact absurd h60 (by decide)
              | (have hb : (if s = 8 then decide (0 < k) else oB o k) = true := by
                   first
                     | (rw [if_pos (show s = 8 from (nI_eq (a := s) (b := 8) (by omega) (by decide)).mp h25)]
                        exact decide_eq_true (Nat.pos_of_ne_zero (fun q => h30 (by rw [q]; decide))))
                     | (rw [if_neg (show ¬ s = 8 from fun q => h25 (by rw [q]; rfl))]
                        exact (oB_iff (by omega)).mp h48)
                 refine MS.to (ih (k + 1) _ _ (if S.toBitVec.getLsbD (vr k) = true then acc ||| (1 <<< (nI k &&& 31)) else acc) _ _ (ni1 k) (by omega) (by omega) ?_) rfl rfl (by
                   first
                     | (rw [if_pos (jb_ne0 h88), nI_clamp (by omega)]
                        exact sI_sI)
                     | rw [if_neg (jb_eq0 h88)])
                 rw [← hS, show w - k = (w - (k + 1)) + 1 by omega]
                 conv => rhs; unfold cmF
                 rw [if_pos hb]
                 rfl)
              | (have hb : ¬ (if s = 8 then decide (0 < k) else oB o k) = true := by
                   first
                     | (rw [if_pos (show s = 8 from (nI_eq (a := s) (b := 8) (by omega) (by decide)).mp h25)]
                        intro q
                        exact nI_nle (of_decide_eq_true q) (by omega) h30)
                     | (rw [if_neg (show ¬ s = 8 from fun q => h25 (by rw [q]; rfl))]
                        exact fun q => h48 ((oB_iff (by omega)).mpr q))
                 refine ih (k + 1) _ _ acc _ _ (ni1 k) (by omega) (by omega) ?_
                 rw [← hS, show w - k = (w - (k + 1)) + 1 by omega]
                 conv => rhs; unfold cmF
                 rw [if_neg hb])
      · refine jm_iload (pc := 28) dM_compare_28 rfl ?_
        refine jm_if_le (pc := 30) (tgt := 37) dM_compare_30 (by decide) (fun h30 => ?_) (fun h30 => ?_)
        · refine jm_iconst (pc := 37) (v := 0) dM_compare_37 (by decide) ?_
          refine jm_goto (pc := 38) (tgt := 56) dM_compare_38 (by decide) ?_
          refine jm_istore (pc := 56) dM_compare_56 (by decide) ?_
          refine jm_iload (pc := 58) dM_compare_58 rfl ?_
          refine jm_if_ne (pc := 60) (tgt := 66) dM_compare_60 (by decide) (fun h60 => ?_) (fun h60 => ?_)
          · refine jm_aload_n (pc := 66) dM_compare_66 rfl ?_
            refine jm_getq (pc := 67) lM_46 dM_compare_67 rfl rfl (hm 15 rfl) ?_
            refine jm_bipush (pc := 70) (v := 7) dM_compare_70 (by decide) ?_
            refine jm_iload_n (pc := 72) dM_compare_72 rfl ?_
            refine jm_imul (pc := 73) dM_compare_73 ?_
            refine jm_iload (pc := 74) dM_compare_74 rfl ?_
            refine jm_iadd (pc := 76) dM_compare_76 ?_
            rw [e7]
            refine jm_iald (pc := 77) dM_compare_77 rfl (by decide) rfl (fun _ => rfl) ?hin ?_
            case hin =>
              exact vp_in_nI (N := 1750) (by omega) (by decide)
            rw [nI_clamp (by omega), show (sI st0 35 0 i acc).1 24 0 (7 * i + k) = nI (vr k) from (sI_ne (by omega)).trans hva.1]
            refine jm_istore (pc := 78) dM_compare_78 (by decide) ?_
            refine jm_aload_n (pc := 80) dM_compare_80 rfl ?_
            refine jm_lload (pc := 81) dM_compare_81 rfl ?_
            refine jm_iload (pc := 83) dM_compare_83 rfl ?_
            refine jm_callV (pc := 85) (c_M_isIn (d := d - 1) _ hva.2) fM_isIn vM_isIn cM_163 dM_compare_85 rfl rfl rfl rfl (by omega) ⟨Nat.le_refl _, Nat.le_refl _⟩ rfl (Nat.le_of_ble_eq_true rfl) (fun v s2 hq => ?_)
            obtain ⟨rfl, rfl⟩ := hq
            refine jm_if_eq (pc := 88) (tgt := 104) dM_compare_88 (by decide) (fun h88 => ?_) (fun h88 => ?_)
            · refine jm_lload (pc := 104) dM_compare_104 rfl ?_
              refine jm_lconst (pc := 106) (v := 1) dM_compare_106 (by decide) ?_
              refine jm_iload (pc := 107) dM_compare_107 rfl ?_
              refine jm_lshl (pc := 109) dM_compare_109 ?_
              refine jm_lor (pc := 110) dM_compare_110 ?_
              refine jm_lstore (pc := 111) dM_compare_111 (by decide) ?_
              refine jm_iinc (pc := 113) dM_compare_113 rfl (by decide) ?_
              refine jm_goto (pc := 116) (tgt := 6) dM_compare_116 (by decide) ?_
              first
                | exact absurd rfl h60
                | exact absurd h60 (by decide)
                | (have hb : (if s = 8 then decide (0 < k) else oB o k) = true := by
                     first
                       | (rw [if_pos (show s = 8 from (nI_eq (a := s) (b := 8) (by omega) (by decide)).mp h25)]
                          exact decide_eq_true (Nat.pos_of_ne_zero (fun q => h30 (by rw [q]; decide))))
                       | (rw [if_neg (show ¬ s = 8 from fun q => h25 (by rw [q]; rfl))]
                          exact (oB_iff (by omega)).mp h48)
                   refine MS.to (ih (k + 1) _ _ (if S.toBitVec.getLsbD (vr k) = true then acc ||| (1 <<< (nI k &&& 31)) else acc) _ _ (ni1 k) (by omega) (by omega) ?_) rfl rfl (by
                     first
                       | (rw [if_pos (jb_ne0 h88), nI_clamp (by omega)]
                          exact sI_sI)
                       | rw [if_neg (jb_eq0 h88)])
                   rw [← hS, show w - k = (w - (k + 1)) + 1 by omega]
                   conv => rhs; unfold cmF
                   rw [if_pos hb]
                   rfl)
                | (have hb : ¬ (if s = 8 then decide (0 < k) else oB o k) = true := by
                     first
                       | (rw [if_pos (show s = 8 from (nI_eq (a := s) (b := 8) (by omega) (by decide)).mp h25)]
                          intro q
                          exact nI_nle (of_decide_eq_true q) (by omega) h30)
                       | (rw [if_neg (show ¬ s = 8 from fun q => h25 (by rw [q]; rfl))]
                          exact fun q => h48 ((oB_iff (by omega)).mpr q))
                   refine ih (k + 1) _ _ acc _ _ (ni1 k) (by omega) (by omega) ?_
                   rw [← hS, show w - k = (w - (k + 1)) + 1 by omega]
                   conv => rhs; unfold cmF
                   rw [if_neg hb])
            · refine jm_aload_n (pc := 91) dM_compare_91 rfl ?_
              refine jm_getq (pc := 92) lM_81 dM_compare_92 rfl rfl (hm 29 rfl) ?_
              refine jm_iload_n (pc := 95) dM_compare_95 rfl ?_
              first | refine jm_dup2_2 (pc := 96) dM_compare_96 rfl ?_ | refine jm_dup2_11 (pc := 96) dM_compare_96 rfl rfl ?_
              refine jm_iald (pc := 97) dM_compare_97 rfl (by decide) rfl (fun _ => rfl) ?hin ?_
              case hin =>
                exact vp_in_nI (N := 250) (by omega) (by decide)
              refine jm_iconst (pc := 98) (v := 1) dM_compare_98 (by decide) ?_
              refine jm_iload (pc := 99) dM_compare_99 rfl ?_
              refine jm_ishl (pc := 101) dM_compare_101 ?_
              refine jm_ior (pc := 102) dM_compare_102 ?_
              rw [nI_clamp (by omega), sI_eq]
              refine jm_iast (pc := 103) dM_compare_103 rfl (by decide) rfl (fun _ => rfl) ?hin ?_
              case hin =>
                exact vp_in_nI (N := 250) (by omega) (by decide)
              refine jm_lload (pc := 104) dM_compare_104 rfl ?_
              refine jm_lconst (pc := 106) (v := 1) dM_compare_106 (by decide) ?_
              refine jm_iload (pc := 107) dM_compare_107 rfl ?_
              refine jm_lshl (pc := 109) dM_compare_109 ?_
              refine jm_lor (pc := 110) dM_compare_110 ?_
              refine jm_lstore (pc := 111) dM_compare_111 (by decide) ?_
              refine jm_iinc (pc := 113) dM_compare_113 rfl (by decide) ?_
              refine jm_goto (pc := 116) (tgt := 6) dM_compare_116 (by decide) ?_
              first
                | exact absurd rfl h60
                | exact absurd h60 (by decide)
                | (have hb : (if s = 8 then decide (0 < k) else oB o k) = true := by
                     first
                       | (rw [if_pos (show s = 8 from (nI_eq (a := s) (b := 8) (by omega) (by decide)).mp h25)]
                          exact decide_eq_true (Nat.pos_of_ne_zero (fun q => h30 (by rw [q]; decide))))
                       | (rw [if_neg (show ¬ s = 8 from fun q => h25 (by rw [q]; rfl))]
                          exact (oB_iff (by omega)).mp h48)
                   refine MS.to (ih (k + 1) _ _ (if S.toBitVec.getLsbD (vr k) = true then acc ||| (1 <<< (nI k &&& 31)) else acc) _ _ (ni1 k) (by omega) (by omega) ?_) rfl rfl (by
                     first
                       | (rw [if_pos (jb_ne0 h88), nI_clamp (by omega)]
                          exact sI_sI)
                       | rw [if_neg (jb_eq0 h88)])
                   rw [← hS, show w - k = (w - (k + 1)) + 1 by omega]
                   conv => rhs; unfold cmF
                   rw [if_pos hb]
                   rfl)
                | (have hb : ¬ (if s = 8 then decide (0 < k) else oB o k) = true := by
                     first
                       | (rw [if_pos (show s = 8 from (nI_eq (a := s) (b := 8) (by omega) (by decide)).mp h25)]
                          intro q
                          exact nI_nle (of_decide_eq_true q) (by omega) h30)
                       | (rw [if_neg (show ¬ s = 8 from fun q => h25 (by rw [q]; rfl))]
                          exact fun q => h48 ((oB_iff (by omega)).mpr q))
                   refine ih (k + 1) _ _ acc _ _ (ni1 k) (by omega) (by omega) ?_
                   rw [← hS, show w - k = (w - (k + 1)) + 1 by omega]
                   conv => rhs; unfold cmF
                   rw [if_neg hb])
          · refine jm_goto (pc := 63) (tgt := 113) dM_compare_63 (by decide) ?_
            refine jm_iinc (pc := 113) dM_compare_113 rfl (by decide) ?_
            refine jm_goto (pc := 116) (tgt := 6) dM_compare_116 (by decide) ?_
            first
              | exact absurd rfl h60
              | exact absurd h60 (by decide)
              | (have hb : (if s = 8 then decide (0 < k) else oB o k) = true := by
                   first
                     | (rw [if_pos (show s = 8 from (nI_eq (a := s) (b := 8) (by omega) (by decide)).mp h25)]
                        exact decide_eq_true (Nat.pos_of_ne_zero (fun q => h30 (by rw [q]; decide))))
                     | (rw [if_neg (show ¬ s = 8 from fun q => h25 (by rw [q]; rfl))]
                        exact (oB_iff (by omega)).mp h48)
                 refine MS.to (ih (k + 1) _ _ (if S.toBitVec.getLsbD (vr k) = true then acc ||| (1 <<< (nI k &&& 31)) else acc) _ _ (ni1 k) (by omega) (by omega) ?_) rfl rfl (by
                   first
                     | (rw [if_pos (jb_ne0 h88), nI_clamp (by omega)]
                        exact sI_sI)
                     | rw [if_neg (jb_eq0 h88)])
                 rw [← hS, show w - k = (w - (k + 1)) + 1 by omega]
                 conv => rhs; unfold cmF
                 rw [if_pos hb]
                 rfl)
              | (have hb : ¬ (if s = 8 then decide (0 < k) else oB o k) = true := by
                   first
                     | (rw [if_pos (show s = 8 from (nI_eq (a := s) (b := 8) (by omega) (by decide)).mp h25)]
                        intro q
                        exact nI_nle (of_decide_eq_true q) (by omega) h30)
                     | (rw [if_neg (show ¬ s = 8 from fun q => h25 (by rw [q]; rfl))]
                        exact fun q => h48 ((oB_iff (by omega)).mpr q))
                 refine ih (k + 1) _ _ acc _ _ (ni1 k) (by omega) (by omega) ?_
                 rw [← hS, show w - k = (w - (k + 1)) + 1 by omega]
                 conv => rhs; unfold cmF
                 rw [if_neg hb])
        · refine jm_iconst (pc := 33) (v := 1) dM_compare_33 (by decide) ?_
          refine jm_goto (pc := 34) (tgt := 56) dM_compare_34 (by decide) ?_
          refine jm_istore (pc := 56) dM_compare_56 (by decide) ?_
          refine jm_iload (pc := 58) dM_compare_58 rfl ?_
          refine jm_if_ne (pc := 60) (tgt := 66) dM_compare_60 (by decide) (fun h60 => ?_) (fun h60 => ?_)
          · refine jm_aload_n (pc := 66) dM_compare_66 rfl ?_
            refine jm_getq (pc := 67) lM_46 dM_compare_67 rfl rfl (hm 15 rfl) ?_
            refine jm_bipush (pc := 70) (v := 7) dM_compare_70 (by decide) ?_
            refine jm_iload_n (pc := 72) dM_compare_72 rfl ?_
            refine jm_imul (pc := 73) dM_compare_73 ?_
            refine jm_iload (pc := 74) dM_compare_74 rfl ?_
            refine jm_iadd (pc := 76) dM_compare_76 ?_
            rw [e7]
            refine jm_iald (pc := 77) dM_compare_77 rfl (by decide) rfl (fun _ => rfl) ?hin ?_
            case hin =>
              exact vp_in_nI (N := 1750) (by omega) (by decide)
            rw [nI_clamp (by omega), show (sI st0 35 0 i acc).1 24 0 (7 * i + k) = nI (vr k) from (sI_ne (by omega)).trans hva.1]
            refine jm_istore (pc := 78) dM_compare_78 (by decide) ?_
            refine jm_aload_n (pc := 80) dM_compare_80 rfl ?_
            refine jm_lload (pc := 81) dM_compare_81 rfl ?_
            refine jm_iload (pc := 83) dM_compare_83 rfl ?_
            refine jm_callV (pc := 85) (c_M_isIn (d := d - 1) _ hva.2) fM_isIn vM_isIn cM_163 dM_compare_85 rfl rfl rfl rfl (by omega) ⟨Nat.le_refl _, Nat.le_refl _⟩ rfl (Nat.le_of_ble_eq_true rfl) (fun v s2 hq => ?_)
            obtain ⟨rfl, rfl⟩ := hq
            refine jm_if_eq (pc := 88) (tgt := 104) dM_compare_88 (by decide) (fun h88 => ?_) (fun h88 => ?_)
            · refine jm_lload (pc := 104) dM_compare_104 rfl ?_
              refine jm_lconst (pc := 106) (v := 1) dM_compare_106 (by decide) ?_
              refine jm_iload (pc := 107) dM_compare_107 rfl ?_
              refine jm_lshl (pc := 109) dM_compare_109 ?_
              refine jm_lor (pc := 110) dM_compare_110 ?_
              refine jm_lstore (pc := 111) dM_compare_111 (by decide) ?_
              refine jm_iinc (pc := 113) dM_compare_113 rfl (by decide) ?_
              refine jm_goto (pc := 116) (tgt := 6) dM_compare_116 (by decide) ?_
              first
                | exact absurd rfl h60
                | exact absurd h60 (by decide)
                | (have hb : (if s = 8 then decide (0 < k) else oB o k) = true := by
                     first
                       | (rw [if_pos (show s = 8 from (nI_eq (a := s) (b := 8) (by omega) (by decide)).mp h25)]
                          exact decide_eq_true (Nat.pos_of_ne_zero (fun q => h30 (by rw [q]; decide))))
                       | (rw [if_neg (show ¬ s = 8 from fun q => h25 (by rw [q]; rfl))]
                          exact (oB_iff (by omega)).mp h48)
                   refine MS.to (ih (k + 1) _ _ (if S.toBitVec.getLsbD (vr k) = true then acc ||| (1 <<< (nI k &&& 31)) else acc) _ _ (ni1 k) (by omega) (by omega) ?_) rfl rfl (by
                     first
                       | (rw [if_pos (jb_ne0 h88), nI_clamp (by omega)]
                          exact sI_sI)
                       | rw [if_neg (jb_eq0 h88)])
                   rw [← hS, show w - k = (w - (k + 1)) + 1 by omega]
                   conv => rhs; unfold cmF
                   rw [if_pos hb]
                   rfl)
                | (have hb : ¬ (if s = 8 then decide (0 < k) else oB o k) = true := by
                     first
                       | (rw [if_pos (show s = 8 from (nI_eq (a := s) (b := 8) (by omega) (by decide)).mp h25)]
                          intro q
                          exact nI_nle (of_decide_eq_true q) (by omega) h30)
                       | (rw [if_neg (show ¬ s = 8 from fun q => h25 (by rw [q]; rfl))]
                          exact fun q => h48 ((oB_iff (by omega)).mpr q))
                   refine ih (k + 1) _ _ acc _ _ (ni1 k) (by omega) (by omega) ?_
                   rw [← hS, show w - k = (w - (k + 1)) + 1 by omega]
                   conv => rhs; unfold cmF
                   rw [if_neg hb])
            · refine jm_aload_n (pc := 91) dM_compare_91 rfl ?_
              refine jm_getq (pc := 92) lM_81 dM_compare_92 rfl rfl (hm 29 rfl) ?_
              refine jm_iload_n (pc := 95) dM_compare_95 rfl ?_
              first | refine jm_dup2_2 (pc := 96) dM_compare_96 rfl ?_ | refine jm_dup2_11 (pc := 96) dM_compare_96 rfl rfl ?_
              refine jm_iald (pc := 97) dM_compare_97 rfl (by decide) rfl (fun _ => rfl) ?hin ?_
              case hin =>
                exact vp_in_nI (N := 250) (by omega) (by decide)
              refine jm_iconst (pc := 98) (v := 1) dM_compare_98 (by decide) ?_
              refine jm_iload (pc := 99) dM_compare_99 rfl ?_
              refine jm_ishl (pc := 101) dM_compare_101 ?_
              refine jm_ior (pc := 102) dM_compare_102 ?_
              rw [nI_clamp (by omega), sI_eq]
              refine jm_iast (pc := 103) dM_compare_103 rfl (by decide) rfl (fun _ => rfl) ?hin ?_
              case hin =>
                exact vp_in_nI (N := 250) (by omega) (by decide)
              refine jm_lload (pc := 104) dM_compare_104 rfl ?_
              refine jm_lconst (pc := 106) (v := 1) dM_compare_106 (by decide) ?_
              refine jm_iload (pc := 107) dM_compare_107 rfl ?_
              refine jm_lshl (pc := 109) dM_compare_109 ?_
              refine jm_lor (pc := 110) dM_compare_110 ?_
              refine jm_lstore (pc := 111) dM_compare_111 (by decide) ?_
              refine jm_iinc (pc := 113) dM_compare_113 rfl (by decide) ?_
              refine jm_goto (pc := 116) (tgt := 6) dM_compare_116 (by decide) ?_
              first
                | exact absurd rfl h60
                | exact absurd h60 (by decide)
                | (have hb : (if s = 8 then decide (0 < k) else oB o k) = true := by
                     first
                       | (rw [if_pos (show s = 8 from (nI_eq (a := s) (b := 8) (by omega) (by decide)).mp h25)]
                          exact decide_eq_true (Nat.pos_of_ne_zero (fun q => h30 (by rw [q]; decide))))
                       | (rw [if_neg (show ¬ s = 8 from fun q => h25 (by rw [q]; rfl))]
                          exact (oB_iff (by omega)).mp h48)
                   refine MS.to (ih (k + 1) _ _ (if S.toBitVec.getLsbD (vr k) = true then acc ||| (1 <<< (nI k &&& 31)) else acc) _ _ (ni1 k) (by omega) (by omega) ?_) rfl rfl (by
                     first
                       | (rw [if_pos (jb_ne0 h88), nI_clamp (by omega)]
                          exact sI_sI)
                       | rw [if_neg (jb_eq0 h88)])
                   rw [← hS, show w - k = (w - (k + 1)) + 1 by omega]
                   conv => rhs; unfold cmF
                   rw [if_pos hb]
                   rfl)
                | (have hb : ¬ (if s = 8 then decide (0 < k) else oB o k) = true := by
                     first
                       | (rw [if_pos (show s = 8 from (nI_eq (a := s) (b := 8) (by omega) (by decide)).mp h25)]
                          intro q
                          exact nI_nle (of_decide_eq_true q) (by omega) h30)
                       | (rw [if_neg (show ¬ s = 8 from fun q => h25 (by rw [q]; rfl))]
                          exact fun q => h48 ((oB_iff (by omega)).mpr q))
                   refine ih (k + 1) _ _ acc _ _ (ni1 k) (by omega) (by omega) ?_
                   rw [← hS, show w - k = (w - (k + 1)) + 1 by omega]
                   conv => rhs; unfold cmF
                   rw [if_neg hb])
          · refine jm_goto (pc := 63) (tgt := 113) dM_compare_63 (by decide) ?_
            refine jm_iinc (pc := 113) dM_compare_113 rfl (by decide) ?_
            refine jm_goto (pc := 116) (tgt := 6) dM_compare_116 (by decide) ?_
            first
              | exact absurd rfl h60
              | exact absurd h60 (by decide)
              | (have hb : (if s = 8 then decide (0 < k) else oB o k) = true := by
                   first
                     | (rw [if_pos (show s = 8 from (nI_eq (a := s) (b := 8) (by omega) (by decide)).mp h25)]
                        exact decide_eq_true (Nat.pos_of_ne_zero (fun q => h30 (by rw [q]; decide))))
                     | (rw [if_neg (show ¬ s = 8 from fun q => h25 (by rw [q]; rfl))]
                        exact (oB_iff (by omega)).mp h48)
                 refine MS.to (ih (k + 1) _ _ (if S.toBitVec.getLsbD (vr k) = true then acc ||| (1 <<< (nI k &&& 31)) else acc) _ _ (ni1 k) (by omega) (by omega) ?_) rfl rfl (by
                   first
                     | (rw [if_pos (jb_ne0 h88), nI_clamp (by omega)]
                        exact sI_sI)
                     | rw [if_neg (jb_eq0 h88)])
                 rw [← hS, show w - k = (w - (k + 1)) + 1 by omega]
                 conv => rhs; unfold cmF
                 rw [if_pos hb]
                 rfl)
              | (have hb : ¬ (if s = 8 then decide (0 < k) else oB o k) = true := by
                   first
                     | (rw [if_pos (show s = 8 from (nI_eq (a := s) (b := 8) (by omega) (by decide)).mp h25)]
                        intro q
                        exact nI_nle (of_decide_eq_true q) (by omega) h30)
                     | (rw [if_neg (show ¬ s = 8 from fun q => h25 (by rw [q]; rfl))]
                        exact fun q => h48 ((oB_iff (by omega)).mpr q))
                 refine ih (k + 1) _ _ acc _ _ (ni1 k) (by omega) (by omega) ?_
                 rw [← hS, show w - k = (w - (k + 1)) + 1 by omega]
                 conv => rhs; unfold cmF
                 rw [if_neg hb])
set_option maxRecDepth 100000 in
set_option maxHeartbeats 4000000 in
theorem c_M_compare {i w s : Nat} {vr : Nat → Nat} {o : Int32} {S : Int64} (hm : mF st) (hv : mV st i w vr) (hs : st.1 15 0 i = nI s) (hs9 : s < 100) (hd : 1 ≤ d) : MC l D mM_compare d 0 0 [vR (some (5, 0)), vI (nI i), vI o, vL S] st (fun v s' => s' = sI st 35 0 i (cmF (fun k => if s = 8 then decide (0 < k) else oB o k) vr w 0 S (st.1 35 0 i)) ∧ v = none) := by
  refine jm_start (ls0 := [some (vR (some (5, 0))), some (vI (nI i)), some (vI o), some (vL S), none, none, none, none, none, none]) (by decide) (Nat.le_of_ble_eq_true rfl) rfl ?_
  refine jm_lload_n (pc := 0) dM_compare_0 rfl ?_
  refine jm_lstore (pc := 1) dM_compare_1 (by decide) ?_
  refine jm_iconst (pc := 3) (v := 0) dM_compare_3 (by decide) ?_
  refine jm_istore (pc := 4) dM_compare_4 (by decide) ?_
  exact MS.to (lp_M_compare hm hv hs hs9 hd (w + 1) 0 _ _ (st.1 35 0 i) _ _ rfl (by omega) (by omega) rfl) rfl rfl sI_self.symm
end CM2
end
section
theorem cm_I {st : aS} {i : Nat} {w : Int32} {B : Int64} {a b c : Nat} (h : a ≠ 31 ∧ a ≠ 34) : (cm st i w B).1 a b c = st.1 a b c := by
  show (sI (sI st 31 0 i 1) 34 0 i w).1 a b c = _
  rw [sI_ne (by omega), sI_ne (by omega)]
theorem mV.cm {st : aS} {i j w : Nat} {vr : Nat → Nat} {wy : Int32} {B : Int64} (h : mV st i w vr) : mV (cm st j wy B) i w vr := ⟨(cm_I (by omega)).trans h.1, h.2.1, h.2.2.1, fun k hk => ⟨(cm_I (by omega)).trans (h.2.2.2 k hk).1, (h.2.2.2 k hk).2⟩⟩
theorem mV.sI {st : aS} {i w a b c : Nat} {vr : Nat → Nat} {x : Int32} (h : mV st i w vr) (ha : a ≠ 23 ∧ a ≠ 24) : mV (sI st a b c x) i w vr := ⟨(sI_ne (by omega)).trans h.1, h.2.1, h.2.2.1, fun k hk => ⟨(sI_ne (by omega)).trans (h.2.2.2 k hk).1, (h.2.2.2 k hk).2⟩⟩
theorem allF_succ {o : Int32} {vr : Nat → Nat} {S : Int64} {k : Nat} : allF o vr S (k + 1) ↔ allF o vr S k ∧ (oB o k = true ∨ gB S (vr k)) := by
  constructor
  · intro h
    exact ⟨fun j hj => h j (by omega), h k (by omega)⟩
  · rintro ⟨h1, h2⟩ j hj
    by_cases e : j = k
    · subst e; exact h2
    · exact h1 j (by omega)
theorem e4 (p m : Nat) : (4 : Int32) * nI p + nI m = nI (4 * p + m) := by
  have : (4 : Int32) * nI p = nI (4 * p) := pk_mul 4 p
  rw [this, nI_add]
end
section
section CM3
variable {l : Launch} {D : mD} {d : Nat} {st : aS} {E : EE}
set_option maxRecDepth 100000 in
set_option maxHeartbeats 4000000 in
theorem li_M_call {i w p m : Nat} {vr : Nat → Nat} {o : Int32} {S : Int64} {Q : Option aV → aS → Prop} (hm : mF st) (hv : mV st i w vr) (hd : 1 ≤ d) (hgo : ∀ (x7 : Int32) (x8 : Option aV), ((x7 = 1 ∧ allF o vr S w) ∨ (x7 = 0 ∧ ¬ allF o vr S w)) → MS l D mM_call d 0 0 Q 0 0 103 [some (vR (some (5, 0))), some (vI (nI i)), some (vL S), none, some (vI (nI p)), some (vI (nI m)), some (vI o), some (vI x7), x8] [] st) : ∀ (n k : Nat) (x7 x : Int32), x = nI k → k ≤ w → w - k < n → ((x7 = 1 ∧ allF o vr S k) ∨ (x7 = 0 ∧ ¬ allF o vr S k)) → MS l D mM_call d 0 0 Q 0 0 43 [some (vR (some (5, 0))), some (vI (nI i)), some (vL S), none, some (vI (nI p)), some (vI (nI m)), some (vI o), some (vI x7), some (vI x)] [] st := by
  intro n
  induction n with
  | zero =>
    intro k x7 x hx hk hn
    omega
  | succ n ih =>
    intro k x7 x hx hk hn h7
    have h250 := hv.2.2.1
    have hw7 := hv.2.1
    refine jm_iload (pc := 43) dM_call_43 rfl ?_
    refine jm_aload_n (pc := 45) dM_call_45 rfl ?_
    refine jm_getq (pc := 46) lM_43 dM_call_46 rfl rfl (hm 14 rfl) ?_
    refine jm_iload_n (pc := 49) dM_call_49 rfl ?_
    refine jm_iald (pc := 50) dM_call_50 rfl (by decide) rfl (fun _ => rfl) ?hin ?_
    case hin =>
      exact vp_in_nI (N := 250) (by omega) (by decide)
    rw [nI_clamp (by omega), hv.1]
    refine jm_icmp_ge (pc := 51) (tgt := 103) dM_call_51 (by decide) (fun h51 => ?_) (fun h51 => ?_)
    · have e : k = w := by
        rcases Nat.lt_or_ge k w with q | q
        · exact absurd (by rw [hx] at h51; exact h51) (nI_ge q (by omega))
        · omega
      subst e
      exact hgo _ _ h7
    · have hkw : k < w := Nat.lt_of_not_le fun q => h51 (by rw [hx]; exact nI_le q (by omega))
      subst hx
      have hva := hv.2.2.2 k hkw
      refine jm_iload (pc := 54) dM_call_54 rfl ?_
      refine jm_if_eq (pc := 56) (tgt := 94) dM_call_56 (by decide) (fun h56 => ?_) (fun h56 => ?_)
      · refine jm_iconst (pc := 94) (v := 0) dM_call_94 (by decide) ?_
        refine jm_istore (pc := 95) dM_call_95 (by decide) ?_
        refine jm_iinc (pc := 97) dM_call_97 rfl (by decide) ?_
        refine jm_goto (pc := 100) (tgt := 43) dM_call_100 (by decide) ?_
        refine ih (k + 1) _ _ (ni1 k) (by omega) (by omega) ?_
        rw [allF_succ]
        first
          | exact Or.inr ⟨rfl, fun q => by rcases h7 with z | z; exact absurd (z.1.symm.trans h56) (by decide); exact z.2 q.1⟩
          | exact Or.inl ⟨rfl, (by rcases h7 with z | z; exact z.2; exact absurd z.1 h56), Or.inl ((oB_iff (by omega)).mp h67)⟩
          | exact Or.inl ⟨rfl, (by rcases h7 with z | z; exact z.2; exact absurd z.1 h56), Or.inr (show S.toBitVec.getLsbD (vr k) = true from jb_ne0 h87)⟩
          | exact Or.inr ⟨rfl, fun q => by rcases q.2 with z | z; exact h67 ((oB_iff (by omega)).mpr z); exact jb_eq0 h87 (show S.toBitVec.getLsbD (vr k) = true from z)⟩
      · refine jm_iload (pc := 59) dM_call_59 rfl ?_
        refine jm_iload (pc := 61) dM_call_61 rfl ?_
        refine jm_ishr (pc := 63) dM_call_63 ?_
        refine jm_iconst (pc := 64) (v := 1) dM_call_64 (by decide) ?_
        refine jm_iand (pc := 65) dM_call_65 ?_
        refine jm_iconst (pc := 66) (v := 1) dM_call_66 (by decide) ?_
        refine jm_icmp_eq (pc := 67) (tgt := 90) dM_call_67 (by decide) (fun h67 => ?_) (fun h67 => ?_)
        · refine jm_iconst (pc := 90) (v := 1) dM_call_90 (by decide) ?_
          refine jm_goto (pc := 91) (tgt := 95) dM_call_91 (by decide) ?_
          refine jm_istore (pc := 95) dM_call_95 (by decide) ?_
          refine jm_iinc (pc := 97) dM_call_97 rfl (by decide) ?_
          refine jm_goto (pc := 100) (tgt := 43) dM_call_100 (by decide) ?_
          refine ih (k + 1) _ _ (ni1 k) (by omega) (by omega) ?_
          rw [allF_succ]
          first
            | exact Or.inr ⟨rfl, fun q => by rcases h7 with z | z; exact absurd (z.1.symm.trans h56) (by decide); exact z.2 q.1⟩
            | exact Or.inl ⟨rfl, (by rcases h7 with z | z; exact z.2; exact absurd z.1 h56), Or.inl ((oB_iff (by omega)).mp h67)⟩
            | exact Or.inl ⟨rfl, (by rcases h7 with z | z; exact z.2; exact absurd z.1 h56), Or.inr (show S.toBitVec.getLsbD (vr k) = true from jb_ne0 h87)⟩
            | exact Or.inr ⟨rfl, fun q => by rcases q.2 with z | z; exact h67 ((oB_iff (by omega)).mpr z); exact jb_eq0 h87 (show S.toBitVec.getLsbD (vr k) = true from z)⟩
        · refine jm_aload_n (pc := 70) dM_call_70 rfl ?_
          refine jm_lload_n (pc := 71) dM_call_71 rfl ?_
          refine jm_aload_n (pc := 72) dM_call_72 rfl ?_
          refine jm_getq (pc := 73) lM_46 dM_call_73 rfl rfl (hm 15 rfl) ?_
          refine jm_bipush (pc := 76) (v := 7) dM_call_76 (by decide) ?_
          refine jm_iload_n (pc := 78) dM_call_78 rfl ?_
          refine jm_imul (pc := 79) dM_call_79 ?_
          refine jm_iload (pc := 80) dM_call_80 rfl ?_
          refine jm_iadd (pc := 82) dM_call_82 ?_
          rw [e7]
          refine jm_iald (pc := 83) dM_call_83 rfl (by decide) rfl (fun _ => rfl) ?hin ?_
          case hin =>
            exact vp_in_nI (N := 1750) (by omega) (by decide)
          rw [nI_clamp (by omega), hva.1]
          refine jm_callV (pc := 84) (c_M_isIn (d := d - 1) _ hva.2) fM_isIn vM_isIn cM_163 dM_call_84 rfl rfl rfl rfl (by omega) ⟨Nat.le_refl _, Nat.le_refl _⟩ rfl (Nat.le_of_ble_eq_true rfl) (fun v s2 hq => ?_)
          obtain ⟨rfl, rfl⟩ := hq
          refine jm_if_eq (pc := 87) (tgt := 94) dM_call_87 (by decide) (fun h87 => ?_) (fun h87 => ?_)
          · refine jm_iconst (pc := 94) (v := 0) dM_call_94 (by decide) ?_
            refine jm_istore (pc := 95) dM_call_95 (by decide) ?_
            refine jm_iinc (pc := 97) dM_call_97 rfl (by decide) ?_
            refine jm_goto (pc := 100) (tgt := 43) dM_call_100 (by decide) ?_
            refine ih (k + 1) _ _ (ni1 k) (by omega) (by omega) ?_
            rw [allF_succ]
            first
              | exact Or.inr ⟨rfl, fun q => by rcases h7 with z | z; exact absurd (z.1.symm.trans h56) (by decide); exact z.2 q.1⟩
              | exact Or.inl ⟨rfl, (by rcases h7 with z | z; exact z.2; exact absurd z.1 h56), Or.inl ((oB_iff (by omega)).mp h67)⟩
              | exact Or.inl ⟨rfl, (by rcases h7 with z | z; exact z.2; exact absurd z.1 h56), Or.inr (show S.toBitVec.getLsbD (vr k) = true from jb_ne0 h87)⟩
              | exact Or.inr ⟨rfl, fun q => by rcases q.2 with z | z; exact h67 ((oB_iff (by omega)).mpr z); exact jb_eq0 h87 (show S.toBitVec.getLsbD (vr k) = true from z)⟩
          · refine jm_iconst (pc := 90) (v := 1) dM_call_90 (by decide) ?_
            refine jm_goto (pc := 91) (tgt := 95) dM_call_91 (by decide) ?_
            refine jm_istore (pc := 95) dM_call_95 (by decide) ?_
            refine jm_iinc (pc := 97) dM_call_97 rfl (by decide) ?_
            refine jm_goto (pc := 100) (tgt := 43) dM_call_100 (by decide) ?_
            refine ih (k + 1) _ _ (ni1 k) (by omega) (by omega) ?_
            rw [allF_succ]
            first
              | exact Or.inr ⟨rfl, fun q => by rcases h7 with z | z; exact absurd (z.1.symm.trans h56) (by decide); exact z.2 q.1⟩
              | exact Or.inl ⟨rfl, (by rcases h7 with z | z; exact z.2; exact absurd z.1 h56), Or.inl ((oB_iff (by omega)).mp h67)⟩
              | exact Or.inl ⟨rfl, (by rcases h7 with z | z; exact z.2; exact absurd z.1 h56), Or.inr (show S.toBitVec.getLsbD (vr k) = true from jb_ne0 h87)⟩
              | exact Or.inr ⟨rfl, fun q => by rcases q.2 with z | z; exact h67 ((oB_iff (by omega)).mpr z); exact jb_eq0 h87 (show S.toBitVec.getLsbD (vr k) = true from z)⟩
set_option maxRecDepth 100000 in
set_option maxHeartbeats 4000000 in
theorem lp_M_call {i w p md : Nat} {vr : Nat → Nat} {ou : Nat → Int32} {S : Int64} (hm : mF st) (hv : mV st i w vr) (hs : st.1 15 0 i = nI 12) (hof : st.1 22 0 i = nI p) (hp : p < 60) (hmd : st.1 13 0 p = nI md) (hm4 : md ≤ 4) (hou : ∀ m, m < md → st.1 14 0 (4 * p + m) = ou m) (hd : 2 ≤ d) : ∀ (n m : Nat) (x5 : Int32) (x6 x7 x8 : Option aV), x5 = nI m → m ≤ md → md - m < n → (callR (fun m => insS (ou m) w vr) (rowS w vr 0) S (md - m) m) = (callR (fun m => insS (ou m) w vr) (rowS w vr 0) S (md) 0) → MS l D mM_call d 0 0 (caM st i w vr md ou S (callR (fun m => insS (ou m) w vr) (rowS w vr 0) S (md) 0)) 0 0 11 [some (vR (some (5, 0))), some (vI (nI i)), some (vL S), none, some (vI (nI p)), some (vI x5), x6, x7, x8] [] st := by
  intro n
  induction n with
  | zero =>
    intro m x5 x6 x7 x8 hx hk hn
    omega
  | succ n ih =>
    intro m x5 x6 x7 x8 hx hk hn hS
    have h250 := hv.2.2.1
    have hw7 := hv.2.1
    have h60 : ∀ j, j < w → vr j < 60 := fun j hj => (hv.2.2.2 j hj).2
    refine jm_iload (pc := 11) dM_call_11 rfl ?_
    refine jm_aload_n (pc := 13) dM_call_13 rfl ?_
    refine jm_getq (pc := 14) lM_13 dM_call_14 rfl rfl (hm 3 rfl) ?_
    refine jm_iload (pc := 17) dM_call_17 rfl ?_
    refine jm_iald (pc := 19) dM_call_19 rfl (by decide) rfl (fun _ => rfl) ?hin ?_
    case hin =>
      exact vp_in_nI (N := 60) (by omega) (by decide)
    rw [nI_clamp (by omega), hmd]
    refine jm_icmp_ge (pc := 20) (tgt := 141) dM_call_20 (by decide) (fun h20 => ?_) (fun h20 => ?_)
    · refine jm_vret (pc := 141) dM_call_141 rfl ⟨Nat.le_refl _, Nat.le_refl _⟩ ?_
      have hkw : ¬ m < md := fun q => nI_ge q (by omega) (by rw [hx] at h20; exact h20)
      rw [show md - m = 0 by omega] at hS
      rw [← hS]
      exact ⟨rfl, rfl⟩
    · have hkw : m < md := Nat.lt_of_not_le fun q => h20 (by rw [hx]; exact nI_le q (by omega))
      subst hx
      rw [show md - m = (md - (m + 1)) + 1 by omega] at hS
      refine jm_aload_n (pc := 23) dM_call_23 rfl ?_
      refine jm_getq (pc := 24) lM_16 dM_call_24 rfl rfl (hm 4 rfl) ?_
      refine jm_iconst (pc := 27) (v := 4) dM_call_27 (by decide) ?_
      refine jm_iload (pc := 28) dM_call_28 rfl ?_
      refine jm_imul (pc := 30) dM_call_30 ?_
      refine jm_iload (pc := 31) dM_call_31 rfl ?_
      refine jm_iadd (pc := 33) dM_call_33 ?_
      rw [e4]
      refine jm_iald (pc := 34) dM_call_34 rfl (by decide) rfl (fun _ => rfl) ?hin ?_
      case hin =>
        exact vp_in_nI (N := 240) (by omega) (by decide)
      rw [nI_clamp (by omega), hou m hkw]
      refine jm_istore (pc := 35) dM_call_35 (by decide) ?_
      refine jm_iconst (pc := 37) (v := 1) dM_call_37 (by decide) ?_
      refine jm_istore (pc := 38) dM_call_38 (by decide) ?_
      refine jm_iconst (pc := 40) (v := 0) dM_call_40 (by decide) ?_
      refine jm_istore (pc := 41) dM_call_41 (by decide) ?_
      refine li_M_call (o := ou m) hm hv (by omega) (fun x7 x8 h7 => ?_) (w + 1) 0 _ _ rfl (by omega) (by omega) (Or.inl ⟨rfl, fun j hj => by omega⟩)
      refine jm_iload (pc := 103) dM_call_103 rfl ?_
      refine jm_if_ne (pc := 105) (tgt := 111) dM_call_105 (by decide) (fun h105 => ?_) (fun h105 => ?_)
      · refine jm_aload_n (pc := 111) dM_call_111 rfl ?_
        refine jm_iload_n (pc := 112) dM_call_112 rfl ?_
        refine jm_iload (pc := 113) dM_call_113 rfl ?_
        refine jm_lload_n (pc := 115) dM_call_115 rfl ?_
        refine jm_aload_n (pc := 116) dM_call_116 rfl ?_
        refine jm_iload_n (pc := 117) dM_call_117 rfl ?_
        refine jm_iconst (pc := 118) (v := 0) dM_call_118 (by decide) ?_
        refine jm_callV (pc := 119) (c_M_rowOf (d := d - 1) (fr := 0) hm hv (by omega)) fM_rowOf vM_rowOf cM_159 dM_call_119 rfl rfl rfl rfl (by omega) ⟨Nat.le_refl _, Nat.le_refl _⟩ rfl (Nat.le_of_ble_eq_true rfl) (fun v s2 hq => ?_)
        obtain ⟨rfl, rfl⟩ := hq
        refine jm_lor (pc := 122) dM_call_122 ?_
        refine jm_callV (pc := 123) (c_M_comes (d := d - 1) _ _ hm (by omega)) fM_comes vM_comes cM_167 dM_call_123 rfl rfl rfl rfl (by omega) ⟨Nat.le_refl _, Nat.le_refl _⟩ rfl (Nat.le_of_ble_eq_true rfl) (fun v s2 hq => ?_)
        obtain ⟨rfl, rfl⟩ := hq
        refine jm_aload_n (pc := 126) dM_call_126 rfl ?_
        refine jm_iload_n (pc := 127) dM_call_127 rfl ?_
        refine jm_iload (pc := 128) dM_call_128 rfl ?_
        refine jm_lload_n (pc := 130) dM_call_130 rfl ?_
        refine jm_callV (pc := 131) (c_M_compare (d := d - 1) (st := cm st i (nI m) (S ||| rowS w vr 0)) (s := 12) hm hv.cm ((cm_I (by omega)).trans hs) (by decide) (by omega)) fM_compare vM_compare cM_179 dM_call_131 rfl rfl rfl rfl (by omega) ⟨Nat.le_refl _, Nat.le_refl _⟩ rfl (Nat.le_of_ble_eq_true rfl) (fun v s2 hq => ?_)
        obtain ⟨rfl, rfl⟩ := hq
        refine jm_vret (pc := 134) dM_call_134 rfl ⟨Nat.le_refl _, Nat.le_refl _⟩ ?_
        have hz : insS (ou m) w vr &&& nt S = 0 := (insS_iff (by omega) h60).mpr (by
          rcases h7 with z | z
          · exact z.2
          · exact absurd z.1 h105)
        rw [← hS]
        refine ⟨rfl, ?_⟩
        rw [show callR (fun m => insS (ou m) w vr) (rowS w vr 0) S (md - (m + 1) + 1) m = some (nI m, rowS w vr 0) from if_pos hz]
        refine ⟨m, hkw, rfl, ?_⟩
        rw [cm_I (by omega)]
        rfl
      · refine jm_goto (pc := 108) (tgt := 135) dM_call_108 (by decide) ?_
        refine jm_iinc (pc := 135) dM_call_135 rfl (by decide) ?_
        refine jm_goto (pc := 138) (tgt := 11) dM_call_138 (by decide) ?_
        have hz : ¬ insS (ou m) w vr &&& nt S = 0 := fun q => by
          rcases h7 with z | z
          · exact absurd (z.1.symm.trans h105) (by decide)
          · exact z.2 ((insS_iff (by omega) h60).mp q)
        refine ih (m + 1) _ _ _ _ (ni1 m) (by omega) (by omega) ?_
        rw [← hS]
        exact (if_neg hz).symm
set_option maxRecDepth 100000 in
set_option maxHeartbeats 4000000 in
theorem c_M_call {i w p md : Nat} {vr : Nat → Nat} {ou : Nat → Int32} {S : Int64} (hm : mF st) (hv : mV st i w vr) (hs : st.1 15 0 i = nI 12) (hof : st.1 22 0 i = nI p) (hp : p < 60) (hmd : st.1 13 0 p = nI md) (hm4 : md ≤ 4) (hou : ∀ m, m < md → st.1 14 0 (4 * p + m) = ou m) (hd : 2 ≤ d) : MC l D mM_call d 0 0 [vR (some (5, 0)), vI (nI i), vL S] st (caM st i w vr md ou S (callR (fun m => insS (ou m) w vr) (rowS w vr 0) S (md) 0)) := by
  refine jm_start (ls0 := [some (vR (some (5, 0))), some (vI (nI i)), some (vL S), none, none, none, none, none, none]) (by decide) (Nat.le_of_ble_eq_true rfl) rfl ?_
  have h250 := hv.2.2.1
  refine jm_aload_n (pc := 0) dM_call_0 rfl ?_
  refine jm_getq (pc := 1) lM_40 dM_call_1 rfl rfl (hm 13 rfl) ?_
  refine jm_iload_n (pc := 4) dM_call_4 rfl ?_
  refine jm_iald (pc := 5) dM_call_5 rfl (by decide) rfl (fun _ => rfl) ?hin ?_
  case hin =>
    exact vp_in_nI (N := 250) (by omega) (by decide)
  rw [nI_clamp (by omega), hof]
  refine jm_istore (pc := 6) dM_call_6 (by decide) ?_
  refine jm_iconst (pc := 8) (v := 0) dM_call_8 (by decide) ?_
  refine jm_istore (pc := 9) dM_call_9 (by decide) ?_
  exact lp_M_call hm hv hs hof hp hmd hm4 hou hd (md + 1) 0 _ _ _ _ rfl (by omega) (by omega) rfl
end CM3
end
section
/-! the reference's tree -/
def nx (o : Option Nat) : Int32 := match o with
  | none => -1
  | some p => nI p
def mP (st : aS) (np : Nat) (ar md : Nat → Nat) (ou : Nat → Nat → Int32) : Prop := st.1 5 0 1 = nI np ∧ np ≤ 60 ∧ ∀ p, p < np → st.1 12 0 p = nI (ar p) ∧ ar p ≤ 6 ∧ st.1 13 0 p = nI (md p) ∧ md p ≤ 4 ∧ ∀ m, m < md p → st.1 14 0 (4 * p + m) = ou p m
def TM (E : EE) (st : aS) : Prop := TR E ∧ (∀ i, i < eN E → eS E i = 9 → eW E i = 1) ∧ mF st ∧ mP st (eNp E) (eAr E) (eMd E) (eOu E) ∧ ∀ i, i < eN E → st.1 15 0 i = nI (eS E i) ∧ st.1 18 0 i = nI (eK E i).length ∧ st.1 19 0 i = nx (eK E i).head? ∧ (∀ k p, (eK E i)[k]? = some p → st.1 21 0 p = nx (eK E i)[k + 1]?) ∧ mV st i (eW E i) (eV E i) ∧ (eS E i = 12 → st.1 22 0 i = nI (eQ E i)) ∧ st.2.1 27 0 i = eO E i ∧ st.2.1 28 0 i = eI E i
/-- which places of an atom's row hand out a value -/
def bcE (E : EE) (i : Nat) (w : Int32) (x : Nat) : Prop := (eS E i = 8 ∧ w = 1 ∧ 0 < x) ∨ (eS E i = 12 ∧ ∃ m, m < eMd E (eQ E i) ∧ w = nI m ∧ oB (eOu E (eQ E i) m) x = true)
def alk (E : EE) (i : Nat) (S : Int64) (w a : Int32) : Prop := ∀ x, x < eW E i → (oB a x = true ↔ bcE E i w x ∧ (gB S (eV E i x) ∨ ∃ j, j < x ∧ bcE E i w j ∧ eV E i j = eV E i x))
def MEq (i : Nat) (st s' : aS) : Prop := s'.2.2 = st.2.2 ∧ (∀ a b c, ¬ (b = 0 ∧ c = i ∧ (a = 31 ∨ a = 34 ∨ a = 35)) → s'.1 a b c = st.1 a b c) ∧ ∀ a b c, ¬ (a = 30 ∧ b = 0 ∧ c = i) → s'.2.1 a b c = st.2.1 a b c
def mAQ (E : EE) (i : Nat) (S : Int64) (st : aS) (v : Option aV) (s' : aS) : Prop := v = none ∧ MEq i st s' ∧ (match eA E i S with
  | some z => s'.1 31 0 i = 1 ∧ s'.1 34 0 i = z.1 ∧ s'.2.1 30 0 i = S ||| z.2 ∧ alk E i S z.1 (s'.1 35 0 i)
  | none => s'.1 31 0 i = 0)
theorem MEq.tr {i : Nat} {a b c : aS} (h : MEq i a b) (g : MEq i b c) : MEq i a c := ⟨g.1.trans h.1, fun x y z q => (g.2.1 x y z q).trans (h.2.1 x y z q), fun x y z q => (g.2.2 x y z q).trans (h.2.2 x y z q)⟩
theorem MEq.rf {i : Nat} {a : aS} : MEq i a a := ⟨rfl, fun _ _ _ _ => rfl, fun _ _ _ _ => rfl⟩
theorem MEq.sI {i a : Nat} {st : aS} {v : Int32} (h : a = 31 ∨ a = 34 ∨ a = 35) : MEq i st (sI st a 0 i v) := ⟨rfl, fun x y z q => sI_ne (fun w => q ⟨w.2.1, w.2.2, by omega⟩), fun _ _ _ _ => rfl⟩
theorem MEq.sL {i : Nat} {st : aS} {v : Int64} : MEq i st (sL st 30 0 i v) := ⟨rfl, fun _ _ _ _ => rfl, fun x y z q => sL_ne (fun w => q ⟨w.1, w.2.1, w.2.2⟩)⟩
theorem MEq.cm {i : Nat} {st : aS} {w : Int32} {B : Int64} : MEq i st (cm st i w B) := ((MEq.sI (Or.inl rfl)).tr (MEq.sI (Or.inr (Or.inl rfl)))).tr MEq.sL
theorem oB_0 (x : Nat) : oB 0 x = false := by
  show (0#32).getLsbD x = false
  exact BitVec.getLsbD_zero
theorem mAQ_a {E : EE} {i : Nat} {S : Int64} {st s1 s' : aS} (h0 : MEq i st s1) (h31 : s1.1 31 0 i = 0) (h35 : s1.1 35 0 i = 0) (hnb : ∀ z, eA E i S = some z → ∀ x, ¬ bcE E i z.1 x) (h : aM s1 i S (eA E i S) none s') : mAQ E i S st none s' := by
  obtain ⟨-, h⟩ := h
  unfold mAQ
  cases hr : eA E i S with
  | none =>
    rw [hr] at h
    subst h
    exact ⟨rfl, h0, h31⟩
  | some z =>
    rw [hr] at h
    subst h
    refine ⟨rfl, h0.tr MEq.cm, ?_, ?_, ?_, fun x hx => ?_⟩
    · show (sI (sI s1 31 0 i 1) 34 0 i z.1).1 31 0 i = 1
      rw [sI_ne (by omega), sI_eq]
    · show (sI (sI s1 31 0 i 1) 34 0 i z.1).1 34 0 i = z.1
      exact sI_eq
    · exact sL_eq
    · rw [show (cm s1 i z.1 (S ||| z.2)).1 35 0 i = 0 from (cm_I (by omega)).trans h35, oB_0]
      constructor
      · intro q; cases q
      · intro q; exact absurd q.1 (hnb z hr x)
theorem mAQ_c {E : EE} {i : Nat} {S : Int64} {st s1 s' : aS} {z : Int32 × Int64} {bc : Nat → Bool} (h0 : MEq i st s1) (hw : eW E i ≤ 7) (hv : ∀ j, j < eW E i → eV E i j < 60) (hz : eA E i S = some z) (hbc : ∀ x, x < eW E i → (bc x = true ↔ bcE E i z.1 x)) (hs' : s' = sI (cm s1 i z.1 (S ||| z.2)) 35 0 i (cmF bc (eV E i) (eW E i) 0 S 0)) : mAQ E i S st none s' := by
  unfold mAQ
  rw [hz]
  subst hs'
  refine ⟨rfl, (h0.tr MEq.cm).tr (MEq.sI (Or.inr (Or.inr rfl))), ?_, ?_, ?_, fun x hx => ?_⟩
  · rw [sI_ne (by omega)]
    show (sI (sI s1 31 0 i 1) 34 0 i z.1).1 31 0 i = 1
    rw [sI_ne (by omega), sI_eq]
  · rw [sI_ne (by omega)]
    show (sI (sI s1 31 0 i 1) 34 0 i z.1).1 34 0 i = z.1
    exact sI_eq
  · show (cm s1 i z.1 (S ||| z.2)).2.1 30 0 i = _
    exact sL_eq
  · rw [sI_eq, cmF_iff _ _ _ _ (by omega) (fun j hj => hv j (by omega)), oB_0]
    constructor
    · rintro (q | ⟨-, -, q1, q2⟩)
      · cases q
      · refine ⟨(hbc x hx).mp q1, ?_⟩
        rcases q2 with q2 | ⟨j, -, j2, j3, j4⟩
        · exact Or.inl q2
        · exact Or.inr ⟨j, j2, (hbc j (by omega)).mp j3, j4⟩
    · rintro ⟨q1, q2⟩
      refine Or.inr ⟨by omega, by omega, (hbc x hx).mpr q1, ?_⟩
      rcases q2 with q2 | ⟨j, j2, j3, j4⟩
      · exact Or.inl q2
      · exact Or.inr ⟨j, by omega, j2, (hbc j (by omega)).mpr j3, j4⟩
theorem bcE_no {E : EE} {i : Nat} {w : Int32} (h1 : eS E i = 8 → w ≠ 1) (h2 : eS E i ≠ 12) : ∀ x, ¬ bcE E i w x := by
  intro x h
  rcases h with ⟨a, b, -⟩ | ⟨a, -⟩
  · exact h1 a b
  · exact h2 a
end
section
section CM4
variable {l : Launch} {D : mD} {d : Nat} {st : aS} {E : EE}
set_option maxRecDepth 100000 in
set_option maxHeartbeats 4000000 in
theorem lm_M_atom {i x : Nat} {S : Int64} {s1 : aS} (hT : TM E st) (hi : i < eN E) (h4 : 4 ≤ eS E i) (h0 : MEq i st s1) (h31 : s1.1 31 0 i = 0) (h35 : s1.1 35 0 i = 0) (hx60 : x < 60) (hx : 0 < eW E i → x = eV E i 0) (hd : 3 ≤ d) : MS l D mM_atom d 0 0 (mAQ E i S st) 0 0 43 [some (vR (some (5, 0))), some (vI (nI i)), some (vL S), none, none, none] [vI (nI x)] s1 := by
  have hi250 : i < 250 := Nat.lt_of_lt_of_le hi hT.1.1
  have hm1 : mF s1 := fun j hj => by rw [h0.1]; exact hT.2.2.1 j hj
  obtain ⟨b1_, b2_, b3_, b4_, b5_, b6_, -, -⟩ := hT.2.2.2.2 i hi
  have hv1 : mV s1 i (eW E i) (eV E i) := ⟨(h0.2.1 23 0 i (by omega)).trans b5_.1, b5_.2.1, b5_.2.2.1, fun k hk => ⟨(h0.2.1 24 0 _ (by omega)).trans (b5_.2.2.2 k hk).1, (b5_.2.2.2 k hk).2⟩⟩
  have hw7 := b5_.2.1
  have h60 : ∀ j, j < eW E i → eV E i j < 60 := fun j hj => (b5_.2.2.2 j hj).2
  have hsr : s1.1 15 0 i = nI (eS E i) := (h0.2.1 15 0 i (by omega)).trans b1_
  have hm := hm1
  have bx : b1 x &&& nt S = 0 ↔ S.toBitVec.getLsbD x = true := b1_sub (by omega)
  have hT2 := (hT.1.2.2 i hi)
  refine jm_istore (pc := 43) dM_atom_43 (by decide) ?_
  refine jm_aload_n (pc := 45) dM_atom_45 rfl ?_
  refine jm_lload_n (pc := 46) dM_atom_46 rfl ?_
  refine jm_iload (pc := 47) dM_atom_47 rfl ?_
  refine jm_callV (pc := 49) (c_M_isIn (d := d - 1) _ hx60) fM_isIn vM_isIn cM_163 dM_atom_49 rfl rfl rfl rfl (by omega) ⟨Nat.le_refl _, Nat.le_refl _⟩ rfl (Nat.le_of_ble_eq_true rfl) (fun v s2 hq => ?_)
  obtain ⟨rfl, rfl⟩ := hq
  refine jm_istore (pc := 52) dM_atom_52 (by decide) ?_
  refine jm_aload_n (pc := 54) dM_atom_54 rfl ?_
  refine jm_getq (pc := 55) lM_19 dM_atom_55 rfl rfl (hm 6 rfl) ?_
  refine jm_iload_n (pc := 58) dM_atom_58 rfl ?_
  refine jm_iald (pc := 59) dM_atom_59 rfl (by decide) rfl (fun _ => rfl) ?hin ?_
  case hin =>
    exact vp_in_nI (N := 250) (by omega) (by decide)
  rw [nI_clamp (by omega), hsr]
  rcases (show eS E i = 4 ∨ eS E i = 5 ∨ eS E i = 6 ∨ eS E i = 7 ∨ eS E i = 8 ∨ eS E i = 9 ∨ eS E i = 10 ∨ eS E i = 11 ∨ eS E i = 12 by have := hT2.1; omega) with hv | hv | hv | hv | hv | hv | hv | hv | hv
  · rw [hv]
    refine jm_tableIn (pc := 60) (tgt := 108) (off := 48) dM_atom_60 (by decide) (by decide) rfl (by decide) ?_
    refine jm_aload_n (pc := 108) dM_atom_108 rfl ?_
    refine jm_iload_n (pc := 109) dM_atom_109 rfl ?_
    refine jm_iconst (pc := 110) (v := 0) dM_atom_110 (by decide) ?_
    refine jm_lload_n (pc := 111) dM_atom_111 rfl ?_
    refine jm_callV (pc := 112) (c_M_comes (d := d - 1) _ _ hm1 (by omega)) fM_comes vM_comes cM_167 dM_atom_112 rfl rfl rfl rfl (by omega) ⟨Nat.le_refl _, Nat.le_refl _⟩ rfl (Nat.le_of_ble_eq_true rfl) (fun v s2 hq => ?_)
    obtain ⟨rfl, rfl⟩ := hq
    refine jm_goto (pc := 115) (tgt := 290) dM_atom_115 (by decide) ?_
    refine jm_vret (pc := 290) dM_atom_290 rfl ⟨Nat.le_refl _, Nat.le_refl _⟩ ?_
    exact mAQ_a h0 h31 h35 (fun z hz => bcE_no (by omega) (by omega)) (aM_s (w := 0) (m := 0) (by unfold eA atomR; simp [hv]) (i64_or0 S).symm rfl)
  · rw [hv]
    refine jm_tableIn (pc := 60) (tgt := 108) (off := 48) dM_atom_60 (by decide) (by decide) rfl (by decide) ?_
    refine jm_aload_n (pc := 108) dM_atom_108 rfl ?_
    refine jm_iload_n (pc := 109) dM_atom_109 rfl ?_
    refine jm_iconst (pc := 110) (v := 0) dM_atom_110 (by decide) ?_
    refine jm_lload_n (pc := 111) dM_atom_111 rfl ?_
    refine jm_callV (pc := 112) (c_M_comes (d := d - 1) _ _ hm1 (by omega)) fM_comes vM_comes cM_167 dM_atom_112 rfl rfl rfl rfl (by omega) ⟨Nat.le_refl _, Nat.le_refl _⟩ rfl (Nat.le_of_ble_eq_true rfl) (fun v s2 hq => ?_)
    obtain ⟨rfl, rfl⟩ := hq
    refine jm_goto (pc := 115) (tgt := 290) dM_atom_115 (by decide) ?_
    refine jm_vret (pc := 290) dM_atom_290 rfl ⟨Nat.le_refl _, Nat.le_refl _⟩ ?_
    exact mAQ_a h0 h31 h35 (fun z hz => bcE_no (by omega) (by omega)) (aM_s (w := 0) (m := 0) (by unfold eA atomR; simp [hv]) (i64_or0 S).symm rfl)
  · rw [hv]
    refine jm_tableIn (pc := 60) (tgt := 118) (off := 58) dM_atom_60 (by decide) (by decide) rfl (by decide) ?_
    have hw2 := hT2.2.2.2.2.1 hv
    refine jm_aload_n (pc := 118) dM_atom_118 rfl ?_
    refine jm_iload_n (pc := 119) dM_atom_119 rfl ?_
    refine jm_iload (pc := 120) dM_atom_120 rfl ?_
    refine jm_aload_n (pc := 122) dM_atom_122 rfl ?_
    refine jm_getq (pc := 123) lM_46 dM_atom_123 rfl rfl (hm 15 rfl) ?_
    refine jm_bipush (pc := 126) (v := 7) dM_atom_126 (by decide) ?_
    refine jm_iload_n (pc := 128) dM_atom_128 rfl ?_
    refine jm_imul (pc := 129) dM_atom_129 ?_
    refine jm_iconst (pc := 130) (v := 1) dM_atom_130 (by decide) ?_
    refine jm_iadd (pc := 131) dM_atom_131 ?_
    rw [show (7 : Int32) * nI i + 1 = nI (7 * i + 1) from e7 i 1]
    refine jm_iald (pc := 132) dM_atom_132 rfl (by decide) rfl (fun _ => rfl) ?hin ?_
    case hin =>
      exact vp_in_nI (N := 1750) (by omega) (by decide)
    rw [nI_clamp (by omega), (hv1.2.2.2 1 (by omega)).1]
    refine jm_lload_n (pc := 133) dM_atom_133 rfl ?_
    refine jm_callV (pc := 134) (c_M_same (d := d - 1) hm1 (by omega) hx60 (h60 1 (by omega)) (by omega)) fM_same vM_same cM_171 dM_atom_134 rfl rfl rfl rfl (by omega) ⟨Nat.le_refl _, Nat.le_refl _⟩ rfl (Nat.le_of_ble_eq_true rfl) (fun v s2 hq => ?_)
    have hq9 := hq
    obtain ⟨rfl, -⟩ := hq
    refine jm_goto (pc := 137) (tgt := 290) dM_atom_137 (by decide) ?_
    refine jm_vret (pc := 290) dM_atom_290 rfl ⟨Nat.le_refl _, Nat.le_refl _⟩ ?_
    exact mAQ_a h0 h31 h35 (fun z hz => bcE_no (by omega) (by omega)) (by rw [show eA E i S = sameR (b1 (eV E i 0)) (b1 (eV E i 1)) S from by unfold eA atomR; simp [hv], ← hx (by omega)]; exact hq9)
  · rw [hv]
    refine jm_tableIn (pc := 60) (tgt := 140) (off := 80) dM_atom_60 (by decide) (by decide) rfl (by decide) ?_
    refine jm_aload_n (pc := 140) dM_atom_140 rfl ?_
    refine jm_lload_n (pc := 141) dM_atom_141 rfl ?_
    refine jm_aload_n (pc := 142) dM_atom_142 rfl ?_
    refine jm_iload_n (pc := 143) dM_atom_143 rfl ?_
    refine jm_iconst (pc := 144) (v := 0) dM_atom_144 (by decide) ?_
    refine jm_callV (pc := 145) (c_M_rowOf (d := d - 1) (fr := 0) hm1 hv1 (by omega)) fM_rowOf vM_rowOf cM_159 dM_atom_145 rfl rfl rfl rfl (by omega) ⟨Nat.le_refl _, Nat.le_refl _⟩ rfl (Nat.le_of_ble_eq_true rfl) (fun v s2 hq => ?_)
    obtain ⟨rfl, rfl⟩ := hq
    refine jm_callV (pc := 148) (c_M_areIn (d := d - 1) _ _) fM_areIn vM_areIn cM_175 dM_atom_148 rfl rfl rfl rfl (by omega) ⟨Nat.le_refl _, Nat.le_refl _⟩ rfl (Nat.le_of_ble_eq_true rfl) (fun v s2 hq => ?_)
    obtain ⟨rfl, rfl⟩ := hq
    refine jm_if_eq (pc := 151) (tgt := 290) dM_atom_151 (by decide) (fun h151 => ?_) (fun h151 => ?_)
    · refine jm_vret (pc := 290) dM_atom_290 rfl ⟨Nat.le_refl _, Nat.le_refl _⟩ ?_
      have ea : eA E i S = allR (rowS (eW E i) (eV E i) 0) S := by unfold eA atomR; simp [hv]
      first
        | exact mAQ_a h0 h31 h35 (fun z hz => bcE_no (by omega) (by omega)) (aM_s (w := 1) (m := 0) (by rw [ea]; exact if_pos (sub_iff2.mp (jb_ne0 h151))) (i64_or0 S).symm rfl)
        | exact mAQ_a h0 h31 h35 (fun z hz => bcE_no (by omega) (by omega)) (aM_n (by rw [ea]; exact if_neg (fun q => jb_eq0 h151 (sub_iff2.mpr q))))
    · refine jm_aload_n (pc := 154) dM_atom_154 rfl ?_
      refine jm_iload_n (pc := 155) dM_atom_155 rfl ?_
      refine jm_iconst (pc := 156) (v := 1) dM_atom_156 (by decide) ?_
      refine jm_lload_n (pc := 157) dM_atom_157 rfl ?_
      refine jm_callV (pc := 158) (c_M_comes (d := d - 1) _ _ hm1 (by omega)) fM_comes vM_comes cM_167 dM_atom_158 rfl rfl rfl rfl (by omega) ⟨Nat.le_refl _, Nat.le_refl _⟩ rfl (Nat.le_of_ble_eq_true rfl) (fun v s2 hq => ?_)
      obtain ⟨rfl, rfl⟩ := hq
      refine jm_goto (pc := 161) (tgt := 290) dM_atom_161 (by decide) ?_
      refine jm_vret (pc := 290) dM_atom_290 rfl ⟨Nat.le_refl _, Nat.le_refl _⟩ ?_
      have ea : eA E i S = allR (rowS (eW E i) (eV E i) 0) S := by unfold eA atomR; simp [hv]
      first
        | exact mAQ_a h0 h31 h35 (fun z hz => bcE_no (by omega) (by omega)) (aM_s (w := 1) (m := 0) (by rw [ea]; exact if_pos (sub_iff2.mp (jb_ne0 h151))) (i64_or0 S).symm rfl)
        | exact mAQ_a h0 h31 h35 (fun z hz => bcE_no (by omega) (by omega)) (aM_n (by rw [ea]; exact if_neg (fun q => jb_eq0 h151 (sub_iff2.mpr q))))
  · rw [hv]
    refine jm_tableIn (pc := 60) (tgt := 164) (off := 104) dM_atom_60 (by decide) (by decide) rfl (by decide) ?_
    have hw1 := hT2.2.2.2.2.2.1 (by omega)
    refine jm_iload (pc := 164) dM_atom_164 rfl ?_
    refine jm_if_eq (pc := 166) (tgt := 193) dM_atom_166 (by decide) (fun h166 => ?_) (fun h166 => ?_)
    · refine jm_aload_n (pc := 193) dM_atom_193 rfl ?_
      refine jm_lload_n (pc := 194) dM_atom_194 rfl ?_
      refine jm_aload_n (pc := 195) dM_atom_195 rfl ?_
      refine jm_iload_n (pc := 196) dM_atom_196 rfl ?_
      refine jm_iconst (pc := 197) (v := 1) dM_atom_197 (by decide) ?_
      refine jm_callV (pc := 198) (c_M_rowOf (d := d - 1) (fr := 1) hm1 hv1 (by omega)) fM_rowOf vM_rowOf cM_159 dM_atom_198 rfl rfl rfl rfl (by omega) ⟨Nat.le_refl _, Nat.le_refl _⟩ rfl (Nat.le_of_ble_eq_true rfl) (fun v s2 hq => ?_)
      obtain ⟨rfl, rfl⟩ := hq
      refine jm_callV (pc := 201) (c_M_areIn (d := d - 1) _ _) fM_areIn vM_areIn cM_175 dM_atom_201 rfl rfl rfl rfl (by omega) ⟨Nat.le_refl _, Nat.le_refl _⟩ rfl (Nat.le_of_ble_eq_true rfl) (fun v s2 hq => ?_)
      obtain ⟨rfl, rfl⟩ := hq
      refine jm_if_eq (pc := 204) (tgt := 290) dM_atom_204 (by decide) (fun h204 => ?_) (fun h204 => ?_)
      · refine jm_vret (pc := 290) dM_atom_290 rfl ⟨Nat.le_refl _, Nat.le_refl _⟩ ?_
        have ea : eA E i S = formR (b1 (eV E i 0)) (rowS (eW E i) (eV E i) 1) S := by unfold eA atomR; simp [hv]
        have ex := hx (by omega)
        first
          | exact mAQ_c (bc := fun k => if 8 = 8 then decide (0 < k) else oB 0 k) h0 hw7 h60 (z := (1, rowS (eW E i) (eV E i) 1)) (by rw [ea, ← ex]; exact if_pos (bx.mpr (jb_ne0 h166))) (fun y hy => by
              show decide (0 < y) = true ↔ _
              rw [decide_eq_true_eq]
              constructor
              · intro q; exact Or.inl ⟨hv, rfl, q⟩
              · rintro (q | q)
                · exact q.2.2
                · omega) (by rw [cm_I (by omega), h35])
          | exact mAQ_a h0 h31 h35 (fun z hz => by
              rw [ea, ← ex, show formR (b1 x) (rowS (eW E i) (eV E i) 1) S = some (2, b1 x) from (if_neg (fun q => jb_eq0 h166 (bx.mp q))).trans (if_pos (sub_iff2.mp (jb_ne0 h204)))] at hz
              cases hz
              exact bcE_no (fun _ => (show (2 : Int32) ≠ 1 by decide)) (by omega)) (aM_s (w := 2) (m := b1 x) (by rw [ea, ← ex]; exact (if_neg (fun q => jb_eq0 h166 (bx.mp q))).trans (if_pos (sub_iff2.mp (jb_ne0 h204)))) rfl rfl)
          | exact mAQ_a h0 h31 h35 (fun z hz => by
              rw [ea, ← ex, show formR (b1 x) (rowS (eW E i) (eV E i) 1) S = none from (if_neg (fun q => jb_eq0 h166 (bx.mp q))).trans (if_neg (fun q => jb_eq0 h204 (sub_iff2.mpr q)))] at hz
              cases hz) (aM_n (by rw [ea, ← ex]; exact (if_neg (fun q => jb_eq0 h166 (bx.mp q))).trans (if_neg (fun q => jb_eq0 h204 (sub_iff2.mpr q)))))
      · refine jm_aload_n (pc := 207) dM_atom_207 rfl ?_
        refine jm_iload_n (pc := 208) dM_atom_208 rfl ?_
        refine jm_iconst (pc := 209) (v := 2) dM_atom_209 (by decide) ?_
        refine jm_lload_n (pc := 210) dM_atom_210 rfl ?_
        refine jm_lconst (pc := 211) (v := 1) dM_atom_211 (by decide) ?_
        refine jm_iload (pc := 212) dM_atom_212 rfl ?_
        refine jm_lshl (pc := 214) dM_atom_214 ?_
        refine jm_lor (pc := 215) dM_atom_215 ?_
        refine jm_callV (pc := 216) (c_M_comes (d := d - 1) _ _ hm1 (by omega)) fM_comes vM_comes cM_167 dM_atom_216 rfl rfl rfl rfl (by omega) ⟨Nat.le_refl _, Nat.le_refl _⟩ rfl (Nat.le_of_ble_eq_true rfl) (fun v s2 hq => ?_)
        obtain ⟨rfl, rfl⟩ := hq
        refine jm_goto (pc := 219) (tgt := 290) dM_atom_219 (by decide) ?_
        refine jm_vret (pc := 290) dM_atom_290 rfl ⟨Nat.le_refl _, Nat.le_refl _⟩ ?_
        have ea : eA E i S = formR (b1 (eV E i 0)) (rowS (eW E i) (eV E i) 1) S := by unfold eA atomR; simp [hv]
        have ex := hx (by omega)
        first
          | exact mAQ_c (bc := fun k => if 8 = 8 then decide (0 < k) else oB 0 k) h0 hw7 h60 (z := (1, rowS (eW E i) (eV E i) 1)) (by rw [ea, ← ex]; exact if_pos (bx.mpr (jb_ne0 h166))) (fun y hy => by
              show decide (0 < y) = true ↔ _
              rw [decide_eq_true_eq]
              constructor
              · intro q; exact Or.inl ⟨hv, rfl, q⟩
              · rintro (q | q)
                · exact q.2.2
                · omega) (by rw [cm_I (by omega), h35])
          | exact mAQ_a h0 h31 h35 (fun z hz => by
              rw [ea, ← ex, show formR (b1 x) (rowS (eW E i) (eV E i) 1) S = some (2, b1 x) from (if_neg (fun q => jb_eq0 h166 (bx.mp q))).trans (if_pos (sub_iff2.mp (jb_ne0 h204)))] at hz
              cases hz
              exact bcE_no (fun _ => (show (2 : Int32) ≠ 1 by decide)) (by omega)) (aM_s (w := 2) (m := b1 x) (by rw [ea, ← ex]; exact (if_neg (fun q => jb_eq0 h166 (bx.mp q))).trans (if_pos (sub_iff2.mp (jb_ne0 h204)))) rfl rfl)
          | exact mAQ_a h0 h31 h35 (fun z hz => by
              rw [ea, ← ex, show formR (b1 x) (rowS (eW E i) (eV E i) 1) S = none from (if_neg (fun q => jb_eq0 h166 (bx.mp q))).trans (if_neg (fun q => jb_eq0 h204 (sub_iff2.mpr q)))] at hz
              cases hz) (aM_n (by rw [ea, ← ex]; exact (if_neg (fun q => jb_eq0 h166 (bx.mp q))).trans (if_neg (fun q => jb_eq0 h204 (sub_iff2.mpr q)))))
    · refine jm_aload_n (pc := 169) dM_atom_169 rfl ?_
      refine jm_iload_n (pc := 170) dM_atom_170 rfl ?_
      refine jm_iconst (pc := 171) (v := 1) dM_atom_171 (by decide) ?_
      refine jm_lload_n (pc := 172) dM_atom_172 rfl ?_
      refine jm_aload_n (pc := 173) dM_atom_173 rfl ?_
      refine jm_iload_n (pc := 174) dM_atom_174 rfl ?_
      refine jm_iconst (pc := 175) (v := 1) dM_atom_175 (by decide) ?_
      refine jm_callV (pc := 176) (c_M_rowOf (d := d - 1) (fr := 1) hm1 hv1 (by omega)) fM_rowOf vM_rowOf cM_159 dM_atom_176 rfl rfl rfl rfl (by omega) ⟨Nat.le_refl _, Nat.le_refl _⟩ rfl (Nat.le_of_ble_eq_true rfl) (fun v s2 hq => ?_)
      obtain ⟨rfl, rfl⟩ := hq
      refine jm_lor (pc := 179) dM_atom_179 ?_
      refine jm_callV (pc := 180) (c_M_comes (d := d - 1) _ _ hm1 (by omega)) fM_comes vM_comes cM_167 dM_atom_180 rfl rfl rfl rfl (by omega) ⟨Nat.le_refl _, Nat.le_refl _⟩ rfl (Nat.le_of_ble_eq_true rfl) (fun v s2 hq => ?_)
      obtain ⟨rfl, rfl⟩ := hq
      refine jm_aload_n (pc := 183) dM_atom_183 rfl ?_
      refine jm_iload_n (pc := 184) dM_atom_184 rfl ?_
      refine jm_iconst (pc := 185) (v := 0) dM_atom_185 (by decide) ?_
      refine jm_lload_n (pc := 186) dM_atom_186 rfl ?_
      refine jm_callV (pc := 187) (c_M_compare (d := d - 1) (st := cm s1 i 1 (S ||| rowS (eW E i) (eV E i) 1)) (s := 8) hm1 hv1.cm ((cm_I (by omega)).trans (hsr.trans (by rw [hv]))) (by decide) (by omega)) fM_compare vM_compare cM_179 dM_atom_187 rfl rfl rfl rfl (by omega) ⟨Nat.le_refl _, Nat.le_refl _⟩ rfl (Nat.le_of_ble_eq_true rfl) (fun v s2 hq => ?_)
      obtain ⟨rfl, rfl⟩ := hq
      refine jm_goto (pc := 190) (tgt := 290) dM_atom_190 (by decide) ?_
      refine jm_vret (pc := 290) dM_atom_290 rfl ⟨Nat.le_refl _, Nat.le_refl _⟩ ?_
      have ea : eA E i S = formR (b1 (eV E i 0)) (rowS (eW E i) (eV E i) 1) S := by unfold eA atomR; simp [hv]
      have ex := hx (by omega)
      first
        | exact mAQ_c (bc := fun k => if 8 = 8 then decide (0 < k) else oB 0 k) h0 hw7 h60 (z := (1, rowS (eW E i) (eV E i) 1)) (by rw [ea, ← ex]; exact if_pos (bx.mpr (jb_ne0 h166))) (fun y hy => by
            show decide (0 < y) = true ↔ _
            rw [decide_eq_true_eq]
            constructor
            · intro q; exact Or.inl ⟨hv, rfl, q⟩
            · rintro (q | q)
              · exact q.2.2
              · omega) (by rw [cm_I (by omega), h35])
        | exact mAQ_a h0 h31 h35 (fun z hz => by
            rw [ea, ← ex, show formR (b1 x) (rowS (eW E i) (eV E i) 1) S = some (2, b1 x) from (if_neg (fun q => jb_eq0 h166 (bx.mp q))).trans (if_pos (sub_iff2.mp (jb_ne0 h204)))] at hz
            cases hz
            exact bcE_no (fun _ => (show (2 : Int32) ≠ 1 by decide)) (by omega)) (aM_s (w := 2) (m := b1 x) (by rw [ea, ← ex]; exact (if_neg (fun q => jb_eq0 h166 (bx.mp q))).trans (if_pos (sub_iff2.mp (jb_ne0 h204)))) rfl rfl)
        | exact mAQ_a h0 h31 h35 (fun z hz => by
            rw [ea, ← ex, show formR (b1 x) (rowS (eW E i) (eV E i) 1) S = none from (if_neg (fun q => jb_eq0 h166 (bx.mp q))).trans (if_neg (fun q => jb_eq0 h204 (sub_iff2.mpr q)))] at hz
            cases hz) (aM_n (by rw [ea, ← ex]; exact (if_neg (fun q => jb_eq0 h166 (bx.mp q))).trans (if_neg (fun q => jb_eq0 h204 (sub_iff2.mpr q)))))
  · rw [hv]
    refine jm_tableIn (pc := 60) (tgt := 222) (off := 162) dM_atom_60 (by decide) (by decide) rfl (by decide) ?_
    have hw1 := hT.2.1 i hi hv
    refine jm_aload_n (pc := 222) dM_atom_222 rfl ?_
    refine jm_iload_n (pc := 223) dM_atom_223 rfl ?_
    refine jm_iload (pc := 224) dM_atom_224 rfl ?_
    refine jm_if_eq (pc := 226) (tgt := 233) dM_atom_226 (by decide) (fun h226 => ?_) (fun h226 => ?_)
    · refine jm_iconst (pc := 233) (v := 2) dM_atom_233 (by decide) ?_
      refine jm_lload_n (pc := 234) dM_atom_234 rfl ?_
      refine jm_lconst (pc := 235) (v := 1) dM_atom_235 (by decide) ?_
      refine jm_iload (pc := 236) dM_atom_236 rfl ?_
      refine jm_lshl (pc := 238) dM_atom_238 ?_
      refine jm_lor (pc := 239) dM_atom_239 ?_
      refine jm_callV (pc := 240) (c_M_comes (d := d - 1) _ _ hm1 (by omega)) fM_comes vM_comes cM_167 dM_atom_240 rfl rfl rfl rfl (by omega) ⟨Nat.le_refl _, Nat.le_refl _⟩ rfl (Nat.le_of_ble_eq_true rfl) (fun v s2 hq => ?_)
      obtain ⟨rfl, rfl⟩ := hq
      refine jm_goto (pc := 243) (tgt := 290) dM_atom_243 (by decide) ?_
      refine jm_vret (pc := 290) dM_atom_290 rfl ⟨Nat.le_refl _, Nat.le_refl _⟩ ?_
      have ea : eA E i S = sumR (b1 (eV E i 0)) (rowS (eW E i) (eV E i) 1) S := by unfold eA atomR; simp [hv]
      have ex := hx (by omega)
      have er : rowS (eW E i) (eV E i) 1 &&& nt S = 0 := by
        rw [hw1]
        show (0 : Int64) &&& nt S = 0
        rw [sub_iff]
        intro v _ q
        unfold gB at q
        rw [i64_0] at q
        cases q
      first
        | exact mAQ_a h0 h31 h35 (fun z hz => bcE_no (by omega) (by omega)) (aM_s (w := 1) (m := b1 x) (by rw [ea, ← ex]; exact (if_pos er).trans (by rw [if_pos (bx.mpr (jb_ne0 h226))])) rfl rfl)
        | exact mAQ_a h0 h31 h35 (fun z hz => bcE_no (by omega) (by omega)) (aM_s (w := 2) (m := b1 x) (by rw [ea, ← ex]; exact (if_pos er).trans (by rw [if_neg (fun q => jb_eq0 h226 (bx.mp q))])) rfl rfl)
    · refine jm_iconst (pc := 229) (v := 1) dM_atom_229 (by decide) ?_
      refine jm_goto (pc := 230) (tgt := 234) dM_atom_230 (by decide) ?_
      refine jm_lload_n (pc := 234) dM_atom_234 rfl ?_
      refine jm_lconst (pc := 235) (v := 1) dM_atom_235 (by decide) ?_
      refine jm_iload (pc := 236) dM_atom_236 rfl ?_
      refine jm_lshl (pc := 238) dM_atom_238 ?_
      refine jm_lor (pc := 239) dM_atom_239 ?_
      refine jm_callV (pc := 240) (c_M_comes (d := d - 1) _ _ hm1 (by omega)) fM_comes vM_comes cM_167 dM_atom_240 rfl rfl rfl rfl (by omega) ⟨Nat.le_refl _, Nat.le_refl _⟩ rfl (Nat.le_of_ble_eq_true rfl) (fun v s2 hq => ?_)
      obtain ⟨rfl, rfl⟩ := hq
      refine jm_goto (pc := 243) (tgt := 290) dM_atom_243 (by decide) ?_
      refine jm_vret (pc := 290) dM_atom_290 rfl ⟨Nat.le_refl _, Nat.le_refl _⟩ ?_
      have ea : eA E i S = sumR (b1 (eV E i 0)) (rowS (eW E i) (eV E i) 1) S := by unfold eA atomR; simp [hv]
      have ex := hx (by omega)
      have er : rowS (eW E i) (eV E i) 1 &&& nt S = 0 := by
        rw [hw1]
        show (0 : Int64) &&& nt S = 0
        rw [sub_iff]
        intro v _ q
        unfold gB at q
        rw [i64_0] at q
        cases q
      first
        | exact mAQ_a h0 h31 h35 (fun z hz => bcE_no (by omega) (by omega)) (aM_s (w := 1) (m := b1 x) (by rw [ea, ← ex]; exact (if_pos er).trans (by rw [if_pos (bx.mpr (jb_ne0 h226))])) rfl rfl)
        | exact mAQ_a h0 h31 h35 (fun z hz => bcE_no (by omega) (by omega)) (aM_s (w := 2) (m := b1 x) (by rw [ea, ← ex]; exact (if_pos er).trans (by rw [if_neg (fun q => jb_eq0 h226 (bx.mp q))])) rfl rfl)
  · rw [hv]
    refine jm_tableIn (pc := 60) (tgt := 246) (off := 186) dM_atom_60 (by decide) (by decide) rfl (by decide) ?_
    have hw1 := hT2.2.2.2.2.2.1 (by omega)
    refine jm_aload_n (pc := 246) dM_atom_246 rfl ?_
    refine jm_lload_n (pc := 247) dM_atom_247 rfl ?_
    refine jm_aload_n (pc := 248) dM_atom_248 rfl ?_
    refine jm_iload_n (pc := 249) dM_atom_249 rfl ?_
    refine jm_iconst (pc := 250) (v := 1) dM_atom_250 (by decide) ?_
    refine jm_callV (pc := 251) (c_M_rowOf (d := d - 1) (fr := 1) hm1 hv1 (by omega)) fM_rowOf vM_rowOf cM_159 dM_atom_251 rfl rfl rfl rfl (by omega) ⟨Nat.le_refl _, Nat.le_refl _⟩ rfl (Nat.le_of_ble_eq_true rfl) (fun v s2 hq => ?_)
    obtain ⟨rfl, rfl⟩ := hq
    refine jm_callV (pc := 254) (c_M_areIn (d := d - 1) _ _) fM_areIn vM_areIn cM_175 dM_atom_254 rfl rfl rfl rfl (by omega) ⟨Nat.le_refl _, Nat.le_refl _⟩ rfl (Nat.le_of_ble_eq_true rfl) (fun v s2 hq => ?_)
    obtain ⟨rfl, rfl⟩ := hq
    refine jm_if_eq (pc := 257) (tgt := 290) dM_atom_257 (by decide) (fun h257 => ?_) (fun h257 => ?_)
    · refine jm_vret (pc := 290) dM_atom_290 rfl ⟨Nat.le_refl _, Nat.le_refl _⟩ ?_
      have ea : eA E i S = sumR (b1 (eV E i 0)) (rowS (eW E i) (eV E i) 1) S := by unfold eA atomR; simp [hv]
      have ex := hx (by omega)
      first
        | exact mAQ_a h0 h31 h35 (fun z hz => bcE_no (by omega) (by omega)) (aM_s (w := 1) (m := b1 x) (by rw [ea, ← ex]; exact (if_pos (sub_iff2.mp (jb_ne0 h257))).trans (by rw [if_pos (bx.mpr (jb_ne0 h264))])) rfl rfl)
        | exact mAQ_a h0 h31 h35 (fun z hz => bcE_no (by omega) (by omega)) (aM_s (w := 2) (m := b1 x) (by rw [ea, ← ex]; exact (if_pos (sub_iff2.mp (jb_ne0 h257))).trans (by rw [if_neg (fun q => jb_eq0 h264 (bx.mp q))])) rfl rfl)
        | exact mAQ_a h0 h31 h35 (fun z hz => bcE_no (by omega) (by omega)) (aM_n (by rw [ea, ← ex]; exact if_neg (fun q => jb_eq0 h257 (sub_iff2.mpr q))))
    · refine jm_aload_n (pc := 260) dM_atom_260 rfl ?_
      refine jm_iload_n (pc := 261) dM_atom_261 rfl ?_
      refine jm_iload (pc := 262) dM_atom_262 rfl ?_
      refine jm_if_eq (pc := 264) (tgt := 271) dM_atom_264 (by decide) (fun h264 => ?_) (fun h264 => ?_)
      · refine jm_iconst (pc := 271) (v := 2) dM_atom_271 (by decide) ?_
        refine jm_lload_n (pc := 272) dM_atom_272 rfl ?_
        refine jm_lconst (pc := 273) (v := 1) dM_atom_273 (by decide) ?_
        refine jm_iload (pc := 274) dM_atom_274 rfl ?_
        refine jm_lshl (pc := 276) dM_atom_276 ?_
        refine jm_lor (pc := 277) dM_atom_277 ?_
        refine jm_callV (pc := 278) (c_M_comes (d := d - 1) _ _ hm1 (by omega)) fM_comes vM_comes cM_167 dM_atom_278 rfl rfl rfl rfl (by omega) ⟨Nat.le_refl _, Nat.le_refl _⟩ rfl (Nat.le_of_ble_eq_true rfl) (fun v s2 hq => ?_)
        obtain ⟨rfl, rfl⟩ := hq
        refine jm_goto (pc := 281) (tgt := 290) dM_atom_281 (by decide) ?_
        refine jm_vret (pc := 290) dM_atom_290 rfl ⟨Nat.le_refl _, Nat.le_refl _⟩ ?_
        have ea : eA E i S = sumR (b1 (eV E i 0)) (rowS (eW E i) (eV E i) 1) S := by unfold eA atomR; simp [hv]
        have ex := hx (by omega)
        first
          | exact mAQ_a h0 h31 h35 (fun z hz => bcE_no (by omega) (by omega)) (aM_s (w := 1) (m := b1 x) (by rw [ea, ← ex]; exact (if_pos (sub_iff2.mp (jb_ne0 h257))).trans (by rw [if_pos (bx.mpr (jb_ne0 h264))])) rfl rfl)
          | exact mAQ_a h0 h31 h35 (fun z hz => bcE_no (by omega) (by omega)) (aM_s (w := 2) (m := b1 x) (by rw [ea, ← ex]; exact (if_pos (sub_iff2.mp (jb_ne0 h257))).trans (by rw [if_neg (fun q => jb_eq0 h264 (bx.mp q))])) rfl rfl)
          | exact mAQ_a h0 h31 h35 (fun z hz => bcE_no (by omega) (by omega)) (aM_n (by rw [ea, ← ex]; exact if_neg (fun q => jb_eq0 h257 (sub_iff2.mpr q))))
      · refine jm_iconst (pc := 267) (v := 1) dM_atom_267 (by decide) ?_
        refine jm_goto (pc := 268) (tgt := 272) dM_atom_268 (by decide) ?_
        refine jm_lload_n (pc := 272) dM_atom_272 rfl ?_
        refine jm_lconst (pc := 273) (v := 1) dM_atom_273 (by decide) ?_
        refine jm_iload (pc := 274) dM_atom_274 rfl ?_
        refine jm_lshl (pc := 276) dM_atom_276 ?_
        refine jm_lor (pc := 277) dM_atom_277 ?_
        refine jm_callV (pc := 278) (c_M_comes (d := d - 1) _ _ hm1 (by omega)) fM_comes vM_comes cM_167 dM_atom_278 rfl rfl rfl rfl (by omega) ⟨Nat.le_refl _, Nat.le_refl _⟩ rfl (Nat.le_of_ble_eq_true rfl) (fun v s2 hq => ?_)
        obtain ⟨rfl, rfl⟩ := hq
        refine jm_goto (pc := 281) (tgt := 290) dM_atom_281 (by decide) ?_
        refine jm_vret (pc := 290) dM_atom_290 rfl ⟨Nat.le_refl _, Nat.le_refl _⟩ ?_
        have ea : eA E i S = sumR (b1 (eV E i 0)) (rowS (eW E i) (eV E i) 1) S := by unfold eA atomR; simp [hv]
        have ex := hx (by omega)
        first
          | exact mAQ_a h0 h31 h35 (fun z hz => bcE_no (by omega) (by omega)) (aM_s (w := 1) (m := b1 x) (by rw [ea, ← ex]; exact (if_pos (sub_iff2.mp (jb_ne0 h257))).trans (by rw [if_pos (bx.mpr (jb_ne0 h264))])) rfl rfl)
          | exact mAQ_a h0 h31 h35 (fun z hz => bcE_no (by omega) (by omega)) (aM_s (w := 2) (m := b1 x) (by rw [ea, ← ex]; exact (if_pos (sub_iff2.mp (jb_ne0 h257))).trans (by rw [if_neg (fun q => jb_eq0 h264 (bx.mp q))])) rfl rfl)
          | exact mAQ_a h0 h31 h35 (fun z hz => bcE_no (by omega) (by omega)) (aM_n (by rw [ea, ← ex]; exact if_neg (fun q => jb_eq0 h257 (sub_iff2.mpr q))))
  · rw [hv]
    refine jm_tableIn (pc := 60) (tgt := 140) (off := 80) dM_atom_60 (by decide) (by decide) rfl (by decide) ?_
    refine jm_aload_n (pc := 140) dM_atom_140 rfl ?_
    refine jm_lload_n (pc := 141) dM_atom_141 rfl ?_
    refine jm_aload_n (pc := 142) dM_atom_142 rfl ?_
    refine jm_iload_n (pc := 143) dM_atom_143 rfl ?_
    refine jm_iconst (pc := 144) (v := 0) dM_atom_144 (by decide) ?_
    refine jm_callV (pc := 145) (c_M_rowOf (d := d - 1) (fr := 0) hm1 hv1 (by omega)) fM_rowOf vM_rowOf cM_159 dM_atom_145 rfl rfl rfl rfl (by omega) ⟨Nat.le_refl _, Nat.le_refl _⟩ rfl (Nat.le_of_ble_eq_true rfl) (fun v s2 hq => ?_)
    obtain ⟨rfl, rfl⟩ := hq
    refine jm_callV (pc := 148) (c_M_areIn (d := d - 1) _ _) fM_areIn vM_areIn cM_175 dM_atom_148 rfl rfl rfl rfl (by omega) ⟨Nat.le_refl _, Nat.le_refl _⟩ rfl (Nat.le_of_ble_eq_true rfl) (fun v s2 hq => ?_)
    obtain ⟨rfl, rfl⟩ := hq
    refine jm_if_eq (pc := 151) (tgt := 290) dM_atom_151 (by decide) (fun h151 => ?_) (fun h151 => ?_)
    · refine jm_vret (pc := 290) dM_atom_290 rfl ⟨Nat.le_refl _, Nat.le_refl _⟩ ?_
      have ea : eA E i S = allR (rowS (eW E i) (eV E i) 0) S := by unfold eA atomR; simp [hv]
      first
        | exact mAQ_a h0 h31 h35 (fun z hz => bcE_no (by omega) (by omega)) (aM_s (w := 1) (m := 0) (by rw [ea]; exact if_pos (sub_iff2.mp (jb_ne0 h151))) (i64_or0 S).symm rfl)
        | exact mAQ_a h0 h31 h35 (fun z hz => bcE_no (by omega) (by omega)) (aM_n (by rw [ea]; exact if_neg (fun q => jb_eq0 h151 (sub_iff2.mpr q))))
    · refine jm_aload_n (pc := 154) dM_atom_154 rfl ?_
      refine jm_iload_n (pc := 155) dM_atom_155 rfl ?_
      refine jm_iconst (pc := 156) (v := 1) dM_atom_156 (by decide) ?_
      refine jm_lload_n (pc := 157) dM_atom_157 rfl ?_
      refine jm_callV (pc := 158) (c_M_comes (d := d - 1) _ _ hm1 (by omega)) fM_comes vM_comes cM_167 dM_atom_158 rfl rfl rfl rfl (by omega) ⟨Nat.le_refl _, Nat.le_refl _⟩ rfl (Nat.le_of_ble_eq_true rfl) (fun v s2 hq => ?_)
      obtain ⟨rfl, rfl⟩ := hq
      refine jm_goto (pc := 161) (tgt := 290) dM_atom_161 (by decide) ?_
      refine jm_vret (pc := 290) dM_atom_290 rfl ⟨Nat.le_refl _, Nat.le_refl _⟩ ?_
      have ea : eA E i S = allR (rowS (eW E i) (eV E i) 0) S := by unfold eA atomR; simp [hv]
      first
        | exact mAQ_a h0 h31 h35 (fun z hz => bcE_no (by omega) (by omega)) (aM_s (w := 1) (m := 0) (by rw [ea]; exact if_pos (sub_iff2.mp (jb_ne0 h151))) (i64_or0 S).symm rfl)
        | exact mAQ_a h0 h31 h35 (fun z hz => bcE_no (by omega) (by omega)) (aM_n (by rw [ea]; exact if_neg (fun q => jb_eq0 h151 (sub_iff2.mpr q))))
  · rw [hv]
    refine jm_tableOut (pc := 60) (tgt := 284) dM_atom_60 (by decide) (by decide) ?_
    refine jm_aload_n (pc := 284) dM_atom_284 rfl ?_
    refine jm_iload_n (pc := 285) dM_atom_285 rfl ?_
    refine jm_lload_n (pc := 286) dM_atom_286 rfl ?_
    refine jm_callV (pc := 287) (c_M_call (d := d - 1) (p := eQ E i) (md := eMd E (eQ E i)) (ou := eOu E (eQ E i)) hm1 hv1 (hsr.trans (by rw [hv])) ((h0.2.1 22 0 i (by omega)).trans (b6_ hv)) (by have := hT2.2.2.2.2.2.2.1 hv; have := hT.2.2.2.1.2.1; omega) ((h0.2.1 13 0 _ (by omega)).trans (hT.2.2.2.1.2.2 _ (hT2.2.2.2.2.2.2.1 hv)).2.2.1) (hT.2.2.2.1.2.2 _ (hT2.2.2.2.2.2.2.1 hv)).2.2.2.1 (fun m hm9 => (h0.2.1 14 0 _ (by omega)).trans ((hT.2.2.2.1.2.2 _ (hT2.2.2.2.2.2.2.1 hv)).2.2.2.2 m hm9)) (by omega)) fM_call vM_call cM_182 dM_atom_287 rfl rfl rfl rfl (by omega) ⟨Nat.le_refl _, Nat.le_refl _⟩ rfl (Nat.le_of_ble_eq_true rfl) (fun v s2 hq => ?_)
    have hq9 := hq
    obtain ⟨rfl, -⟩ := hq
    refine jm_vret (pc := 290) dM_atom_290 rfl ⟨Nat.le_refl _, Nat.le_refl _⟩ ?_
    have ea : eA E i S = callR (fun m => insS (eOu E (eQ E i) m) (eW E i) (eV E i)) (rowS (eW E i) (eV E i) 0) S (eMd E (eQ E i)) 0 := by unfold eA atomR; simp [hv]
    obtain ⟨-, hq9⟩ := hq9
    cases hr : callR (fun m => insS (eOu E (eQ E i) m) (eW E i) (eV E i)) (rowS (eW E i) (eV E i) 0) S (eMd E (eQ E i)) 0 with
    | none =>
      rw [hr] at hq9
      exact mAQ_a h0 h31 h35 (fun z hz => by rw [ea, hr] at hz; cases hz) (by rw [ea, hr]; exact ⟨rfl, hq9⟩)
    | some z =>
      rw [hr] at hq9
      obtain ⟨m, hm9, hz1, hq9⟩ := hq9
      rw [h35] at hq9
      refine mAQ_c h0 hw7 h60 (ea.trans hr) (fun y hy => ?_) hq9
      constructor
      · intro q; exact Or.inr ⟨hv, m, hm9, hz1, q⟩
      · rintro (q | ⟨-, m2, h1, h2, h3⟩)
        · omega
        · have h4m : eMd E (eQ E i) ≤ 4 := (hT.2.2.2.1.2.2 _ (hT2.2.2.2.2.2.2.1 hv)).2.2.2.1
          have e9 : m = m2 := (nI_eq (by omega) (by omega)).mp (hz1.symm.trans h2)
          rw [e9]; exact h3
set_option maxRecDepth 100000 in
set_option maxHeartbeats 4000000 in
theorem c_M_atom {i : Nat} {S : Int64} (hT : TM E st) (hi : i < eN E) (h4 : 4 ≤ eS E i) (hA : st.2.1 29 0 i = S) (hd : 3 ≤ d) : MC l D mM_atom d 0 0 [vR (some (5, 0)), vI (nI i)] st (mAQ E i S st) := by
  refine jm_start (ls0 := [some (vR (some (5, 0))), some (vI (nI i)), none, none, none, none]) (by decide) (Nat.le_of_ble_eq_true rfl) rfl ?_
  have hi250 : i < 250 := Nat.lt_of_lt_of_le hi hT.1.1
  have hm := hT.2.2.1
  obtain ⟨b1_, b2_, b3_, b4_, b5_, b6_, -, -⟩ := hT.2.2.2.2 i hi
  have hw7 := b5_.2.1
  refine jm_aload_n (pc := 0) dM_atom_0 rfl ?_
  refine jm_getq (pc := 1) lM_62 dM_atom_1 rfl rfl (hm 23 rfl) ?_
  refine jm_iload_n (pc := 4) dM_atom_4 rfl ?_
  refine jm_lald (pc := 5) dM_atom_5 rfl (by decide) rfl (fun _ => rfl) ?hin ?_
  case hin =>
    exact vp_in_nI (N := 250) (by omega) (by decide)
  rw [nI_clamp (by omega), hA]
  refine jm_lstore_n (pc := 6) dM_atom_6 (by decide) ?_
  refine jm_aload_n (pc := 7) dM_atom_7 rfl ?_
  refine jm_getq (pc := 8) lM_68 dM_atom_8 rfl rfl (hm 25 rfl) ?_
  refine jm_iload_n (pc := 11) dM_atom_11 rfl ?_
  refine jm_iconst (pc := 12) (v := 0) dM_atom_12 (by decide) ?_
  refine jm_zast (pc := 13) dM_atom_13 rfl (by decide) rfl (fun _ => rfl) ?hin (by first | exact Or.inl rfl | exact Or.inr rfl | assumption) ?_
  case hin =>
    exact vp_in_nI (N := 250) (by omega) (by decide)
  refine jm_aload_n (pc := 14) dM_atom_14 rfl ?_
  refine jm_getq (pc := 15) lM_81 dM_atom_15 rfl rfl (hm 29 rfl) ?_
  refine jm_iload_n (pc := 18) dM_atom_18 rfl ?_
  refine jm_iconst (pc := 19) (v := 0) dM_atom_19 (by decide) ?_
  refine jm_iast (pc := 20) dM_atom_20 rfl (by decide) rfl (fun _ => rfl) ?hin ?_
  case hin =>
    exact vp_in_nI (N := 250) (by omega) (by decide)
  rw [nI_clamp (by omega)]
  generalize hs1 : sI (sI st 31 0 i 0) 35 0 i 0 = s1
  have h0 : MEq i st s1 := by rw [← hs1]; exact (MEq.sI (Or.inl rfl)).tr (MEq.sI (Or.inr (Or.inr rfl)))
  have h31 : s1.1 31 0 i = 0 := by rw [← hs1]; exact (sI_ne (by omega)).trans sI_eq
  have h35 : s1.1 35 0 i = 0 := by rw [← hs1]; exact sI_eq
  have hm : mF s1 := fun j hj => by rw [h0.1]; exact hm j hj
  refine jm_aload_n (pc := 21) dM_atom_21 rfl ?_
  refine jm_getq (pc := 22) lM_43 dM_atom_22 rfl rfl (hm 14 rfl) ?_
  refine jm_iload_n (pc := 25) dM_atom_25 rfl ?_
  refine jm_iald (pc := 26) dM_atom_26 rfl (by decide) rfl (fun _ => rfl) ?hin ?_
  case hin =>
    exact vp_in_nI (N := 250) (by omega) (by decide)
  rw [nI_clamp (by omega), (h0.2.1 23 0 i (by omega)).trans b5_.1]
  refine jm_if_le (pc := 27) (tgt := 42) dM_atom_27 (by decide) (fun h27 => ?_) (fun h27 => ?_)
  · refine jm_iconst (pc := 42) (v := 0) dM_atom_42 (by decide) ?_
    first
      | exact lm_M_atom hT hi h4 h0 h31 h35 (b5_.2.2.2 0 hw0).2 (fun _ => rfl) hd
      | exact lm_M_atom (x := 0) hT hi h4 h0 h31 h35 (by decide) (fun q => absurd h27 (nI_nle q (by omega))) hd
  · refine jm_aload_n (pc := 30) dM_atom_30 rfl ?_
    refine jm_getq (pc := 31) lM_46 dM_atom_31 rfl rfl (hm 15 rfl) ?_
    refine jm_bipush (pc := 34) (v := 7) dM_atom_34 (by decide) ?_
    refine jm_iload_n (pc := 36) dM_atom_36 rfl ?_
    refine jm_imul (pc := 37) dM_atom_37 ?_
    have hw0 : 0 < eW E i := Nat.pos_of_ne_zero fun q => h27 (by rw [q]; decide)
    rw [show (7 : Int32) * nI i = nI (7 * i + 0) from pk_mul 7 i]
    refine jm_iald (pc := 38) dM_atom_38 rfl (by decide) rfl (fun _ => rfl) ?hin ?_
    case hin =>
      exact vp_in_nI (N := 1750) (by omega) (by decide)
    rw [nI_clamp (by omega), (h0.2.1 24 0 _ (by omega)).trans (b5_.2.2.2 0 hw0).1]
    refine jm_goto (pc := 39) (tgt := 43) dM_atom_39 (by decide) ?_
    first
      | exact lm_M_atom hT hi h4 h0 h31 h35 (b5_.2.2.2 0 hw0).2 (fun _ => rfl) hd
      | exact lm_M_atom (x := 0) hT hi h4 h0 h31 h35 (by decide) (fun q => absurd h27 (nI_nle q (by omega))) hd
end CM4
end
