section
-- ===== PART A: goes FIRST, ahead of the names: the tables' words, and 'selects' of the private methods out of them =====
/-- a private method of a class that the tables say can be made, by its rows of tables_1 -/
def lw_okq (q : MethodName × Nat) : Prop := (q.1.cls ≠ "java/lang/invoke/MethodHandle" ∧ q.1.cls ≠ "java/lang/invoke/VarHandle") ∧ Cond.instantiable q.1.cls q.2 ∈ tables_1 ∧ Cond.privateMethod q.1 ∈ tables_1 ∧ Cond.instanceMethod q.1 ∈ tables_1
theorem lw_p0 : lw_okq (⟨"BatteryCachesModel", "keep", "()V"⟩, 14) := ⟨⟨by decide +kernel, by decide +kernel⟩, List.mem_of_getElem? (i := 598) (by decide +kernel), List.mem_of_getElem? (i := 651) (by decide +kernel), List.mem_of_getElem? (i := 652) (by decide +kernel)⟩
theorem lw_p1 : lw_okq (⟨"BatteryCachesModel", "doRead", "(I)I"⟩, 14) := ⟨⟨by decide +kernel, by decide +kernel⟩, List.mem_of_getElem? (i := 598) (by decide +kernel), List.mem_of_getElem? (i := 655) (by decide +kernel), List.mem_of_getElem? (i := 656) (by decide +kernel)⟩
theorem lw_p2 : lw_okq (⟨"BatteryCachesModel", "touches", "(I)I"⟩, 14) := ⟨⟨by decide +kernel, by decide +kernel⟩, List.mem_of_getElem? (i := 598) (by decide +kernel), List.mem_of_getElem? (i := 666) (by decide +kernel), List.mem_of_getElem? (i := 667) (by decide +kernel)⟩
theorem lw_p3 : lw_okq (⟨"BatteryCachesModel", "holder", "(I)I"⟩, 14) := ⟨⟨by decide +kernel, by decide +kernel⟩, List.mem_of_getElem? (i := 598) (by decide +kernel), List.mem_of_getElem? (i := 670) (by decide +kernel), List.mem_of_getElem? (i := 671) (by decide +kernel)⟩
theorem lw_p4 : lw_okq (⟨"BatteryCachesModel", "counts", "(I)V"⟩, 14) := ⟨⟨by decide +kernel, by decide +kernel⟩, List.mem_of_getElem? (i := 598) (by decide +kernel), List.mem_of_getElem? (i := 674) (by decide +kernel), List.mem_of_getElem? (i := 675) (by decide +kernel)⟩
theorem lw_p5 : lw_okq (⟨"BatteryCachesModel", "oldest", "(I)I"⟩, 14) := ⟨⟨by decide +kernel, by decide +kernel⟩, List.mem_of_getElem? (i := 598) (by decide +kernel), List.mem_of_getElem? (i := 678) (by decide +kernel), List.mem_of_getElem? (i := 679) (by decide +kernel)⟩
theorem lw_p6 : lw_okq (⟨"BatteryCachesModel", "flushes", "(I)V"⟩, 14) := ⟨⟨by decide +kernel, by decide +kernel⟩, List.mem_of_getElem? (i := 598) (by decide +kernel), List.mem_of_getElem? (i := 682) (by decide +kernel), List.mem_of_getElem? (i := 683) (by decide +kernel)⟩
theorem lw_p7 : lw_okq (⟨"BatteryCachesModel", "lays", "(II)V"⟩, 14) := ⟨⟨by decide +kernel, by decide +kernel⟩, List.mem_of_getElem? (i := 598) (by decide +kernel), List.mem_of_getElem? (i := 686) (by decide +kernel), List.mem_of_getElem? (i := 687) (by decide +kernel)⟩
theorem lw_p8 : lw_okq (⟨"BatteryCachesModel", "turns", "(I)V"⟩, 14) := ⟨⟨by decide +kernel, by decide +kernel⟩, List.mem_of_getElem? (i := 598) (by decide +kernel), List.mem_of_getElem? (i := 690) (by decide +kernel), List.mem_of_getElem? (i := 691) (by decide +kernel)⟩
theorem lw_p9 : lw_okq (⟨"BatteryCachesModel", "changed", "(I)I"⟩, 14) := ⟨⟨by decide +kernel, by decide +kernel⟩, List.mem_of_getElem? (i := 598) (by decide +kernel), List.mem_of_getElem? (i := 695) (by decide +kernel), List.mem_of_getElem? (i := 696) (by decide +kernel)⟩
theorem lw_p10 : lw_okq (⟨"BatteryCachesModel", "doWrite", "(II)I"⟩, 14) := ⟨⟨by decide +kernel, by decide +kernel⟩, List.mem_of_getElem? (i := 598) (by decide +kernel), List.mem_of_getElem? (i := 704) (by decide +kernel), List.mem_of_getElem? (i := 705) (by decide +kernel)⟩
theorem lw_p11 : lw_okq (⟨"BatteryCachesModel", "many", "(I)I"⟩, 14) := ⟨⟨by decide +kernel, by decide +kernel⟩, List.mem_of_getElem? (i := 598) (by decide +kernel), List.mem_of_getElem? (i := 709) (by decide +kernel), List.mem_of_getElem? (i := 710) (by decide +kernel)⟩
theorem lw_p12 : lw_okq (⟨"BatteryCachesModel", "allowance", "()I"⟩, 14) := ⟨⟨by decide +kernel, by decide +kernel⟩, List.mem_of_getElem? (i := 598) (by decide +kernel), List.mem_of_getElem? (i := 713) (by decide +kernel), List.mem_of_getElem? (i := 714) (by decide +kernel)⟩
theorem lw_p13 : lw_okq (⟨"BatteryCachesModel", "setting", "(I)I"⟩, 14) := ⟨⟨by decide +kernel, by decide +kernel⟩, List.mem_of_getElem? (i := 598) (by decide +kernel), List.mem_of_getElem? (i := 717) (by decide +kernel), List.mem_of_getElem? (i := 718) (by decide +kernel)⟩
theorem lw_p14 : lw_okq (⟨"BatteryCachesModel", "doFlush", "(I)I"⟩, 14) := ⟨⟨by decide +kernel, by decide +kernel⟩, List.mem_of_getElem? (i := 598) (by decide +kernel), List.mem_of_getElem? (i := 725) (by decide +kernel), List.mem_of_getElem? (i := 726) (by decide +kernel)⟩
theorem lw_p15 : lw_okq (⟨"BatteryCachesModel", "doTick", "(I)I"⟩, 14) := ⟨⟨by decide +kernel, by decide +kernel⟩, List.mem_of_getElem? (i := 598) (by decide +kernel), List.mem_of_getElem? (i := 738) (by decide +kernel), List.mem_of_getElem? (i := 739) (by decide +kernel)⟩
def lw_privs_1 : List (MethodName × Nat) := [(⟨"BatteryCachesModel", "keep", "()V"⟩, 14), (⟨"BatteryCachesModel", "doRead", "(I)I"⟩, 14), (⟨"BatteryCachesModel", "touches", "(I)I"⟩, 14), (⟨"BatteryCachesModel", "holder", "(I)I"⟩, 14), (⟨"BatteryCachesModel", "counts", "(I)V"⟩, 14), (⟨"BatteryCachesModel", "oldest", "(I)I"⟩, 14), (⟨"BatteryCachesModel", "flushes", "(I)V"⟩, 14), (⟨"BatteryCachesModel", "lays", "(II)V"⟩, 14), (⟨"BatteryCachesModel", "turns", "(I)V"⟩, 14), (⟨"BatteryCachesModel", "changed", "(I)I"⟩, 14), (⟨"BatteryCachesModel", "doWrite", "(II)I"⟩, 14), (⟨"BatteryCachesModel", "many", "(I)I"⟩, 14), (⟨"BatteryCachesModel", "allowance", "()I"⟩, 14), (⟨"BatteryCachesModel", "setting", "(I)I"⟩, 14), (⟨"BatteryCachesModel", "doFlush", "(I)I"⟩, 14), (⟨"BatteryCachesModel", "doTick", "(I)I"⟩, 14)]
theorem lw_r1 : ∀ q ∈ lw_privs_1, lw_okq q := List.forall_mem_cons.mpr ⟨lw_p0, List.forall_mem_cons.mpr ⟨lw_p1, List.forall_mem_cons.mpr ⟨lw_p2, List.forall_mem_cons.mpr ⟨lw_p3, List.forall_mem_cons.mpr ⟨lw_p4, List.forall_mem_cons.mpr ⟨lw_p5, List.forall_mem_cons.mpr ⟨lw_p6, List.forall_mem_cons.mpr ⟨lw_p7, List.forall_mem_cons.mpr ⟨lw_p8, List.forall_mem_cons.mpr ⟨lw_p9, List.forall_mem_cons.mpr ⟨lw_p10, List.forall_mem_cons.mpr ⟨lw_p11, List.forall_mem_cons.mpr ⟨lw_p12, List.forall_mem_cons.mpr ⟨lw_p13, List.forall_mem_cons.mpr ⟨lw_p14, List.forall_mem_cons.mpr ⟨lw_p15, fun _ h => absurd h List.not_mem_nil⟩⟩⟩⟩⟩⟩⟩⟩⟩⟩⟩⟩⟩⟩⟩⟩
theorem lw_p16 : lw_okq (⟨"BatteryCachesModel", "ticksOn", "()I"⟩, 14) := ⟨⟨by decide +kernel, by decide +kernel⟩, List.mem_of_getElem? (i := 598) (by decide +kernel), List.mem_of_getElem? (i := 743) (by decide +kernel), List.mem_of_getElem? (i := 744) (by decide +kernel)⟩
theorem lw_p17 : lw_okq (⟨"BatteryCachesModel", "learnsOn", "()V"⟩, 14) := ⟨⟨by decide +kernel, by decide +kernel⟩, List.mem_of_getElem? (i := 598) (by decide +kernel), List.mem_of_getElem? (i := 747) (by decide +kernel), List.mem_of_getElem? (i := 748) (by decide +kernel)⟩
theorem lw_p18 : lw_okq (⟨"BatteryCachesModel", "drains", "(I)V"⟩, 14) := ⟨⟨by decide +kernel, by decide +kernel⟩, List.mem_of_getElem? (i := 598) (by decide +kernel), List.mem_of_getElem? (i := 751) (by decide +kernel), List.mem_of_getElem? (i := 752) (by decide +kernel)⟩
theorem lw_p19 : lw_okq (⟨"BatteryCachesModel", "charges", "()V"⟩, 14) := ⟨⟨by decide +kernel, by decide +kernel⟩, List.mem_of_getElem? (i := 598) (by decide +kernel), List.mem_of_getElem? (i := 755) (by decide +kernel), List.mem_of_getElem? (i := 756) (by decide +kernel)⟩
theorem lw_p20 : lw_okq (⟨"BatteryCachesModel", "capacity", "()I"⟩, 14) := ⟨⟨by decide +kernel, by decide +kernel⟩, List.mem_of_getElem? (i := 598) (by decide +kernel), List.mem_of_getElem? (i := 759) (by decide +kernel), List.mem_of_getElem? (i := 760) (by decide +kernel)⟩
theorem lw_p21 : lw_okq (⟨"BatteryCachesModel", "flushesToo", "()I"⟩, 14) := ⟨⟨by decide +kernel, by decide +kernel⟩, List.mem_of_getElem? (i := 598) (by decide +kernel), List.mem_of_getElem? (i := 763) (by decide +kernel), List.mem_of_getElem? (i := 764) (by decide +kernel)⟩
theorem lw_p22 : lw_okq (⟨"BatteryCachesModel", "doLoad", "(I)I"⟩, 14) := ⟨⟨by decide +kernel, by decide +kernel⟩, List.mem_of_getElem? (i := 598) (by decide +kernel), List.mem_of_getElem? (i := 771) (by decide +kernel), List.mem_of_getElem? (i := 772) (by decide +kernel)⟩
theorem lw_p23 : lw_okq (⟨"BatteryCachesModel", "doLearn", "()I"⟩, 14) := ⟨⟨by decide +kernel, by decide +kernel⟩, List.mem_of_getElem? (i := 598) (by decide +kernel), List.mem_of_getElem? (i := 779) (by decide +kernel), List.mem_of_getElem? (i := 780) (by decide +kernel)⟩
theorem lw_p24 : lw_okq (⟨"BatteryCachesModel", "doCut", "()I"⟩, 14) := ⟨⟨by decide +kernel, by decide +kernel⟩, List.mem_of_getElem? (i := 598) (by decide +kernel), List.mem_of_getElem? (i := 787) (by decide +kernel), List.mem_of_getElem? (i := 788) (by decide +kernel)⟩
theorem lw_p25 : lw_okq (⟨"BatteryCachesModel", "doSet", "(II)I"⟩, 14) := ⟨⟨by decide +kernel, by decide +kernel⟩, List.mem_of_getElem? (i := 598) (by decide +kernel), List.mem_of_getElem? (i := 795) (by decide +kernel), List.mem_of_getElem? (i := 796) (by decide +kernel)⟩
theorem lw_p26 : lw_okq (⟨"BatteryCachesModel", "lowerTurns", "(I)I"⟩, 14) := ⟨⟨by decide +kernel, by decide +kernel⟩, List.mem_of_getElem? (i := 598) (by decide +kernel), List.mem_of_getElem? (i := 807) (by decide +kernel), List.mem_of_getElem? (i := 808) (by decide +kernel)⟩
theorem lw_p27 : lw_okq (⟨"BatteryCachesModel", "saved", "()I"⟩, 14) := ⟨⟨by decide +kernel, by decide +kernel⟩, List.mem_of_getElem? (i := 598) (by decide +kernel), List.mem_of_getElem? (i := 820) (by decide +kernel), List.mem_of_getElem? (i := 821) (by decide +kernel)⟩
theorem lw_p28 : lw_okq (⟨"BatteryCachesModel", "losable", "()I"⟩, 14) := ⟨⟨by decide +kernel, by decide +kernel⟩, List.mem_of_getElem? (i := 598) (by decide +kernel), List.mem_of_getElem? (i := 828) (by decide +kernel), List.mem_of_getElem? (i := 829) (by decide +kernel)⟩
theorem lw_p29 : lw_okq (⟨"BatteryCachesModel", "dirtyBefore", "(I)I"⟩, 14) := ⟨⟨by decide +kernel, by decide +kernel⟩, List.mem_of_getElem? (i := 598) (by decide +kernel), List.mem_of_getElem? (i := 832) (by decide +kernel), List.mem_of_getElem? (i := 833) (by decide +kernel)⟩
theorem lw_p30 : lw_okq (⟨"BatteryCachesModel", "setOf", "(I)I"⟩, 14) := ⟨⟨by decide +kernel, by decide +kernel⟩, List.mem_of_getElem? (i := 598) (by decide +kernel), List.mem_of_getElem? (i := 836) (by decide +kernel), List.mem_of_getElem? (i := 837) (by decide +kernel)⟩
theorem lw_p31 : lw_okq (⟨"BatteryCachesModel", "giveBack", "()V"⟩, 14) := ⟨⟨by decide +kernel, by decide +kernel⟩, List.mem_of_getElem? (i := 598) (by decide +kernel), List.mem_of_getElem? (i := 844) (by decide +kernel), List.mem_of_getElem? (i := 845) (by decide +kernel)⟩
def lw_privs_2 : List (MethodName × Nat) := [(⟨"BatteryCachesModel", "ticksOn", "()I"⟩, 14), (⟨"BatteryCachesModel", "learnsOn", "()V"⟩, 14), (⟨"BatteryCachesModel", "drains", "(I)V"⟩, 14), (⟨"BatteryCachesModel", "charges", "()V"⟩, 14), (⟨"BatteryCachesModel", "capacity", "()I"⟩, 14), (⟨"BatteryCachesModel", "flushesToo", "()I"⟩, 14), (⟨"BatteryCachesModel", "doLoad", "(I)I"⟩, 14), (⟨"BatteryCachesModel", "doLearn", "()I"⟩, 14), (⟨"BatteryCachesModel", "doCut", "()I"⟩, 14), (⟨"BatteryCachesModel", "doSet", "(II)I"⟩, 14), (⟨"BatteryCachesModel", "lowerTurns", "(I)I"⟩, 14), (⟨"BatteryCachesModel", "saved", "()I"⟩, 14), (⟨"BatteryCachesModel", "losable", "()I"⟩, 14), (⟨"BatteryCachesModel", "dirtyBefore", "(I)I"⟩, 14), (⟨"BatteryCachesModel", "setOf", "(I)I"⟩, 14), (⟨"BatteryCachesModel", "giveBack", "()V"⟩, 14)]
theorem lw_r2 : ∀ q ∈ lw_privs_2, lw_okq q := List.forall_mem_cons.mpr ⟨lw_p16, List.forall_mem_cons.mpr ⟨lw_p17, List.forall_mem_cons.mpr ⟨lw_p18, List.forall_mem_cons.mpr ⟨lw_p19, List.forall_mem_cons.mpr ⟨lw_p20, List.forall_mem_cons.mpr ⟨lw_p21, List.forall_mem_cons.mpr ⟨lw_p22, List.forall_mem_cons.mpr ⟨lw_p23, List.forall_mem_cons.mpr ⟨lw_p24, List.forall_mem_cons.mpr ⟨lw_p25, List.forall_mem_cons.mpr ⟨lw_p26, List.forall_mem_cons.mpr ⟨lw_p27, List.forall_mem_cons.mpr ⟨lw_p28, List.forall_mem_cons.mpr ⟨lw_p29, List.forall_mem_cons.mpr ⟨lw_p30, List.forall_mem_cons.mpr ⟨lw_p31, fun _ h => absurd h List.not_mem_nil⟩⟩⟩⟩⟩⟩⟩⟩⟩⟩⟩⟩⟩⟩⟩⟩
theorem lw_p32 : lw_okq (⟨"BatteryCachesModel", "nearest", "(I)I"⟩, 14) := ⟨⟨by decide +kernel, by decide +kernel⟩, List.mem_of_getElem? (i := 598) (by decide +kernel), List.mem_of_getElem? (i := 862) (by decide +kernel), List.mem_of_getElem? (i := 863) (by decide +kernel)⟩
theorem lw_p33 : lw_okq (⟨"BatteryCachesModel", "apart", "(II)I"⟩, 14) := ⟨⟨by decide +kernel, by decide +kernel⟩, List.mem_of_getElem? (i := 598) (by decide +kernel), List.mem_of_getElem? (i := 866) (by decide +kernel), List.mem_of_getElem? (i := 867) (by decide +kernel)⟩
theorem lw_p34 : lw_okq (⟨"BatteryCachesModel", "doesAll", "()Z"⟩, 14) := ⟨⟨by decide +kernel, by decide +kernel⟩, List.mem_of_getElem? (i := 598) (by decide +kernel), List.mem_of_getElem? (i := 896) (by decide +kernel), List.mem_of_getElem? (i := 897) (by decide +kernel)⟩
theorem lw_p35 : lw_okq (⟨"BatteryCachesModel", "readsOrder", "()Z"⟩, 14) := ⟨⟨by decide +kernel, by decide +kernel⟩, List.mem_of_getElem? (i := 598) (by decide +kernel), List.mem_of_getElem? (i := 900) (by decide +kernel), List.mem_of_getElem? (i := 901) (by decide +kernel)⟩
theorem lw_p36 : lw_okq (⟨"BatteryCachesModel", "takesNumber", "()Z"⟩, 14) := ⟨⟨by decide +kernel, by decide +kernel⟩, List.mem_of_getElem? (i := 598) (by decide +kernel), List.mem_of_getElem? (i := 907) (by decide +kernel), List.mem_of_getElem? (i := 908) (by decide +kernel)⟩
theorem lw_p37 : lw_okq (⟨"BatteryCachesModel", "isHere", "(II)Z"⟩, 14) := ⟨⟨by decide +kernel, by decide +kernel⟩, List.mem_of_getElem? (i := 598) (by decide +kernel), List.mem_of_getElem? (i := 911) (by decide +kernel), List.mem_of_getElem? (i := 912) (by decide +kernel)⟩
theorem lw_p38 : lw_okq (⟨"BatteryCachesModel", "takes", "(I)Z"⟩, 14) := ⟨⟨by decide +kernel, by decide +kernel⟩, List.mem_of_getElem? (i := 598) (by decide +kernel), List.mem_of_getElem? (i := 915) (by decide +kernel), List.mem_of_getElem? (i := 916) (by decide +kernel)⟩
theorem lw_p39 : lw_okq (⟨"BatteryCachesModel", "notes", "(II)Z"⟩, 14) := ⟨⟨by decide +kernel, by decide +kernel⟩, List.mem_of_getElem? (i := 598) (by decide +kernel), List.mem_of_getElem? (i := 919) (by decide +kernel), List.mem_of_getElem? (i := 920) (by decide +kernel)⟩
theorem lw_p40 : lw_okq (⟨"BatteryCachesModel", "isInRange", "()Z"⟩, 14) := ⟨⟨by decide +kernel, by decide +kernel⟩, List.mem_of_getElem? (i := 598) (by decide +kernel), List.mem_of_getElem? (i := 923) (by decide +kernel), List.mem_of_getElem? (i := 924) (by decide +kernel)⟩
theorem lw_p41 : lw_okq (⟨"BatteryCachesModel", "doOrder", "()I"⟩, 14) := ⟨⟨by decide +kernel, by decide +kernel⟩, List.mem_of_getElem? (i := 598) (by decide +kernel), List.mem_of_getElem? (i := 927) (by decide +kernel), List.mem_of_getElem? (i := 928) (by decide +kernel)⟩
def lw_privs_3 : List (MethodName × Nat) := [(⟨"BatteryCachesModel", "nearest", "(I)I"⟩, 14), (⟨"BatteryCachesModel", "apart", "(II)I"⟩, 14), (⟨"BatteryCachesModel", "doesAll", "()Z"⟩, 14), (⟨"BatteryCachesModel", "readsOrder", "()Z"⟩, 14), (⟨"BatteryCachesModel", "takesNumber", "()Z"⟩, 14), (⟨"BatteryCachesModel", "isHere", "(II)Z"⟩, 14), (⟨"BatteryCachesModel", "takes", "(I)Z"⟩, 14), (⟨"BatteryCachesModel", "notes", "(II)Z"⟩, 14), (⟨"BatteryCachesModel", "isInRange", "()Z"⟩, 14), (⟨"BatteryCachesModel", "doOrder", "()I"⟩, 14)]
theorem lw_r3 : ∀ q ∈ lw_privs_3, lw_okq q := List.forall_mem_cons.mpr ⟨lw_p32, List.forall_mem_cons.mpr ⟨lw_p33, List.forall_mem_cons.mpr ⟨lw_p34, List.forall_mem_cons.mpr ⟨lw_p35, List.forall_mem_cons.mpr ⟨lw_p36, List.forall_mem_cons.mpr ⟨lw_p37, List.forall_mem_cons.mpr ⟨lw_p38, List.forall_mem_cons.mpr ⟨lw_p39, List.forall_mem_cons.mpr ⟨lw_p40, List.forall_mem_cons.mpr ⟨lw_p41, fun _ h => absurd h List.not_mem_nil⟩⟩⟩⟩⟩⟩⟩⟩⟩⟩
def lw_privs : List (MethodName × Nat) := lw_privs_1 ++ (lw_privs_2 ++ (lw_privs_3))
def lw_tbl : List Cond := k2_sels lw_privs ++ tables_1
theorem lw_privs_ok : ∀ q ∈ lw_privs, lw_okq q := by
  show ∀ q ∈ lw_privs_1 ++ (lw_privs_2 ++ (lw_privs_3)), lw_okq q
  exact List.forall_mem_append.mpr ⟨lw_r1, List.forall_mem_append.mpr ⟨lw_r2, lw_r3⟩⟩
-- ===== end of PART A; then your names; then what follows =====
/-! ===== BEGIN words of one list among another's, by their places ===== -/
theorem goodIn_r {big : List Cond} (ws : List Cond) (ps : List Nat) (hp : ws = ps.filterMap (fun i => big[i]?)) (h : ws.all goodWord = true) : GoodIn big ws := by
  intro w hw
  have h1 := List.all_eq_true.mp h w hw
  rw [hp] at hw
  obtain ⟨i, -, hi⟩ := List.mem_filterMap.mp hw
  have hm : w ∈ big := by first | exact List.mem_of_getElem? hi | exact List.getElem?_mem hi
  exact ⟨hm, good_of_word h1⟩
theorem goodIn_app {big a b : List Cond} (ha : GoodIn big a) (hb : GoodIn big b) : GoodIn big (a ++ b) := fun w h => (List.mem_append.mp h).elim (ha w) (hb w)
theorem goodIn_ca {big a b : List Cond} {c : Cond} (ha : GoodIn big (c :: a)) (hb : GoodIn big b) : GoodIn big (c :: (a ++ b)) := fun w h => (List.mem_cons.mp h).elim (fun e => ha w (List.mem_cons.mpr (Or.inl e))) (fun h => (List.mem_append.mp h).elim (fun h => ha w (List.mem_cons.mpr (Or.inr h))) (hb w))
theorem goodIn_sub {big ws : List Cond} (hm : ∀ w ∈ ws, w ∈ big) (h : ws.all goodWord = true) : GoodIn big ws := fun w hw => ⟨hm w hw, good_of_word (List.all_eq_true.mp h w hw)⟩
/-! ===== END ===== -/

/-! ===== BEGIN printed: names, fields, word lists, decode rows ===== -/
def RX0 : String := "BatteryCaches$Battery"
def TX0 : u_T := fun k => match k with
  | 0 => ("BatteryCaches$Battery", "charge", "I", false)
  | 1 => ("BatteryCaches$Battery", "wear", "I", false)
  | 2 => ("BatteryCaches$Battery", "cycle", "I", false)
  | 3 => ("BatteryCaches$Battery", "lineCost", "I", false)
  | 4 => ("BatteryCaches$Battery", "cutCost", "I", false)
  | 5 => ("BatteryCaches$Battery", "rise", "I", false)
  | _ => ("BatteryCaches$Battery", "fall", "I", false)
def tyX0 : Nat → FieldType := fun k => match k with
  | 0 => .int
  | 1 => .int
  | 2 => .int
  | 3 => .int
  | 4 => .int
  | 5 => .int
  | _ => .int
abbrev wsX00 : List Cond := u_ws RX0 TX0 7
theorem nmX0 : ∀ a, a < 7 → ∀ b, b < 7 → a ≠ b → (TX0 a).2.1 ≠ (TX0 b).2.1 := by decide +kernel
theorem tyX0_ok : ∀ k, k < 7 → parseFieldDescriptor (TX0 k).2.2.1 = some (tyX0 k) := by decide +kernel
abbrev cX0_init : ByteArray := prog_2_method_1_code
def yX0_init : MethodName := ⟨RX0, "<init>", "()V"⟩
abbrev cX0_copyFrom : ByteArray := prog_2_method_2_code
def yX0_copyFrom : MethodName := ⟨RX0, "copyFrom", "(LBatteryCaches$Battery;)V"⟩
abbrev cX0_setting : ByteArray := prog_2_method_3_code
def yX0_setting : MethodName := ⟨RX0, "setting", "(I)I"⟩
abbrev cX0_changeSetting : ByteArray := prog_2_method_4_code
def yX0_changeSetting : MethodName := ⟨RX0, "changeSetting", "(II)V"⟩
abbrev cX0_capacity : ByteArray := prog_2_method_5_code
def yX0_capacity : MethodName := ⟨RX0, "capacity", "()I"⟩
abbrev cX0_allowance : ByteArray := prog_2_method_6_code
def yX0_allowance : MethodName := ⟨RX0, "allowance", "()I"⟩
abbrev cX0_savable : ByteArray := prog_2_method_7_code
def yX0_savable : MethodName := ⟨RX0, "savable", "()I"⟩
abbrev cX0_costToSave : ByteArray := prog_2_method_8_code
def yX0_costToSave : MethodName := ⟨RX0, "costToSave", "(I)I"⟩
abbrev cX0_useUp : ByteArray := prog_2_method_9_code
def yX0_useUp : MethodName := ⟨RX0, "useUp", "(I)V"⟩
abbrev cX0_saveAtCut : ByteArray := prog_2_method_10_code
def yX0_saveAtCut : MethodName := ⟨RX0, "saveAtCut", "(I)V"⟩
abbrev cX0_passTick : ByteArray := prog_2_method_11_code
def yX0_passTick : MethodName := ⟨RX0, "passTick", "()Z"⟩
abbrev cX0_fallInCycle : ByteArray := prog_2_method_12_code
def yX0_fallInCycle : MethodName := ⟨RX0, "fallInCycle", "()V"⟩
def RX1 : String := "BatteryCaches$History"
def TX1 : u_T := fun k => match k with
  | 0 => ("BatteryCaches$History", "states", "[LBatteryCaches$State;", true)
  | _ => ("BatteryCaches$History", "size", "I", false)
def tyX1 : Nat → FieldType := fun k => match k with
  | 0 => .array (.object "BatteryCaches$State")
  | _ => .int
abbrev wsX10 : List Cond := u_ws RX1 TX1 2
theorem nmX1 : ∀ a, a < 2 → ∀ b, b < 2 → a ≠ b → (TX1 a).2.1 ≠ (TX1 b).2.1 := by decide +kernel
theorem tyX1_ok : ∀ k, k < 2 → parseFieldDescriptor (TX1 k).2.2.1 = some (tyX1 k) := by decide +kernel
abbrev cX1_init : ByteArray := prog_3_method_1_code
def yX1_init : MethodName := ⟨RX1, "<init>", "()V"⟩
abbrev cX1_keep : ByteArray := prog_3_method_2_code
def yX1_keep : MethodName := ⟨RX1, "keep", "(LBatteryCaches$State;)V"⟩
abbrev cX1_restore : ByteArray := prog_3_method_3_code
def yX1_restore : MethodName := ⟨RX1, "restore", "(LBatteryCaches$State;)V"⟩
abbrev cX1_dropOldest : ByteArray := prog_3_method_4_code
def yX1_dropOldest : MethodName := ⟨RX1, "dropOldest", "()V"⟩
def RX2 : String := "BatteryCaches$Order"
def TX2 : u_T := fun k => match k with
  | 0 => ("BatteryCaches$Order", "start", "I", false)
  | 1 => ("BatteryCaches$Order", "next", "I", false)
  | 2 => ("BatteryCaches$Order", "letter", "I", false)
  | 3 => ("BatteryCaches$Order", "number", "I", false)
  | 4 => ("BatteryCaches$Order", "newValue", "I", false)
  | 5 => ("BatteryCaches$Order", "reason", "I", false)
  | _ => ("BatteryCaches$Order", "cause", "I", false)
def tyX2 : Nat → FieldType := fun k => match k with
  | 0 => .int
  | 1 => .int
  | 2 => .int
  | 3 => .int
  | 4 => .int
  | 5 => .int
  | _ => .int
abbrev wsX20 : List Cond := u_ws RX2 TX2 7
theorem nmX2 : ∀ a, a < 7 → ∀ b, b < 7 → a ≠ b → (TX2 a).2.1 ≠ (TX2 b).2.1 := by decide +kernel
theorem tyX2_ok : ∀ k, k < 7 → parseFieldDescriptor (TX2 k).2.2.1 = some (tyX2 k) := by decide +kernel
abbrev cX2_init : ByteArray := prog_4_method_1_code
def yX2_init : MethodName := ⟨RX2, "<init>", "()V"⟩
abbrev cX2_beginText : ByteArray := prog_4_method_2_code
def yX2_beginText : MethodName := ⟨RX2, "beginText", "()V"⟩
abbrev cX2_readNext : ByteArray := prog_4_method_3_code
def yX2_readNext : MethodName := ⟨RX2, "readNext", "(LBatteryCaches$Text;)V"⟩
abbrev cX2_hasForm : ByteArray := prog_4_method_4_code
def yX2_hasForm : MethodName := ⟨RX2, "hasForm", "(LBatteryCaches$Text;)Z"⟩
abbrev cX2_hasFormOfWrite : ByteArray := prog_4_method_5_code
def yX2_hasFormOfWrite : MethodName := ⟨RX2, "hasFormOfWrite", "(LBatteryCaches$Text;)Z"⟩
abbrev cX2_readNumber : ByteArray := prog_4_method_6_code
def yX2_readNumber : MethodName := ⟨RX2, "readNumber", "(LBatteryCaches$Text;)I"⟩
abbrev cX2_readSign : ByteArray := prog_4_method_7_code
def yX2_readSign : MethodName := ⟨RX2, "readSign", "(LBatteryCaches$Text;I)Z"⟩
abbrev cX2_isInRange : ByteArray := prog_4_method_8_code
def yX2_isInRange : MethodName := ⟨RX2, "isInRange", "()Z"⟩
def RX3 : String := "BatteryCaches$Rehearsal"
def TX3 : u_T := fun k => match k with
  | 0 => ("BatteryCaches$Rehearsal", "trial", "LBatteryCaches$State;", true)
  | 1 => ("BatteryCaches$Rehearsal", "order", "LBatteryCaches$Order;", true)
  | _ => ("BatteryCaches$Rehearsal", "done", "I", false)
def tyX3 : Nat → FieldType := fun k => match k with
  | 0 => .object "BatteryCaches$State"
  | 1 => .object "BatteryCaches$Order"
  | _ => .int
abbrev wsX30 : List Cond := u_ws RX3 TX3 3
theorem nmX3 : ∀ a, a < 3 → ∀ b, b < 3 → a ≠ b → (TX3 a).2.1 ≠ (TX3 b).2.1 := by decide +kernel
theorem tyX3_ok : ∀ k, k < 3 → parseFieldDescriptor (TX3 k).2.2.1 = some (tyX3 k) := by decide +kernel
abbrev cX3_init : ByteArray := prog_5_method_1_code
def yX3_init : MethodName := ⟨RX3, "<init>", "()V"⟩
abbrev cX3_run : ByteArray := prog_5_method_2_code
def yX3_run : MethodName := ⟨RX3, "run", "(LBatteryCaches$Text;LBatteryCaches$State;)V"⟩
abbrev cX3_isPossible : ByteArray := prog_5_method_3_code
def yX3_isPossible : MethodName := ⟨RX3, "isPossible", "()Z"⟩
abbrev cX3_perform : ByteArray := prog_5_method_4_code
def yX3_perform : MethodName := ⟨RX3, "perform", "()V"⟩
def RX4 : String := "BatteryCaches$State"
def TX4 : u_T := fun k => match k with
  | 0 => ("BatteryCaches$State", "battery", "LBatteryCaches$Battery;", true)
  | 1 => ("BatteryCaches$State", "disk", "[I", true)
  | 2 => ("BatteryCaches$State", "laid", "[I", true)
  | 3 => ("BatteryCaches$State", "kind", "[I", true)
  | 4 => ("BatteryCaches$State", "place", "[I", true)
  | 5 => ("BatteryCaches$State", "value", "[I", true)
  | 6 => ("BatteryCaches$State", "turn", "[I", true)
  | 7 => ("BatteryCaches$State", "lastTurn", "I", false)
  | 8 => ("BatteryCaches$State", "ticks", "I", false)
  | 9 => ("BatteryCaches$State", "hits", "I", false)
  | 10 => ("BatteryCaches$State", "misses", "I", false)
  | 11 => ("BatteryCaches$State", "flushed", "I", false)
  | 12 => ("BatteryCaches$State", "wentThrough", "I", false)
  | 13 => ("BatteryCaches$State", "lost", "I", false)
  | 14 => ("BatteryCaches$State", "cuts", "I", false)
  | 15 => ("BatteryCaches$State", "cyclesEnded", "I", false)
  | _ => ("BatteryCaches$State", "laidInAll", "I", false)
def tyX4 : Nat → FieldType := fun k => match k with
  | 0 => .object "BatteryCaches$Battery"
  | 1 => .array .int
  | 2 => .array .int
  | 3 => .array .int
  | 4 => .array .int
  | 5 => .array .int
  | 6 => .array .int
  | 7 => .int
  | 8 => .int
  | 9 => .int
  | 10 => .int
  | 11 => .int
  | 12 => .int
  | 13 => .int
  | 14 => .int
  | 15 => .int
  | _ => .int
abbrev wsX40 : List Cond := u_ws RX4 TX4 17
theorem nmX4 : ∀ a, a < 17 → ∀ b, b < 17 → a ≠ b → (TX4 a).2.1 ≠ (TX4 b).2.1 := by decide +kernel
theorem tyX4_ok : ∀ k, k < 17 → parseFieldDescriptor (TX4 k).2.2.1 = some (tyX4 k) := by decide +kernel
abbrev cX4_init : ByteArray := prog_6_method_1_code
def yX4_init : MethodName := ⟨RX4, "<init>", "()V"⟩
abbrev cX4_copy : ByteArray := prog_6_method_2_code
def yX4_copy : MethodName := ⟨RX4, "copy", "(LBatteryCaches$State;LBatteryCaches$State;)V"⟩
abbrev cX4_readPlace : ByteArray := prog_6_method_3_code
def yX4_readPlace : MethodName := ⟨RX4, "readPlace", "(I)I"⟩
abbrev cX4_writePlace : ByteArray := prog_6_method_4_code
def yX4_writePlace : MethodName := ⟨RX4, "writePlace", "(II)I"⟩
abbrev cX4_lineFor : ByteArray := prog_6_method_5_code
def yX4_lineFor : MethodName := ⟨RX4, "lineFor", "(I)I"⟩
abbrev cX4_lineToTake : ByteArray := prog_6_method_6_code
def yX4_lineToTake : MethodName := ⟨RX4, "lineToTake", "()I"⟩
abbrev cX4_layIntoLine : ByteArray := prog_6_method_7_code
def yX4_layIntoLine : MethodName := ⟨RX4, "layIntoLine", "(II)V"⟩
abbrev cX4_flushLine : ByteArray := prog_6_method_8_code
def yX4_flushLine : MethodName := ⟨RX4, "flushLine", "(I)V"⟩
abbrev cX4_layOnDisk : ByteArray := prog_6_method_9_code
def yX4_layOnDisk : MethodName := ⟨RX4, "layOnDisk", "(II)V"⟩
abbrev cX4_passTicks : ByteArray := prog_6_method_10_code
def yX4_passTicks : MethodName := ⟨RX4, "passTicks", "(I)I"⟩
abbrev cX4_putLoad : ByteArray := prog_6_method_11_code
def yX4_putLoad : MethodName := ⟨RX4, "putLoad", "(I)I"⟩
abbrev cX4_beginCycle : ByteArray := prog_6_method_12_code
def yX4_beginCycle : MethodName := ⟨RX4, "beginCycle", "()I"⟩
abbrev cX4_cutPower : ByteArray := prog_6_method_13_code
def yX4_cutPower : MethodName := ⟨RX4, "cutPower", "()I"⟩
abbrev cX4_tooMany : ByteArray := prog_6_method_14_code
def yX4_tooMany : MethodName := ⟨RX4, "tooMany", "()I"⟩
abbrev cX4_flushLowest : ByteArray := prog_6_method_15_code
def yX4_flushLowest : MethodName := ⟨RX4, "flushLowest", "(I)I"⟩
abbrev cX4_savedByCut : ByteArray := prog_6_method_16_code
def yX4_savedByCut : MethodName := ⟨RX4, "savedByCut", "()I"⟩
abbrev cX4_lostByCut : ByteArray := prog_6_method_17_code
def yX4_lostByCut : MethodName := ⟨RX4, "lostByCut", "()I"⟩
abbrev cX4_holderOf : ByteArray := prog_6_method_18_code
def yX4_holderOf : MethodName := ⟨RX4, "holderOf", "(I)I"⟩
abbrev cX4_lowestEmpty : ByteArray := prog_6_method_19_code
def yX4_lowestEmpty : MethodName := ⟨RX4, "lowestEmpty", "()I"⟩
abbrev cX4_lowestTurn : ByteArray := prog_6_method_20_code
def yX4_lowestTurn : MethodName := ⟨RX4, "lowestTurn", "(I)I"⟩
abbrev cX4_linesAhead : ByteArray := prog_6_method_21_code
def yX4_linesAhead : MethodName := ⟨RX4, "linesAhead", "(II)I"⟩
abbrev cX4_numberOf : ByteArray := prog_6_method_22_code
def yX4_numberOf : MethodName := ⟨RX4, "numberOf", "(I)I"⟩
abbrev cX4_setOf : ByteArray := prog_6_method_23_code
def yX4_setOf : MethodName := ⟨RX4, "setOf", "(I)I"⟩
abbrev cX4_nearestPair : ByteArray := prog_6_method_24_code
def yX4_nearestPair : MethodName := ⟨RX4, "nearestPair", "()I"⟩
abbrev cX4_distanceToDirty : ByteArray := prog_6_method_25_code
def yX4_distanceToDirty : MethodName := ⟨RX4, "distanceToDirty", "(I)I"⟩
def RX5 : String := "BatteryCaches$Text"
def TX5 : u_T := fun k => match k with
  | 0 => ("BatteryCaches$Text", "characters", "[I", true)
  | _ => ("BatteryCaches$Text", "length", "I", false)
def tyX5 : Nat → FieldType := fun k => match k with
  | 0 => .array .int
  | _ => .int
abbrev wsX50 : List Cond := u_ws RX5 TX5 2
theorem nmX5 : ∀ a, a < 2 → ∀ b, b < 2 → a ≠ b → (TX5 a).2.1 ≠ (TX5 b).2.1 := by decide +kernel
theorem tyX5_ok : ∀ k, k < 2 → parseFieldDescriptor (TX5 k).2.2.1 = some (tyX5 k) := by decide +kernel
abbrev cX5_init : ByteArray := prog_7_method_1_code
def yX5_init : MethodName := ⟨RX5, "<init>", "()V"⟩
abbrev cX5_append : ByteArray := prog_7_method_2_code
def yX5_append : MethodName := ⟨RX5, "append", "(I)V"⟩
abbrev cX5_at : ByteArray := prog_7_method_3_code
def yX5_at : MethodName := ⟨RX5, "at", "(I)I"⟩
def RX6 : String := "BatteryCaches"
def TX6 : u_T := fun k => match k with
  | 0 => ("BatteryCaches", "now", "LBatteryCaches$State;", true)
  | 1 => ("BatteryCaches", "history", "LBatteryCaches$History;", true)
  | 2 => ("BatteryCaches", "text", "LBatteryCaches$Text;", true)
  | 3 => ("BatteryCaches", "rehearsal", "LBatteryCaches$Rehearsal;", true)
  | _ => ("BatteryCaches", "trialBattery", "LBatteryCaches$Battery;", true)
def tyX6 : Nat → FieldType := fun k => match k with
  | 0 => .object "BatteryCaches$State"
  | 1 => .object "BatteryCaches$History"
  | 2 => .object "BatteryCaches$Text"
  | 3 => .object "BatteryCaches$Rehearsal"
  | _ => .object "BatteryCaches$Battery"
abbrev wsX60 : List Cond := u_ws RX6 TX6 5
theorem nmX6 : ∀ a, a < 5 → ∀ b, b < 5 → a ≠ b → (TX6 a).2.1 ≠ (TX6 b).2.1 := by decide +kernel
theorem tyX6_ok : ∀ k, k < 5 → parseFieldDescriptor (TX6 k).2.2.1 = some (tyX6 k) := by decide +kernel
abbrev cX6_init : ByteArray := prog_1_method_1_code
def yX6_init : MethodName := ⟨RX6, "<init>", "()V"⟩
abbrev cX6_read : ByteArray := prog_1_method_2_code
def yX6_read : MethodName := ⟨RX6, "read", "(I)I"⟩
abbrev cX6_write : ByteArray := prog_1_method_3_code
def yX6_write : MethodName := ⟨RX6, "write", "(II)I"⟩
abbrev cX6_flush : ByteArray := prog_1_method_4_code
def yX6_flush : MethodName := ⟨RX6, "flush", "(I)I"⟩
abbrev cX6_tick : ByteArray := prog_1_method_5_code
def yX6_tick : MethodName := ⟨RX6, "tick", "(I)I"⟩
abbrev cX6_load : ByteArray := prog_1_method_6_code
def yX6_load : MethodName := ⟨RX6, "load", "(I)I"⟩
abbrev cX6_learn : ByteArray := prog_1_method_7_code
def yX6_learn : MethodName := ⟨RX6, "learn", "()I"⟩
abbrev cX6_cut : ByteArray := prog_1_method_8_code
def yX6_cut : MethodName := ⟨RX6, "cut", "()I"⟩
abbrev cX6_set : ByteArray := prog_1_method_9_code
def yX6_set : MethodName := ⟨RX6, "set", "(II)I"⟩
abbrev cX6_lineOf : ByteArray := prog_1_method_10_code
def yX6_lineOf : MethodName := ⟨RX6, "lineOf", "(II)I"⟩
abbrev cX6_placeOf : ByteArray := prog_1_method_11_code
def yX6_placeOf : MethodName := ⟨RX6, "placeOf", "(II)I"⟩
abbrev cX6_battery : ByteArray := prog_1_method_12_code
def yX6_battery : MethodName := ⟨RX6, "battery", "(I)I"⟩
abbrev cX6_lines : ByteArray := prog_1_method_13_code
def yX6_lines : MethodName := ⟨RX6, "lines", "(I)I"⟩
abbrev cX6_wouldFlush : ByteArray := prog_1_method_14_code
def yX6_wouldFlush : MethodName := ⟨RX6, "wouldFlush", "(I)I"⟩
abbrev cX6_critical : ByteArray := prog_1_method_15_code
def yX6_critical : MethodName := ⟨RX6, "critical", "()I"⟩
abbrev cX6_ticksUntil : ByteArray := prog_1_method_16_code
def yX6_ticksUntil : MethodName := ⟨RX6, "ticksUntil", "(I)I"⟩
abbrev cX6_pair : ByteArray := prog_1_method_17_code
def yX6_pair : MethodName := ⟨RX6, "pair", "(I)I"⟩
abbrev cX6_count : ByteArray := prog_1_method_18_code
def yX6_count : MethodName := ⟨RX6, "count", "(I)I"⟩
abbrev cX6_undo : ByteArray := prog_1_method_19_code
def yX6_undo : MethodName := ⟨RX6, "undo", "()I"⟩
abbrev cX6_type : ByteArray := prog_1_method_20_code
def yX6_type : MethodName := ⟨RX6, "type", "(I)I"⟩
abbrev cX6_clearText : ByteArray := prog_1_method_21_code
def yX6_clearText : MethodName := ⟨RX6, "clearText", "()I"⟩
abbrev cX6_fault : ByteArray := prog_1_method_22_code
def yX6_fault : MethodName := ⟨RX6, "fault", "(I)I"⟩
abbrev cX6_play : ByteArray := prog_1_method_23_code
def yX6_play : MethodName := ⟨RX6, "play", "()I"⟩
abbrev cX6_isWithin : ByteArray := prog_1_method_24_code
def yX6_isWithin : MethodName := ⟨RX6, "isWithin", "(III)Z"⟩
abbrev cX6_isPlace : ByteArray := prog_1_method_25_code
def yX6_isPlace : MethodName := ⟨RX6, "isPlace", "(I)Z"⟩
abbrev cX6_isLine : ByteArray := prog_1_method_26_code
def yX6_isLine : MethodName := ⟨RX6, "isLine", "(I)Z"⟩
abbrev cX6_isSetting : ByteArray := prog_1_method_27_code
def yX6_isSetting : MethodName := ⟨RX6, "isSetting", "(I)Z"⟩
abbrev cX6_copyRow : ByteArray := prog_1_method_28_code
def yX6_copyRow : MethodName := ⟨RX6, "copyRow", "([I[I)V"⟩
def RX7 : String := "BatteryCachesModel"
def TX7 : u_T := fun k => match k with
  | 0 => ("BatteryCachesModel", "all", "[I", true)
  | 1 => ("BatteryCachesModel", "kept", "[I", true)
  | 2 => ("BatteryCachesModel", "history", "[I", true)
  | 3 => ("BatteryCachesModel", "historyLong", "I", false)
  | 4 => ("BatteryCachesModel", "text", "[I", true)
  | 5 => ("BatteryCachesModel", "textLong", "I", false)
  | 6 => ("BatteryCachesModel", "from", "I", false)
  | 7 => ("BatteryCachesModel", "at", "I", false)
  | 8 => ("BatteryCachesModel", "first", "I", false)
  | 9 => ("BatteryCachesModel", "second", "I", false)
  | 10 => ("BatteryCachesModel", "number", "I", false)
  | 11 => ("BatteryCachesModel", "why", "I", false)
  | 12 => ("BatteryCachesModel", "cause", "I", false)
  | _ => ("BatteryCachesModel", "done", "I", false)
def tyX7 : Nat → FieldType := fun k => match k with
  | 0 => .array .int
  | 1 => .array .int
  | 2 => .array .int
  | 3 => .int
  | 4 => .array .int
  | 5 => .int
  | 6 => .int
  | 7 => .int
  | 8 => .int
  | 9 => .int
  | 10 => .int
  | 11 => .int
  | 12 => .int
  | _ => .int
abbrev wsX70 : List Cond := u_ws RX7 TX7 14
theorem nmX7 : ∀ a, a < 14 → ∀ b, b < 14 → a ≠ b → (TX7 a).2.1 ≠ (TX7 b).2.1 := by decide +kernel
theorem tyX7_ok : ∀ k, k < 14 → parseFieldDescriptor (TX7 k).2.2.1 = some (tyX7 k) := by decide +kernel
abbrev cX7_init : ByteArray := prog_9_method_1_code
def yX7_init : MethodName := ⟨RX7, "<init>", "()V"⟩
abbrev cX7_in : ByteArray := prog_9_method_3_code
def yX7_in : MethodName := ⟨RX7, "in", "(JJJ)Z"⟩
abbrev cX7_keep : ByteArray := prog_9_method_4_code
def yX7_keep : MethodName := ⟨RX7, "keep", "()V"⟩
abbrev cX7_giveBack : ByteArray := prog_9_method_5_code
def yX7_giveBack : MethodName := ⟨RX7, "giveBack", "()V"⟩
abbrev cX7_changed : ByteArray := prog_9_method_6_code
def yX7_changed : MethodName := ⟨RX7, "changed", "(I)I"⟩
abbrev cX7_counts : ByteArray := prog_9_method_7_code
def yX7_counts : MethodName := ⟨RX7, "counts", "(I)V"⟩
abbrev cX7_setting : ByteArray := prog_9_method_8_code
def yX7_setting : MethodName := ⟨RX7, "setting", "(I)I"⟩
abbrev cX7_isPlace : ByteArray := prog_9_method_9_code
def yX7_isPlace : MethodName := ⟨RX7, "isPlace", "(I)Z"⟩
abbrev cX7_isLine : ByteArray := prog_9_method_10_code
def yX7_isLine : MethodName := ⟨RX7, "isLine", "(I)Z"⟩
abbrev cX7_many : ByteArray := prog_9_method_11_code
def yX7_many : MethodName := ⟨RX7, "many", "(I)I"⟩
abbrev cX7_oldest : ByteArray := prog_9_method_12_code
def yX7_oldest : MethodName := ⟨RX7, "oldest", "(I)I"⟩
abbrev cX7_holder : ByteArray := prog_9_method_13_code
def yX7_holder : MethodName := ⟨RX7, "holder", "(I)I"⟩
abbrev cX7_lays : ByteArray := prog_9_method_14_code
def yX7_lays : MethodName := ⟨RX7, "lays", "(II)V"⟩
abbrev cX7_flushes : ByteArray := prog_9_method_15_code
def yX7_flushes : MethodName := ⟨RX7, "flushes", "(I)V"⟩
abbrev cX7_allowance : ByteArray := prog_9_method_16_code
def yX7_allowance : MethodName := ⟨RX7, "allowance", "()I"⟩
abbrev cX7_flushesToo : ByteArray := prog_9_method_17_code
def yX7_flushesToo : MethodName := ⟨RX7, "flushesToo", "()I"⟩
abbrev cX7_turns : ByteArray := prog_9_method_18_code
def yX7_turns : MethodName := ⟨RX7, "turns", "(I)V"⟩
abbrev cX7_touches : ByteArray := prog_9_method_19_code
def yX7_touches : MethodName := ⟨RX7, "touches", "(I)I"⟩
abbrev cX7_doRead : ByteArray := prog_9_method_20_code
def yX7_doRead : MethodName := ⟨RX7, "doRead", "(I)I"⟩
abbrev cX7_doWrite : ByteArray := prog_9_method_21_code
def yX7_doWrite : MethodName := ⟨RX7, "doWrite", "(II)I"⟩
abbrev cX7_capacity : ByteArray := prog_9_method_22_code
def yX7_capacity : MethodName := ⟨RX7, "capacity", "()I"⟩
abbrev cX7_charges : ByteArray := prog_9_method_23_code
def yX7_charges : MethodName := ⟨RX7, "charges", "()V"⟩
abbrev cX7_drains : ByteArray := prog_9_method_24_code
def yX7_drains : MethodName := ⟨RX7, "drains", "(I)V"⟩
abbrev cX7_learnsOn : ByteArray := prog_9_method_25_code
def yX7_learnsOn : MethodName := ⟨RX7, "learnsOn", "()V"⟩
abbrev cX7_ticksOn : ByteArray := prog_9_method_26_code
def yX7_ticksOn : MethodName := ⟨RX7, "ticksOn", "()I"⟩
abbrev cX7_doTick : ByteArray := prog_9_method_27_code
def yX7_doTick : MethodName := ⟨RX7, "doTick", "(I)I"⟩
abbrev cX7_doLoad : ByteArray := prog_9_method_28_code
def yX7_doLoad : MethodName := ⟨RX7, "doLoad", "(I)I"⟩
abbrev cX7_doLearn : ByteArray := prog_9_method_29_code
def yX7_doLearn : MethodName := ⟨RX7, "doLearn", "()I"⟩
abbrev cX7_doCut : ByteArray := prog_9_method_30_code
def yX7_doCut : MethodName := ⟨RX7, "doCut", "()I"⟩
abbrev cX7_doFlush : ByteArray := prog_9_method_31_code
def yX7_doFlush : MethodName := ⟨RX7, "doFlush", "(I)I"⟩
abbrev cX7_doSet : ByteArray := prog_9_method_32_code
def yX7_doSet : MethodName := ⟨RX7, "doSet", "(II)I"⟩
abbrev cX7_read : ByteArray := prog_9_method_33_code
def yX7_read : MethodName := ⟨RX7, "read", "(I)I"⟩
abbrev cX7_write : ByteArray := prog_9_method_34_code
def yX7_write : MethodName := ⟨RX7, "write", "(II)I"⟩
abbrev cX7_flush : ByteArray := prog_9_method_35_code
def yX7_flush : MethodName := ⟨RX7, "flush", "(I)I"⟩
abbrev cX7_tick : ByteArray := prog_9_method_36_code
def yX7_tick : MethodName := ⟨RX7, "tick", "(I)I"⟩
abbrev cX7_load : ByteArray := prog_9_method_37_code
def yX7_load : MethodName := ⟨RX7, "load", "(I)I"⟩
abbrev cX7_learn : ByteArray := prog_9_method_38_code
def yX7_learn : MethodName := ⟨RX7, "learn", "()I"⟩
abbrev cX7_cut : ByteArray := prog_9_method_39_code
def yX7_cut : MethodName := ⟨RX7, "cut", "()I"⟩
abbrev cX7_set : ByteArray := prog_9_method_40_code
def yX7_set : MethodName := ⟨RX7, "set", "(II)I"⟩
abbrev cX7_lowerTurns : ByteArray := prog_9_method_41_code
def yX7_lowerTurns : MethodName := ⟨RX7, "lowerTurns", "(I)I"⟩
abbrev cX7_lineOf : ByteArray := prog_9_method_42_code
def yX7_lineOf : MethodName := ⟨RX7, "lineOf", "(II)I"⟩
abbrev cX7_placeOf : ByteArray := prog_9_method_43_code
def yX7_placeOf : MethodName := ⟨RX7, "placeOf", "(II)I"⟩
abbrev cX7_saved : ByteArray := prog_9_method_44_code
def yX7_saved : MethodName := ⟨RX7, "saved", "()I"⟩
abbrev cX7_battery : ByteArray := prog_9_method_45_code
def yX7_battery : MethodName := ⟨RX7, "battery", "(I)I"⟩
abbrev cX7_setOf : ByteArray := prog_9_method_46_code
def yX7_setOf : MethodName := ⟨RX7, "setOf", "(I)I"⟩
abbrev cX7_dirtyBefore : ByteArray := prog_9_method_47_code
def yX7_dirtyBefore : MethodName := ⟨RX7, "dirtyBefore", "(I)I"⟩
abbrev cX7_losable : ByteArray := prog_9_method_48_code
def yX7_losable : MethodName := ⟨RX7, "losable", "()I"⟩
abbrev cX7_lines : ByteArray := prog_9_method_49_code
def yX7_lines : MethodName := ⟨RX7, "lines", "(I)I"⟩
abbrev cX7_wouldFlush : ByteArray := prog_9_method_50_code
def yX7_wouldFlush : MethodName := ⟨RX7, "wouldFlush", "(I)I"⟩
abbrev cX7_critical : ByteArray := prog_9_method_51_code
def yX7_critical : MethodName := ⟨RX7, "critical", "()I"⟩
abbrev cX7_ticksUntil : ByteArray := prog_9_method_52_code
def yX7_ticksUntil : MethodName := ⟨RX7, "ticksUntil", "(I)I"⟩
abbrev cX7_apart : ByteArray := prog_9_method_53_code
def yX7_apart : MethodName := ⟨RX7, "apart", "(II)I"⟩
abbrev cX7_nearest : ByteArray := prog_9_method_54_code
def yX7_nearest : MethodName := ⟨RX7, "nearest", "(I)I"⟩
abbrev cX7_pair : ByteArray := prog_9_method_55_code
def yX7_pair : MethodName := ⟨RX7, "pair", "(I)I"⟩
abbrev cX7_count : ByteArray := prog_9_method_56_code
def yX7_count : MethodName := ⟨RX7, "count", "(I)I"⟩
abbrev cX7_undo : ByteArray := prog_9_method_57_code
def yX7_undo : MethodName := ⟨RX7, "undo", "()I"⟩
abbrev cX7_type : ByteArray := prog_9_method_58_code
def yX7_type : MethodName := ⟨RX7, "type", "(I)I"⟩
abbrev cX7_clearText : ByteArray := prog_9_method_59_code
def yX7_clearText : MethodName := ⟨RX7, "clearText", "()I"⟩
abbrev cX7_isHere : ByteArray := prog_9_method_60_code
def yX7_isHere : MethodName := ⟨RX7, "isHere", "(II)Z"⟩
abbrev cX7_takes : ByteArray := prog_9_method_61_code
def yX7_takes : MethodName := ⟨RX7, "takes", "(I)Z"⟩
abbrev cX7_takesNumber : ByteArray := prog_9_method_62_code
def yX7_takesNumber : MethodName := ⟨RX7, "takesNumber", "()Z"⟩
abbrev cX7_isOrder : ByteArray := prog_9_method_63_code
def yX7_isOrder : MethodName := ⟨RX7, "isOrder", "(I)Z"⟩
abbrev cX7_readsOrder : ByteArray := prog_9_method_64_code
def yX7_readsOrder : MethodName := ⟨RX7, "readsOrder", "()Z"⟩
abbrev cX7_isInRange : ByteArray := prog_9_method_65_code
def yX7_isInRange : MethodName := ⟨RX7, "isInRange", "()Z"⟩
abbrev cX7_doOrder : ByteArray := prog_9_method_66_code
def yX7_doOrder : MethodName := ⟨RX7, "doOrder", "()I"⟩
abbrev cX7_notes : ByteArray := prog_9_method_67_code
def yX7_notes : MethodName := ⟨RX7, "notes", "(II)Z"⟩
abbrev cX7_doesAll : ByteArray := prog_9_method_68_code
def yX7_doesAll : MethodName := ⟨RX7, "doesAll", "()Z"⟩
abbrev cX7_fault : ByteArray := prog_9_method_69_code
def yX7_fault : MethodName := ⟨RX7, "fault", "(I)I"⟩
abbrev cX7_play : ByteArray := prog_9_method_70_code
def yX7_play : MethodName := ⟨RX7, "play", "()I"⟩
def RJ6 : String := "java/lang/Integer"
def TJ6 : u_T := fun k => match k with
  | _ => ("", "", "", false)
def tyJ6 : Nat → FieldType := fun k => match k with
  | _ => .int
abbrev wsJ60 : List Cond := u_ws RJ6 TJ6 0
theorem nmJ6 : ∀ a, a < 0 → ∀ b, b < 0 → a ≠ b → (TJ6 a).2.1 ≠ (TJ6 b).2.1 := by decide +kernel
theorem tyJ6_ok : ∀ k, k < 0 → parseFieldDescriptor (TJ6 k).2.2.1 = some (tyJ6 k) := by decide +kernel
abbrev cJ6_bitCount_0f7a4 : ByteArray := prog_10_method_49_code
def yJ6_bitCount_0f7a4 : MethodName := ⟨RJ6, "bitCount", "(I)I"⟩
def RJ9 : String := "java/lang/Math"
def TJ9 : u_T := fun k => match k with
  | _ => ("", "", "", false)
def tyJ9 : Nat → FieldType := fun k => match k with
  | _ => .int
abbrev wsJ90 : List Cond := u_ws RJ9 TJ9 0
theorem nmJ9 : ∀ a, a < 0 → ∀ b, b < 0 → a ≠ b → (TJ9 a).2.1 ≠ (TJ9 b).2.1 := by decide +kernel
theorem tyJ9_ok : ∀ k, k < 0 → parseFieldDescriptor (TJ9 k).2.2.1 = some (tyJ9 k) := by decide +kernel
abbrev cJ9_abs_0f7a4 : ByteArray := prog_11_method_59_code
def yJ9_abs_0f7a4 : MethodName := ⟨RJ9, "abs", "(I)I"⟩
abbrev cJ9_max_7cf53 : ByteArray := prog_11_method_65_code
def yJ9_max_7cf53 : MethodName := ⟨RJ9, "max", "(II)I"⟩
abbrev cJ9_min_7cf53 : ByteArray := prog_11_method_69_code
def yJ9_min_7cf53 : MethodName := ⟨RJ9, "min", "(II)I"⟩
def RJ10 : String := "java/lang/System"
def TJ10 : u_T := fun k => match k with
  | _ => ("", "", "", false)
def tyJ10 : Nat → FieldType := fun k => match k with
  | _ => .int
abbrev wsJ100 : List Cond := u_ws RJ10 TJ10 0
theorem nmJ10 : ∀ a, a < 0 → ∀ b, b < 0 → a ≠ b → (TJ10 a).2.1 ≠ (TJ10 b).2.1 := by decide +kernel
theorem tyJ10_ok : ∀ k, k < 0 → parseFieldDescriptor (TJ10 k).2.2.1 = some (tyJ10 k) := by decide +kernel
def RL : String := "BatteryCachesLaw"
abbrev cL_law : ByteArray := code
def yL_law : MethodName := ⟨RL, "law", "([I)Z"⟩
def wsX0_init : List Cond := .code yX0_init cX0_init 1 none :: ([.methodLink RX0 3 objectInit, .instanceMethod objectInit, .code objectInit ⟨#[0xb1]⟩ 1 none, .fieldLink RX0 9 "BatteryCaches$Battery" "charge" "I", .fieldLink RX0 15 "BatteryCaches$Battery" "wear" "I", .fieldLink RX0 18 "BatteryCaches$Battery" "cycle" "I", .fieldLink RX0 21 "BatteryCaches$Battery" "lineCost" "I", .fieldLink RX0 24 "BatteryCaches$Battery" "cutCost" "I", .fieldLink RX0 27 "BatteryCaches$Battery" "rise" "I", .fieldLink RX0 30 "BatteryCaches$Battery" "fall" "I"] ++ wsX00)
def wsX0_copyFrom : List Cond := .code yX0_copyFrom cX0_copyFrom 2 none :: ([.fieldLink RX0 9 "BatteryCaches$Battery" "charge" "I", .fieldLink RX0 15 "BatteryCaches$Battery" "wear" "I", .fieldLink RX0 18 "BatteryCaches$Battery" "cycle" "I", .fieldLink RX0 21 "BatteryCaches$Battery" "lineCost" "I", .fieldLink RX0 24 "BatteryCaches$Battery" "cutCost" "I", .fieldLink RX0 27 "BatteryCaches$Battery" "rise" "I", .fieldLink RX0 30 "BatteryCaches$Battery" "fall" "I"] ++ wsX00)
def wsX0_setting : List Cond := .code yX0_setting cX0_setting 2 (some .int) :: ([.fieldLink RX0 21 "BatteryCaches$Battery" "lineCost" "I", .fieldLink RX0 24 "BatteryCaches$Battery" "cutCost" "I", .fieldLink RX0 27 "BatteryCaches$Battery" "rise" "I", .fieldLink RX0 30 "BatteryCaches$Battery" "fall" "I"] ++ wsX00)
def wsX0_changeSetting : List Cond := .code yX0_changeSetting cX0_changeSetting 3 none :: ([.fieldLink RX0 21 "BatteryCaches$Battery" "lineCost" "I", .fieldLink RX0 24 "BatteryCaches$Battery" "cutCost" "I", .fieldLink RX0 27 "BatteryCaches$Battery" "rise" "I", .fieldLink RX0 30 "BatteryCaches$Battery" "fall" "I"] ++ wsX00)
def wsX0_capacity : List Cond := .code yX0_capacity cX0_capacity 1 (some .int) :: ([.fieldLink RX0 15 "BatteryCaches$Battery" "wear" "I"] ++ wsX00)
def wsX0_savable : List Cond := .code yX0_savable cX0_savable 1 (some .int) :: ([.fieldLink RX0 9 "BatteryCaches$Battery" "charge" "I", .fieldLink RX0 24 "BatteryCaches$Battery" "cutCost" "I", .fieldLink RX0 21 "BatteryCaches$Battery" "lineCost" "I", .methodLink RX0 37 Lib.Math.min.name, .static Lib.Math.min.name, .initialized "java/lang/Math", .code Lib.Math.min.name Lib.Math.min.code 2 (some .int)] ++ wsX00)
def wsX0_allowance : List Cond := .code yX0_allowance cX0_allowance 1 (some .int) :: ([.fieldLink RX0 18 "BatteryCaches$Battery" "cycle" "I", .methodLink RX0 33 yX0_savable, .instanceMethod yX0_savable, .selects RX0 yX0_savable yX0_savable, .initialized RX0, .code yX0_savable cX0_savable 1 (some .int), .fieldLink RX0 9 "BatteryCaches$Battery" "charge" "I", .fieldLink RX0 24 "BatteryCaches$Battery" "cutCost" "I", .fieldLink RX0 21 "BatteryCaches$Battery" "lineCost" "I", .methodLink RX0 37 Lib.Math.min.name, .static Lib.Math.min.name, .initialized "java/lang/Math", .code Lib.Math.min.name Lib.Math.min.code 2 (some .int)] ++ wsX00)
def wsX0_costToSave : List Cond := .code yX0_costToSave cX0_costToSave 2 (some .int) :: ([.fieldLink RX0 24 "BatteryCaches$Battery" "cutCost" "I", .fieldLink RX0 21 "BatteryCaches$Battery" "lineCost" "I"] ++ wsX00)
def wsX0_useUp : List Cond := .code yX0_useUp cX0_useUp 2 none :: ([.fieldLink RX0 9 "BatteryCaches$Battery" "charge" "I", .methodLink RX0 43 Lib.Math.max.name, .static Lib.Math.max.name, .initialized "java/lang/Math", .code Lib.Math.max.name Lib.Math.max.code 2 (some .int)] ++ wsX00)
def wsX0_saveAtCut : List Cond := .code yX0_saveAtCut cX0_saveAtCut 2 none :: ([.fieldLink RX0 18 "BatteryCaches$Battery" "cycle" "I", .methodLink RX0 46 yX0_costToSave, .instanceMethod yX0_costToSave, .selects RX0 yX0_costToSave yX0_costToSave, .initialized RX0, .code yX0_costToSave cX0_costToSave 2 (some .int), .fieldLink RX0 24 "BatteryCaches$Battery" "cutCost" "I", .fieldLink RX0 21 "BatteryCaches$Battery" "lineCost" "I", .methodLink RX0 50 yX0_useUp, .instanceMethod yX0_useUp, .selects RX0 yX0_useUp yX0_useUp, .code yX0_useUp cX0_useUp 2 none, .fieldLink RX0 9 "BatteryCaches$Battery" "charge" "I", .methodLink RX0 43 Lib.Math.max.name, .static Lib.Math.max.name, .initialized "java/lang/Math", .code Lib.Math.max.name Lib.Math.max.code 2 (some .int)] ++ wsX00)
def wsX0_fallInCycle : List Cond := .code yX0_fallInCycle cX0_fallInCycle 1 none :: ([.fieldLink RX0 30 "BatteryCaches$Battery" "fall" "I", .fieldLink RX0 9 "BatteryCaches$Battery" "charge" "I", .fieldLink RX0 15 "BatteryCaches$Battery" "wear" "I", .methodLink RX0 37 Lib.Math.min.name, .static Lib.Math.min.name, .initialized "java/lang/Math", .code Lib.Math.min.name Lib.Math.min.code 2 (some .int), .fieldLink RX0 18 "BatteryCaches$Battery" "cycle" "I", .methodLink RX0 50 yX0_useUp, .instanceMethod yX0_useUp, .selects RX0 yX0_useUp yX0_useUp, .initialized RX0, .code yX0_useUp cX0_useUp 2 none, .methodLink RX0 43 Lib.Math.max.name, .static Lib.Math.max.name, .code Lib.Math.max.name Lib.Math.max.code 2 (some .int)] ++ wsX00)
def wsX0_passTick_r1 : List Cond := [Cond.fieldLink RX0 18 "BatteryCaches$Battery" "cycle" "I", Cond.fieldLink RX0 9 "BatteryCaches$Battery" "charge" "I", Cond.fieldLink RX0 27 "BatteryCaches$Battery" "rise" "I", Cond.methodLink RX0 37 Lib.Math.min.name, Cond.static Lib.Math.min.name, Cond.initialized "java/lang/Math", Cond.code Lib.Math.min.name Lib.Math.min.code 2 (some .int), Cond.methodLink RX0 54 yX0_fallInCycle, Cond.instanceMethod yX0_fallInCycle, Cond.selects RX0 yX0_fallInCycle yX0_fallInCycle, Cond.initialized RX0, Cond.code yX0_fallInCycle cX0_fallInCycle 1 none, Cond.fieldLink RX0 30 "BatteryCaches$Battery" "fall" "I", Cond.fieldLink RX0 15 "BatteryCaches$Battery" "wear" "I", Cond.methodLink RX0 50 yX0_useUp, Cond.instanceMethod yX0_useUp, Cond.selects RX0 yX0_useUp yX0_useUp, Cond.code yX0_useUp cX0_useUp 2 none, Cond.methodLink RX0 43 Lib.Math.max.name, Cond.static Lib.Math.max.name, Cond.code Lib.Math.max.name Lib.Math.max.code 2 (some .int), Cond.methodLink RX0 57 yX0_capacity, Cond.instanceMethod yX0_capacity, Cond.selects RX0 yX0_capacity yX0_capacity]
def wsX0_passTick_r2 : List Cond := [Cond.code yX0_capacity cX0_capacity 1 (some .int)]
def wsX0_passTick : List Cond := .code yX0_passTick cX0_passTick 1 (some .boolean) :: ((wsX0_passTick_r1 ++ wsX0_passTick_r2) ++ wsX00)
def wsX4_init_r1 : List Cond := [Cond.methodLink RX4 3 objectInit, Cond.instanceMethod objectInit, Cond.code objectInit ⟨#[0xb1]⟩ 1 none, Cond.classLink RX4 9 RX0, Cond.instantiable RX0 7, Cond.initialized RX0, Cond.fieldLink RX4 12 "BatteryCaches$State" "battery" "LBatteryCaches$Battery;", Cond.arrayClass .int, Cond.fieldLink RX4 18 "BatteryCaches$State" "disk" "[I", Cond.fieldLink RX4 22 "BatteryCaches$State" "laid" "[I", Cond.fieldLink RX4 25 "BatteryCaches$State" "kind" "[I", Cond.fieldLink RX4 28 "BatteryCaches$State" "place" "[I", Cond.fieldLink RX4 31 "BatteryCaches$State" "value" "[I", Cond.fieldLink RX4 34 "BatteryCaches$State" "turn" "[I", Cond.fieldLink RX4 37 "BatteryCaches$State" "lastTurn" "I", Cond.fieldLink RX4 41 "BatteryCaches$State" "ticks" "I", Cond.fieldLink RX4 44 "BatteryCaches$State" "hits" "I", Cond.fieldLink RX4 47 "BatteryCaches$State" "misses" "I", Cond.fieldLink RX4 50 "BatteryCaches$State" "flushed" "I", Cond.fieldLink RX4 53 "BatteryCaches$State" "wentThrough" "I", Cond.fieldLink RX4 56 "BatteryCaches$State" "lost" "I", Cond.fieldLink RX4 59 "BatteryCaches$State" "cuts" "I", Cond.fieldLink RX4 62 "BatteryCaches$State" "cyclesEnded" "I", Cond.fieldLink RX4 65 "BatteryCaches$State" "laidInAll" "I"]
def wsX4_init_r2 : List Cond := [Cond.instanceMethod yX0_init, Cond.code yX0_init cX0_init 1 none, Cond.methodLink RX0 3 objectInit, Cond.fieldLink RX0 9 "BatteryCaches$Battery" "charge" "I", Cond.fieldLink RX0 15 "BatteryCaches$Battery" "wear" "I", Cond.fieldLink RX0 18 "BatteryCaches$Battery" "cycle" "I", Cond.fieldLink RX0 21 "BatteryCaches$Battery" "lineCost" "I", Cond.fieldLink RX0 24 "BatteryCaches$Battery" "cutCost" "I", Cond.fieldLink RX0 27 "BatteryCaches$Battery" "rise" "I", Cond.fieldLink RX0 30 "BatteryCaches$Battery" "fall" "I"]
def wsX4_init : List Cond := .code yX4_init cX4_init 1 none :: ((wsX4_init_r1 ++ wsX4_init_r2) ++ wsX00 ++ wsX40)
def wsX1_init_r1 : List Cond := [Cond.methodLink RX1 3 objectInit, Cond.instanceMethod objectInit, Cond.code objectInit ⟨#[0xb1]⟩ 1 none, Cond.classLink RX1 9 RX4, Cond.fieldLink RX1 11 "BatteryCaches$History" "states" "[LBatteryCaches$State;", Cond.fieldLink RX1 17 "BatteryCaches$History" "size" "I", Cond.instantiable RX4 17, Cond.initialized RX4, Cond.instanceMethod yX4_init, Cond.code yX4_init cX4_init 1 none, Cond.methodLink RX4 3 objectInit, Cond.classLink RX4 9 RX0, Cond.instantiable RX0 7, Cond.initialized RX0, Cond.fieldLink RX4 12 "BatteryCaches$State" "battery" "LBatteryCaches$Battery;", Cond.arrayClass .int, Cond.fieldLink RX4 18 "BatteryCaches$State" "disk" "[I", Cond.fieldLink RX4 22 "BatteryCaches$State" "laid" "[I", Cond.fieldLink RX4 25 "BatteryCaches$State" "kind" "[I", Cond.fieldLink RX4 28 "BatteryCaches$State" "place" "[I", Cond.fieldLink RX4 31 "BatteryCaches$State" "value" "[I", Cond.fieldLink RX4 34 "BatteryCaches$State" "turn" "[I", Cond.fieldLink RX4 37 "BatteryCaches$State" "lastTurn" "I", Cond.fieldLink RX4 41 "BatteryCaches$State" "ticks" "I"]
def wsX1_init_r2 : List Cond := [Cond.fieldLink RX4 44 "BatteryCaches$State" "hits" "I", Cond.fieldLink RX4 47 "BatteryCaches$State" "misses" "I", Cond.fieldLink RX4 50 "BatteryCaches$State" "flushed" "I", Cond.fieldLink RX4 53 "BatteryCaches$State" "wentThrough" "I", Cond.fieldLink RX4 56 "BatteryCaches$State" "lost" "I", Cond.fieldLink RX4 59 "BatteryCaches$State" "cuts" "I", Cond.fieldLink RX4 62 "BatteryCaches$State" "cyclesEnded" "I", Cond.fieldLink RX4 65 "BatteryCaches$State" "laidInAll" "I", Cond.instanceMethod yX0_init, Cond.code yX0_init cX0_init 1 none, Cond.methodLink RX0 3 objectInit, Cond.fieldLink RX0 9 "BatteryCaches$Battery" "charge" "I", Cond.fieldLink RX0 15 "BatteryCaches$Battery" "wear" "I", Cond.fieldLink RX0 18 "BatteryCaches$Battery" "cycle" "I", Cond.fieldLink RX0 21 "BatteryCaches$Battery" "lineCost" "I", Cond.fieldLink RX0 24 "BatteryCaches$Battery" "cutCost" "I", Cond.fieldLink RX0 27 "BatteryCaches$Battery" "rise" "I", Cond.fieldLink RX0 30 "BatteryCaches$Battery" "fall" "I"]
def wsX1_init : List Cond := .code yX1_init cX1_init 2 none :: ((wsX1_init_r1 ++ wsX1_init_r2) ++ wsX10 ++ wsX40 ++ wsX00)
def wsX1_dropOldest : List Cond := .code yX1_dropOldest cX1_dropOldest 3 none :: ([.fieldLink RX1 11 "BatteryCaches$History" "states" "[LBatteryCaches$State;", .fieldLink RX1 17 "BatteryCaches$History" "size" "I"] ++ wsX10)
def wsX6_isWithin : List Cond := .code yX6_isWithin cX6_isWithin 3 (some .boolean) :: ([])
def wsX6_copyRow : List Cond := .code yX6_copyRow cX6_copyRow 2 none :: ([.methodLink RX6 253 Lib.Math.min.name, .static Lib.Math.min.name, .initialized "java/lang/Math", .code Lib.Math.min.name Lib.Math.min.code 2 (some .int), .methodLink RX6 256 arraycopyName, .native arraycopyName, .static arraycopyName, .initialized "java/lang/System"])
def wsX4_copy_r1 : List Cond := [Cond.fieldLink RX4 12 "BatteryCaches$State" "battery" "LBatteryCaches$Battery;", Cond.fieldLink RX4 18 "BatteryCaches$State" "disk" "[I", Cond.fieldLink RX4 22 "BatteryCaches$State" "laid" "[I", Cond.fieldLink RX4 25 "BatteryCaches$State" "kind" "[I", Cond.fieldLink RX4 28 "BatteryCaches$State" "place" "[I", Cond.fieldLink RX4 31 "BatteryCaches$State" "value" "[I", Cond.fieldLink RX4 34 "BatteryCaches$State" "turn" "[I", Cond.fieldLink RX4 37 "BatteryCaches$State" "lastTurn" "I", Cond.fieldLink RX4 41 "BatteryCaches$State" "ticks" "I", Cond.fieldLink RX4 44 "BatteryCaches$State" "hits" "I", Cond.fieldLink RX4 47 "BatteryCaches$State" "misses" "I", Cond.fieldLink RX4 50 "BatteryCaches$State" "flushed" "I", Cond.fieldLink RX4 53 "BatteryCaches$State" "wentThrough" "I", Cond.fieldLink RX4 56 "BatteryCaches$State" "lost" "I", Cond.fieldLink RX4 59 "BatteryCaches$State" "cuts" "I", Cond.fieldLink RX4 62 "BatteryCaches$State" "cyclesEnded" "I", Cond.fieldLink RX4 65 "BatteryCaches$State" "laidInAll" "I", Cond.methodLink RX4 68 yX0_copyFrom, Cond.instanceMethod yX0_copyFrom, Cond.selects RX0 yX0_copyFrom yX0_copyFrom, Cond.initialized RX0, Cond.code yX0_copyFrom cX0_copyFrom 2 none, Cond.fieldLink RX0 9 "BatteryCaches$Battery" "charge" "I", Cond.fieldLink RX0 15 "BatteryCaches$Battery" "wear" "I"]
def wsX4_copy_r2 : List Cond := [Cond.fieldLink RX0 18 "BatteryCaches$Battery" "cycle" "I", Cond.fieldLink RX0 21 "BatteryCaches$Battery" "lineCost" "I", Cond.fieldLink RX0 24 "BatteryCaches$Battery" "cutCost" "I", Cond.fieldLink RX0 27 "BatteryCaches$Battery" "rise" "I", Cond.fieldLink RX0 30 "BatteryCaches$Battery" "fall" "I", Cond.static yX6_copyRow, Cond.initialized RX6, Cond.code yX6_copyRow cX6_copyRow 2 none, Cond.methodLink RX6 253 Lib.Math.min.name, Cond.static Lib.Math.min.name, Cond.initialized "java/lang/Math", Cond.code Lib.Math.min.name Lib.Math.min.code 2 (some .int), Cond.methodLink RX6 256 arraycopyName, Cond.native arraycopyName, Cond.static arraycopyName, Cond.initialized "java/lang/System"]
def wsX4_copy : List Cond := .code yX4_copy cX4_copy 2 none :: ((wsX4_copy_r1 ++ wsX4_copy_r2) ++ wsX40 ++ wsX00)
def wsX1_keep_r1 : List Cond := [Cond.fieldLink RX1 17 "BatteryCaches$History" "size" "I", Cond.fieldLink RX1 11 "BatteryCaches$History" "states" "[LBatteryCaches$State;", Cond.methodLink RX1 22 yX1_dropOldest, Cond.instanceMethod yX1_dropOldest, Cond.selects RX1 yX1_dropOldest yX1_dropOldest, Cond.initialized RX1, Cond.code yX1_dropOldest cX1_dropOldest 3 none, Cond.static yX6_isWithin, Cond.initialized RX6, Cond.code yX6_isWithin cX6_isWithin 3 (some .boolean), Cond.methodLink RX1 29 yX4_copy, Cond.static yX4_copy, Cond.initialized RX4, Cond.code yX4_copy cX4_copy 2 none, Cond.fieldLink RX4 12 "BatteryCaches$State" "battery" "LBatteryCaches$Battery;", Cond.fieldLink RX4 18 "BatteryCaches$State" "disk" "[I", Cond.fieldLink RX4 22 "BatteryCaches$State" "laid" "[I", Cond.fieldLink RX4 25 "BatteryCaches$State" "kind" "[I", Cond.fieldLink RX4 28 "BatteryCaches$State" "place" "[I", Cond.fieldLink RX4 31 "BatteryCaches$State" "value" "[I", Cond.fieldLink RX4 34 "BatteryCaches$State" "turn" "[I", Cond.fieldLink RX4 37 "BatteryCaches$State" "lastTurn" "I", Cond.fieldLink RX4 41 "BatteryCaches$State" "ticks" "I", Cond.fieldLink RX4 44 "BatteryCaches$State" "hits" "I"]
def wsX1_keep_r2 : List Cond := [Cond.fieldLink RX4 47 "BatteryCaches$State" "misses" "I", Cond.fieldLink RX4 50 "BatteryCaches$State" "flushed" "I", Cond.fieldLink RX4 53 "BatteryCaches$State" "wentThrough" "I", Cond.fieldLink RX4 56 "BatteryCaches$State" "lost" "I", Cond.fieldLink RX4 59 "BatteryCaches$State" "cuts" "I", Cond.fieldLink RX4 62 "BatteryCaches$State" "cyclesEnded" "I", Cond.fieldLink RX4 65 "BatteryCaches$State" "laidInAll" "I", Cond.methodLink RX4 68 yX0_copyFrom, Cond.instanceMethod yX0_copyFrom, Cond.selects RX0 yX0_copyFrom yX0_copyFrom, Cond.initialized RX0, Cond.code yX0_copyFrom cX0_copyFrom 2 none, Cond.fieldLink RX0 9 "BatteryCaches$Battery" "charge" "I", Cond.fieldLink RX0 15 "BatteryCaches$Battery" "wear" "I", Cond.fieldLink RX0 18 "BatteryCaches$Battery" "cycle" "I", Cond.fieldLink RX0 21 "BatteryCaches$Battery" "lineCost" "I", Cond.fieldLink RX0 24 "BatteryCaches$Battery" "cutCost" "I", Cond.fieldLink RX0 27 "BatteryCaches$Battery" "rise" "I", Cond.fieldLink RX0 30 "BatteryCaches$Battery" "fall" "I", Cond.static yX6_copyRow, Cond.code yX6_copyRow cX6_copyRow 2 none, Cond.methodLink RX6 253 Lib.Math.min.name, Cond.static Lib.Math.min.name, Cond.initialized "java/lang/Math"]
def wsX1_keep_r3 : List Cond := [Cond.code Lib.Math.min.name Lib.Math.min.code 2 (some .int), Cond.methodLink RX6 256 arraycopyName, Cond.native arraycopyName, Cond.static arraycopyName, Cond.initialized "java/lang/System"]
def wsX1_keep : List Cond := .code yX1_keep cX1_keep 2 none :: ((wsX1_keep_r1 ++ (wsX1_keep_r2 ++ wsX1_keep_r3)) ++ wsX10 ++ wsX40 ++ wsX00)
def wsX1_restore_r1 : List Cond := [Cond.fieldLink RX1 17 "BatteryCaches$History" "size" "I", Cond.fieldLink RX1 11 "BatteryCaches$History" "states" "[LBatteryCaches$State;", Cond.static yX6_isWithin, Cond.initialized RX6, Cond.code yX6_isWithin cX6_isWithin 3 (some .boolean), Cond.methodLink RX1 29 yX4_copy, Cond.static yX4_copy, Cond.initialized RX4, Cond.code yX4_copy cX4_copy 2 none, Cond.fieldLink RX4 12 "BatteryCaches$State" "battery" "LBatteryCaches$Battery;", Cond.fieldLink RX4 18 "BatteryCaches$State" "disk" "[I", Cond.fieldLink RX4 22 "BatteryCaches$State" "laid" "[I", Cond.fieldLink RX4 25 "BatteryCaches$State" "kind" "[I", Cond.fieldLink RX4 28 "BatteryCaches$State" "place" "[I", Cond.fieldLink RX4 31 "BatteryCaches$State" "value" "[I", Cond.fieldLink RX4 34 "BatteryCaches$State" "turn" "[I", Cond.fieldLink RX4 37 "BatteryCaches$State" "lastTurn" "I", Cond.fieldLink RX4 41 "BatteryCaches$State" "ticks" "I", Cond.fieldLink RX4 44 "BatteryCaches$State" "hits" "I", Cond.fieldLink RX4 47 "BatteryCaches$State" "misses" "I", Cond.fieldLink RX4 50 "BatteryCaches$State" "flushed" "I", Cond.fieldLink RX4 53 "BatteryCaches$State" "wentThrough" "I", Cond.fieldLink RX4 56 "BatteryCaches$State" "lost" "I", Cond.fieldLink RX4 59 "BatteryCaches$State" "cuts" "I"]
def wsX1_restore_r2 : List Cond := [Cond.fieldLink RX4 62 "BatteryCaches$State" "cyclesEnded" "I", Cond.fieldLink RX4 65 "BatteryCaches$State" "laidInAll" "I", Cond.methodLink RX4 68 yX0_copyFrom, Cond.instanceMethod yX0_copyFrom, Cond.selects RX0 yX0_copyFrom yX0_copyFrom, Cond.initialized RX0, Cond.code yX0_copyFrom cX0_copyFrom 2 none, Cond.fieldLink RX0 9 "BatteryCaches$Battery" "charge" "I", Cond.fieldLink RX0 15 "BatteryCaches$Battery" "wear" "I", Cond.fieldLink RX0 18 "BatteryCaches$Battery" "cycle" "I", Cond.fieldLink RX0 21 "BatteryCaches$Battery" "lineCost" "I", Cond.fieldLink RX0 24 "BatteryCaches$Battery" "cutCost" "I", Cond.fieldLink RX0 27 "BatteryCaches$Battery" "rise" "I", Cond.fieldLink RX0 30 "BatteryCaches$Battery" "fall" "I", Cond.static yX6_copyRow, Cond.code yX6_copyRow cX6_copyRow 2 none, Cond.methodLink RX6 253 Lib.Math.min.name, Cond.static Lib.Math.min.name, Cond.initialized "java/lang/Math", Cond.code Lib.Math.min.name Lib.Math.min.code 2 (some .int), Cond.methodLink RX6 256 arraycopyName, Cond.native arraycopyName, Cond.static arraycopyName, Cond.initialized "java/lang/System"]
def wsX1_restore : List Cond := .code yX1_restore cX1_restore 2 none :: ((wsX1_restore_r1 ++ wsX1_restore_r2) ++ wsX10 ++ wsX40 ++ wsX00)
def wsX2_init : List Cond := .code yX2_init cX2_init 1 none :: ([.methodLink RX2 3 objectInit, .instanceMethod objectInit, .code objectInit ⟨#[0xb1]⟩ 1 none, .fieldLink RX2 9 "BatteryCaches$Order" "start" "I", .fieldLink RX2 15 "BatteryCaches$Order" "next" "I", .fieldLink RX2 18 "BatteryCaches$Order" "letter" "I", .fieldLink RX2 21 "BatteryCaches$Order" "number" "I", .fieldLink RX2 24 "BatteryCaches$Order" "newValue" "I", .fieldLink RX2 27 "BatteryCaches$Order" "reason" "I", .fieldLink RX2 30 "BatteryCaches$Order" "cause" "I"] ++ wsX20)
def wsX2_beginText : List Cond := .code yX2_beginText cX2_beginText 1 none :: ([.fieldLink RX2 15 "BatteryCaches$Order" "next" "I", .fieldLink RX2 27 "BatteryCaches$Order" "reason" "I"] ++ wsX20)
def wsX5_at : List Cond := .code yX5_at cX5_at 3 (some .int) :: ([.fieldLink RX5 15 "BatteryCaches$Text" "length" "I", .fieldLink RX5 9 "BatteryCaches$Text" "characters" "[I"] ++ wsX50)
def wsX2_readNumber : List Cond := .code yX2_readNumber cX2_readNumber 4 (some .int) :: ([.fieldLink RX2 15 "BatteryCaches$Order" "next" "I", .methodLink RX2 41 yX5_at, .instanceMethod yX5_at, .selects RX5 yX5_at yX5_at, .initialized RX5, .code yX5_at cX5_at 3 (some .int), .fieldLink RX5 15 "BatteryCaches$Text" "length" "I", .fieldLink RX5 9 "BatteryCaches$Text" "characters" "[I", .static yX6_isWithin, .initialized RX6, .code yX6_isWithin cX6_isWithin 3 (some .boolean)] ++ wsX20 ++ wsX50)
def wsX2_readSign : List Cond := .code yX2_readSign cX2_readSign 3 (some .boolean) :: ([.fieldLink RX2 15 "BatteryCaches$Order" "next" "I", .methodLink RX2 41 yX5_at, .instanceMethod yX5_at, .selects RX5 yX5_at yX5_at, .initialized RX5, .code yX5_at cX5_at 3 (some .int), .fieldLink RX5 15 "BatteryCaches$Text" "length" "I", .fieldLink RX5 9 "BatteryCaches$Text" "characters" "[I"] ++ wsX20 ++ wsX50)
def wsX2_hasFormOfWrite : List Cond := .code yX2_hasFormOfWrite cX2_hasFormOfWrite 2 (some .boolean) :: ([.fieldLink RX2 21 "BatteryCaches$Order" "number" "I", .fieldLink RX2 24 "BatteryCaches$Order" "newValue" "I", .methodLink RX2 47 yX2_readNumber, .instanceMethod yX2_readNumber, .selects RX2 yX2_readNumber yX2_readNumber, .initialized RX2, .code yX2_readNumber cX2_readNumber 4 (some .int), .fieldLink RX2 15 "BatteryCaches$Order" "next" "I", .methodLink RX2 41 yX5_at, .instanceMethod yX5_at, .selects RX5 yX5_at yX5_at, .initialized RX5, .code yX5_at cX5_at 3 (some .int), .fieldLink RX5 15 "BatteryCaches$Text" "length" "I", .fieldLink RX5 9 "BatteryCaches$Text" "characters" "[I", .static yX6_isWithin, .initialized RX6, .code yX6_isWithin cX6_isWithin 3 (some .boolean), .methodLink RX2 51 yX2_readSign, .instanceMethod yX2_readSign, .selects RX2 yX2_readSign yX2_readSign, .code yX2_readSign cX2_readSign 3 (some .boolean)] ++ wsX20 ++ wsX50)
def wsX2_hasForm_r1 : List Cond := [Cond.fieldLink RX2 15 "BatteryCaches$Order" "next" "I", Cond.fieldLink RX2 18 "BatteryCaches$Order" "letter" "I", Cond.fieldLink RX2 21 "BatteryCaches$Order" "number" "I", Cond.methodLink RX2 41 yX5_at, Cond.instanceMethod yX5_at, Cond.selects RX5 yX5_at yX5_at, Cond.initialized RX5, Cond.code yX5_at cX5_at 3 (some .int), Cond.fieldLink RX5 15 "BatteryCaches$Text" "length" "I", Cond.fieldLink RX5 9 "BatteryCaches$Text" "characters" "[I", Cond.methodLink RX2 47 yX2_readNumber, Cond.instanceMethod yX2_readNumber, Cond.selects RX2 yX2_readNumber yX2_readNumber, Cond.initialized RX2, Cond.code yX2_readNumber cX2_readNumber 4 (some .int), Cond.static yX6_isWithin, Cond.initialized RX6, Cond.code yX6_isWithin cX6_isWithin 3 (some .boolean), Cond.methodLink RX2 51 yX2_readSign, Cond.instanceMethod yX2_readSign, Cond.selects RX2 yX2_readSign yX2_readSign, Cond.code yX2_readSign cX2_readSign 3 (some .boolean), Cond.methodLink RX2 55 yX2_hasFormOfWrite, Cond.instanceMethod yX2_hasFormOfWrite]
def wsX2_hasForm_r2 : List Cond := [Cond.selects RX2 yX2_hasFormOfWrite yX2_hasFormOfWrite, Cond.code yX2_hasFormOfWrite cX2_hasFormOfWrite 2 (some .boolean), Cond.fieldLink RX2 24 "BatteryCaches$Order" "newValue" "I"]
def wsX2_hasForm : List Cond := .code yX2_hasForm cX2_hasForm 2 (some .boolean) :: ((wsX2_hasForm_r1 ++ wsX2_hasForm_r2) ++ wsX20 ++ wsX50)
def wsX6_isPlace : List Cond := .code yX6_isPlace cX6_isPlace 1 (some .boolean) :: ([])
def wsX2_isInRange : List Cond := .code yX2_isInRange cX2_isInRange 1 (some .boolean) :: ([.fieldLink RX2 18 "BatteryCaches$Order" "letter" "I", .fieldLink RX2 21 "BatteryCaches$Order" "number" "I", .static yX6_isPlace, .initialized RX6, .code yX6_isPlace cX6_isPlace 1 (some .boolean), .static yX6_isWithin, .code yX6_isWithin cX6_isWithin 3 (some .boolean)] ++ wsX20)
def wsX2_readNext_r1 : List Cond := [Cond.fieldLink RX2 15 "BatteryCaches$Order" "next" "I", Cond.fieldLink RX2 9 "BatteryCaches$Order" "start" "I", Cond.fieldLink RX2 27 "BatteryCaches$Order" "reason" "I", Cond.fieldLink RX2 30 "BatteryCaches$Order" "cause" "I", Cond.fieldLink RX2 21 "BatteryCaches$Order" "number" "I", Cond.methodLink RX2 33 yX2_hasForm, Cond.instanceMethod yX2_hasForm, Cond.selects RX2 yX2_hasForm yX2_hasForm, Cond.initialized RX2, Cond.code yX2_hasForm cX2_hasForm 2 (some .boolean), Cond.fieldLink RX2 18 "BatteryCaches$Order" "letter" "I", Cond.methodLink RX2 41 yX5_at, Cond.instanceMethod yX5_at, Cond.selects RX5 yX5_at yX5_at, Cond.initialized RX5, Cond.code yX5_at cX5_at 3 (some .int), Cond.fieldLink RX5 15 "BatteryCaches$Text" "length" "I", Cond.fieldLink RX5 9 "BatteryCaches$Text" "characters" "[I", Cond.methodLink RX2 47 yX2_readNumber, Cond.instanceMethod yX2_readNumber, Cond.selects RX2 yX2_readNumber yX2_readNumber, Cond.code yX2_readNumber cX2_readNumber 4 (some .int), Cond.static yX6_isWithin, Cond.initialized RX6]
def wsX2_readNext_r2 : List Cond := [Cond.code yX6_isWithin cX6_isWithin 3 (some .boolean), Cond.methodLink RX2 51 yX2_readSign, Cond.instanceMethod yX2_readSign, Cond.selects RX2 yX2_readSign yX2_readSign, Cond.code yX2_readSign cX2_readSign 3 (some .boolean), Cond.methodLink RX2 55 yX2_hasFormOfWrite, Cond.instanceMethod yX2_hasFormOfWrite, Cond.selects RX2 yX2_hasFormOfWrite yX2_hasFormOfWrite, Cond.code yX2_hasFormOfWrite cX2_hasFormOfWrite 2 (some .boolean), Cond.fieldLink RX2 24 "BatteryCaches$Order" "newValue" "I", Cond.methodLink RX2 37 yX2_isInRange, Cond.instanceMethod yX2_isInRange, Cond.selects RX2 yX2_isInRange yX2_isInRange, Cond.code yX2_isInRange cX2_isInRange 1 (some .boolean), Cond.static yX6_isPlace, Cond.code yX6_isPlace cX6_isPlace 1 (some .boolean)]
def wsX2_readNext : List Cond := .code yX2_readNext cX2_readNext 2 none :: ((wsX2_readNext_r1 ++ wsX2_readNext_r2) ++ wsX20 ++ wsX50)
def wsX3_init_r1 : List Cond := [Cond.methodLink RX3 3 objectInit, Cond.instanceMethod objectInit, Cond.code objectInit ⟨#[0xb1]⟩ 1 none, Cond.classLink RX3 9 RX4, Cond.instantiable RX4 17, Cond.initialized RX4, Cond.fieldLink RX3 12 "BatteryCaches$Rehearsal" "trial" "LBatteryCaches$State;", Cond.classLink RX3 18 RX2, Cond.instantiable RX2 7, Cond.initialized RX2, Cond.fieldLink RX3 21 "BatteryCaches$Rehearsal" "order" "LBatteryCaches$Order;", Cond.fieldLink RX3 25 "BatteryCaches$Rehearsal" "done" "I", Cond.instanceMethod yX4_init, Cond.code yX4_init cX4_init 1 none, Cond.methodLink RX4 3 objectInit, Cond.classLink RX4 9 RX0, Cond.instantiable RX0 7, Cond.initialized RX0, Cond.fieldLink RX4 12 "BatteryCaches$State" "battery" "LBatteryCaches$Battery;", Cond.arrayClass .int, Cond.fieldLink RX4 18 "BatteryCaches$State" "disk" "[I", Cond.fieldLink RX4 22 "BatteryCaches$State" "laid" "[I", Cond.fieldLink RX4 25 "BatteryCaches$State" "kind" "[I", Cond.fieldLink RX4 28 "BatteryCaches$State" "place" "[I"]
def wsX3_init_r2 : List Cond := [Cond.fieldLink RX4 31 "BatteryCaches$State" "value" "[I", Cond.fieldLink RX4 34 "BatteryCaches$State" "turn" "[I", Cond.fieldLink RX4 37 "BatteryCaches$State" "lastTurn" "I", Cond.fieldLink RX4 41 "BatteryCaches$State" "ticks" "I", Cond.fieldLink RX4 44 "BatteryCaches$State" "hits" "I", Cond.fieldLink RX4 47 "BatteryCaches$State" "misses" "I", Cond.fieldLink RX4 50 "BatteryCaches$State" "flushed" "I", Cond.fieldLink RX4 53 "BatteryCaches$State" "wentThrough" "I", Cond.fieldLink RX4 56 "BatteryCaches$State" "lost" "I", Cond.fieldLink RX4 59 "BatteryCaches$State" "cuts" "I", Cond.fieldLink RX4 62 "BatteryCaches$State" "cyclesEnded" "I", Cond.fieldLink RX4 65 "BatteryCaches$State" "laidInAll" "I", Cond.instanceMethod yX0_init, Cond.code yX0_init cX0_init 1 none, Cond.methodLink RX0 3 objectInit, Cond.fieldLink RX0 9 "BatteryCaches$Battery" "charge" "I", Cond.fieldLink RX0 15 "BatteryCaches$Battery" "wear" "I", Cond.fieldLink RX0 18 "BatteryCaches$Battery" "cycle" "I", Cond.fieldLink RX0 21 "BatteryCaches$Battery" "lineCost" "I", Cond.fieldLink RX0 24 "BatteryCaches$Battery" "cutCost" "I", Cond.fieldLink RX0 27 "BatteryCaches$Battery" "rise" "I", Cond.fieldLink RX0 30 "BatteryCaches$Battery" "fall" "I", Cond.instanceMethod yX2_init, Cond.code yX2_init cX2_init 1 none]
def wsX3_init_r3 : List Cond := [Cond.methodLink RX2 3 objectInit, Cond.fieldLink RX2 9 "BatteryCaches$Order" "start" "I", Cond.fieldLink RX2 15 "BatteryCaches$Order" "next" "I", Cond.fieldLink RX2 18 "BatteryCaches$Order" "letter" "I", Cond.fieldLink RX2 21 "BatteryCaches$Order" "number" "I", Cond.fieldLink RX2 24 "BatteryCaches$Order" "newValue" "I", Cond.fieldLink RX2 27 "BatteryCaches$Order" "reason" "I", Cond.fieldLink RX2 30 "BatteryCaches$Order" "cause" "I"]
def wsX3_init : List Cond := .code yX3_init cX3_init 1 none :: ((wsX3_init_r1 ++ (wsX3_init_r2 ++ wsX3_init_r3)) ++ wsX40 ++ wsX30 ++ wsX20 ++ wsX00)
def wsX3_isPossible : List Cond := .code yX3_isPossible cX3_isPossible 1 (some .boolean) :: ([.fieldLink RX3 21 "BatteryCaches$Rehearsal" "order" "LBatteryCaches$Order;", .fieldLink RX3 58 "BatteryCaches$Order" "letter" "I", .fieldLink RX3 12 "BatteryCaches$Rehearsal" "trial" "LBatteryCaches$State;", .fieldLink RX3 61 "BatteryCaches$State" "battery" "LBatteryCaches$Battery;", .fieldLink RX3 65 "BatteryCaches$Battery" "cycle" "I"] ++ wsX30 ++ wsX20 ++ wsX40 ++ wsX00)
def wsX4_holderOf : List Cond := .code yX4_holderOf cX4_holderOf 3 (some .int) :: ([.fieldLink RX4 25 "BatteryCaches$State" "kind" "[I", .fieldLink RX4 28 "BatteryCaches$State" "place" "[I"] ++ wsX40)
def wsX6_isLine : List Cond := .code yX6_isLine cX6_isLine 1 (some .boolean) :: ([])
def wsX4_lowestEmpty : List Cond := .code yX4_lowestEmpty cX4_lowestEmpty 2 (some .int) :: ([.fieldLink RX4 25 "BatteryCaches$State" "kind" "[I"] ++ wsX40)
def wsX4_lowestTurn : List Cond := .code yX4_lowestTurn cX4_lowestTurn 5 (some .int) :: ([.fieldLink RX4 25 "BatteryCaches$State" "kind" "[I", .fieldLink RX4 34 "BatteryCaches$State" "turn" "[I"] ++ wsX40)
def wsX4_lineToTake : List Cond := .code yX4_lineToTake cX4_lineToTake 2 (some .int) :: ([.methodLink RX4 108 yX4_lowestEmpty, .instanceMethod yX4_lowestEmpty, .selects RX4 yX4_lowestEmpty yX4_lowestEmpty, .initialized RX4, .code yX4_lowestEmpty cX4_lowestEmpty 2 (some .int), .fieldLink RX4 25 "BatteryCaches$State" "kind" "[I", .methodLink RX4 111 yX4_lowestTurn, .instanceMethod yX4_lowestTurn, .selects RX4 yX4_lowestTurn yX4_lowestTurn, .code yX4_lowestTurn cX4_lowestTurn 5 (some .int), .fieldLink RX4 34 "BatteryCaches$State" "turn" "[I"] ++ wsX40)
def wsX4_layOnDisk : List Cond := .code yX4_layOnDisk cX4_layOnDisk 3 none :: ([.fieldLink RX4 18 "BatteryCaches$State" "disk" "[I", .fieldLink RX4 22 "BatteryCaches$State" "laid" "[I", .fieldLink RX4 65 "BatteryCaches$State" "laidInAll" "I", .static yX6_isPlace, .initialized RX6, .code yX6_isPlace cX6_isPlace 1 (some .boolean)] ++ wsX40)
def wsX4_flushLine : List Cond := .code yX4_flushLine cX4_flushLine 2 none :: ([.fieldLink RX4 25 "BatteryCaches$State" "kind" "[I", .fieldLink RX4 28 "BatteryCaches$State" "place" "[I", .fieldLink RX4 31 "BatteryCaches$State" "value" "[I", .fieldLink RX4 50 "BatteryCaches$State" "flushed" "I", .static yX6_isLine, .initialized RX6, .code yX6_isLine cX6_isLine 1 (some .boolean), .methodLink RX4 91 yX4_layOnDisk, .instanceMethod yX4_layOnDisk, .selects RX4 yX4_layOnDisk yX4_layOnDisk, .initialized RX4, .code yX4_layOnDisk cX4_layOnDisk 3 none, .fieldLink RX4 18 "BatteryCaches$State" "disk" "[I", .fieldLink RX4 22 "BatteryCaches$State" "laid" "[I", .fieldLink RX4 65 "BatteryCaches$State" "laidInAll" "I", .static yX6_isPlace, .code yX6_isPlace cX6_isPlace 1 (some .boolean)] ++ wsX40)
def wsX4_layIntoLine : List Cond := .code yX4_layIntoLine cX4_layIntoLine 3 none :: ([.fieldLink RX4 25 "BatteryCaches$State" "kind" "[I", .fieldLink RX4 28 "BatteryCaches$State" "place" "[I", .fieldLink RX4 31 "BatteryCaches$State" "value" "[I", .fieldLink RX4 18 "BatteryCaches$State" "disk" "[I", .static yX6_isLine, .initialized RX6, .code yX6_isLine cX6_isLine 1 (some .boolean), .static yX6_isPlace, .code yX6_isPlace cX6_isPlace 1 (some .boolean)] ++ wsX40)
def wsX4_lineFor_r1 : List Cond := [Cond.fieldLink RX4 44 "BatteryCaches$State" "hits" "I", Cond.fieldLink RX4 47 "BatteryCaches$State" "misses" "I", Cond.fieldLink RX4 37 "BatteryCaches$State" "lastTurn" "I", Cond.fieldLink RX4 34 "BatteryCaches$State" "turn" "[I", Cond.methodLink RX4 95 yX4_holderOf, Cond.instanceMethod yX4_holderOf, Cond.selects RX4 yX4_holderOf yX4_holderOf, Cond.initialized RX4, Cond.code yX4_holderOf cX4_holderOf 3 (some .int), Cond.fieldLink RX4 25 "BatteryCaches$State" "kind" "[I", Cond.fieldLink RX4 28 "BatteryCaches$State" "place" "[I", Cond.static yX6_isLine, Cond.initialized RX6, Cond.code yX6_isLine cX6_isLine 1 (some .boolean), Cond.methodLink RX4 98 yX4_lineToTake, Cond.instanceMethod yX4_lineToTake, Cond.selects RX4 yX4_lineToTake yX4_lineToTake, Cond.code yX4_lineToTake cX4_lineToTake 2 (some .int), Cond.methodLink RX4 108 yX4_lowestEmpty, Cond.instanceMethod yX4_lowestEmpty, Cond.selects RX4 yX4_lowestEmpty yX4_lowestEmpty, Cond.code yX4_lowestEmpty cX4_lowestEmpty 2 (some .int), Cond.methodLink RX4 111 yX4_lowestTurn, Cond.instanceMethod yX4_lowestTurn]
def wsX4_lineFor_r2 : List Cond := [Cond.selects RX4 yX4_lowestTurn yX4_lowestTurn, Cond.code yX4_lowestTurn cX4_lowestTurn 5 (some .int), Cond.methodLink RX4 101 yX4_flushLine, Cond.instanceMethod yX4_flushLine, Cond.selects RX4 yX4_flushLine yX4_flushLine, Cond.code yX4_flushLine cX4_flushLine 2 none, Cond.fieldLink RX4 31 "BatteryCaches$State" "value" "[I", Cond.fieldLink RX4 50 "BatteryCaches$State" "flushed" "I", Cond.methodLink RX4 91 yX4_layOnDisk, Cond.instanceMethod yX4_layOnDisk, Cond.selects RX4 yX4_layOnDisk yX4_layOnDisk, Cond.code yX4_layOnDisk cX4_layOnDisk 3 none, Cond.fieldLink RX4 18 "BatteryCaches$State" "disk" "[I", Cond.fieldLink RX4 22 "BatteryCaches$State" "laid" "[I", Cond.fieldLink RX4 65 "BatteryCaches$State" "laidInAll" "I", Cond.static yX6_isPlace, Cond.code yX6_isPlace cX6_isPlace 1 (some .boolean), Cond.methodLink RX4 105 yX4_layIntoLine, Cond.instanceMethod yX4_layIntoLine, Cond.selects RX4 yX4_layIntoLine yX4_layIntoLine, Cond.code yX4_layIntoLine cX4_layIntoLine 3 none]
def wsX4_lineFor : List Cond := .code yX4_lineFor cX4_lineFor 3 (some .int) :: ((wsX4_lineFor_r1 ++ wsX4_lineFor_r2) ++ wsX40)
def wsX4_readPlace_r1 : List Cond := [Cond.fieldLink RX4 31 "BatteryCaches$State" "value" "[I", Cond.methodLink RX4 76 yX4_lineFor, Cond.instanceMethod yX4_lineFor, Cond.selects RX4 yX4_lineFor yX4_lineFor, Cond.initialized RX4, Cond.code yX4_lineFor cX4_lineFor 3 (some .int), Cond.fieldLink RX4 44 "BatteryCaches$State" "hits" "I", Cond.fieldLink RX4 47 "BatteryCaches$State" "misses" "I", Cond.fieldLink RX4 37 "BatteryCaches$State" "lastTurn" "I", Cond.fieldLink RX4 34 "BatteryCaches$State" "turn" "[I", Cond.methodLink RX4 95 yX4_holderOf, Cond.instanceMethod yX4_holderOf, Cond.selects RX4 yX4_holderOf yX4_holderOf, Cond.code yX4_holderOf cX4_holderOf 3 (some .int), Cond.fieldLink RX4 25 "BatteryCaches$State" "kind" "[I", Cond.fieldLink RX4 28 "BatteryCaches$State" "place" "[I", Cond.static yX6_isLine, Cond.initialized RX6, Cond.code yX6_isLine cX6_isLine 1 (some .boolean), Cond.methodLink RX4 98 yX4_lineToTake, Cond.instanceMethod yX4_lineToTake, Cond.selects RX4 yX4_lineToTake yX4_lineToTake, Cond.code yX4_lineToTake cX4_lineToTake 2 (some .int), Cond.methodLink RX4 108 yX4_lowestEmpty]
def wsX4_readPlace_r2 : List Cond := [Cond.instanceMethod yX4_lowestEmpty, Cond.selects RX4 yX4_lowestEmpty yX4_lowestEmpty, Cond.code yX4_lowestEmpty cX4_lowestEmpty 2 (some .int), Cond.methodLink RX4 111 yX4_lowestTurn, Cond.instanceMethod yX4_lowestTurn, Cond.selects RX4 yX4_lowestTurn yX4_lowestTurn, Cond.code yX4_lowestTurn cX4_lowestTurn 5 (some .int), Cond.methodLink RX4 101 yX4_flushLine, Cond.instanceMethod yX4_flushLine, Cond.selects RX4 yX4_flushLine yX4_flushLine, Cond.code yX4_flushLine cX4_flushLine 2 none, Cond.fieldLink RX4 50 "BatteryCaches$State" "flushed" "I", Cond.methodLink RX4 91 yX4_layOnDisk, Cond.instanceMethod yX4_layOnDisk, Cond.selects RX4 yX4_layOnDisk yX4_layOnDisk, Cond.code yX4_layOnDisk cX4_layOnDisk 3 none, Cond.fieldLink RX4 18 "BatteryCaches$State" "disk" "[I", Cond.fieldLink RX4 22 "BatteryCaches$State" "laid" "[I", Cond.fieldLink RX4 65 "BatteryCaches$State" "laidInAll" "I", Cond.static yX6_isPlace, Cond.code yX6_isPlace cX6_isPlace 1 (some .boolean), Cond.methodLink RX4 105 yX4_layIntoLine, Cond.instanceMethod yX4_layIntoLine, Cond.selects RX4 yX4_layIntoLine yX4_layIntoLine]
def wsX4_readPlace_r3 : List Cond := [Cond.code yX4_layIntoLine cX4_layIntoLine 3 none]
def wsX4_readPlace : List Cond := .code yX4_readPlace cX4_readPlace 3 (some .int) :: ((wsX4_readPlace_r1 ++ (wsX4_readPlace_r2 ++ wsX4_readPlace_r3)) ++ wsX40)
def wsX4_setOf : List Cond := .code yX4_setOf cX4_setOf 4 (some .int) :: ([.fieldLink RX4 25 "BatteryCaches$State" "kind" "[I"] ++ wsX40)
def wsJ6_bitCount_0f7a4 : List Cond := .code yJ6_bitCount_0f7a4 cJ6_bitCount_0f7a4 1 (some .int) :: ([.constant RJ6 265 (1431655765), .constant RJ6 266 (858993459), .constant RJ6 267 (252645135)])
def wsX4_numberOf : List Cond := .code yX4_numberOf cX4_numberOf 2 (some .int) :: ([.methodLink RX4 154 yX4_setOf, .instanceMethod yX4_setOf, .selects RX4 yX4_setOf yX4_setOf, .initialized RX4, .code yX4_setOf cX4_setOf 4 (some .int), .fieldLink RX4 25 "BatteryCaches$State" "kind" "[I", .methodLink RX4 157 yJ6_bitCount_0f7a4, .static yJ6_bitCount_0f7a4, .initialized RJ6, .code yJ6_bitCount_0f7a4 cJ6_bitCount_0f7a4 1 (some .int), .constant RJ6 265 (1431655765), .constant RJ6 266 (858993459), .constant RJ6 267 (252645135)] ++ wsX40)
def wsX4_writePlace_r1 : List Cond := [Cond.fieldLink RX4 31 "BatteryCaches$State" "value" "[I", Cond.fieldLink RX4 25 "BatteryCaches$State" "kind" "[I", Cond.fieldLink RX4 12 "BatteryCaches$State" "battery" "LBatteryCaches$Battery;", Cond.fieldLink RX4 53 "BatteryCaches$State" "wentThrough" "I", Cond.methodLink RX4 76 yX4_lineFor, Cond.instanceMethod yX4_lineFor, Cond.selects RX4 yX4_lineFor yX4_lineFor, Cond.initialized RX4, Cond.code yX4_lineFor cX4_lineFor 3 (some .int), Cond.fieldLink RX4 44 "BatteryCaches$State" "hits" "I", Cond.fieldLink RX4 47 "BatteryCaches$State" "misses" "I", Cond.fieldLink RX4 37 "BatteryCaches$State" "lastTurn" "I", Cond.fieldLink RX4 34 "BatteryCaches$State" "turn" "[I", Cond.methodLink RX4 95 yX4_holderOf, Cond.instanceMethod yX4_holderOf, Cond.selects RX4 yX4_holderOf yX4_holderOf, Cond.code yX4_holderOf cX4_holderOf 3 (some .int), Cond.fieldLink RX4 28 "BatteryCaches$State" "place" "[I", Cond.static yX6_isLine, Cond.initialized RX6, Cond.code yX6_isLine cX6_isLine 1 (some .boolean), Cond.methodLink RX4 98 yX4_lineToTake, Cond.instanceMethod yX4_lineToTake, Cond.selects RX4 yX4_lineToTake yX4_lineToTake]
def wsX4_writePlace_r2 : List Cond := [Cond.code yX4_lineToTake cX4_lineToTake 2 (some .int), Cond.methodLink RX4 108 yX4_lowestEmpty, Cond.instanceMethod yX4_lowestEmpty, Cond.selects RX4 yX4_lowestEmpty yX4_lowestEmpty, Cond.code yX4_lowestEmpty cX4_lowestEmpty 2 (some .int), Cond.methodLink RX4 111 yX4_lowestTurn, Cond.instanceMethod yX4_lowestTurn, Cond.selects RX4 yX4_lowestTurn yX4_lowestTurn, Cond.code yX4_lowestTurn cX4_lowestTurn 5 (some .int), Cond.methodLink RX4 101 yX4_flushLine, Cond.instanceMethod yX4_flushLine, Cond.selects RX4 yX4_flushLine yX4_flushLine, Cond.code yX4_flushLine cX4_flushLine 2 none, Cond.fieldLink RX4 50 "BatteryCaches$State" "flushed" "I", Cond.methodLink RX4 91 yX4_layOnDisk, Cond.instanceMethod yX4_layOnDisk, Cond.selects RX4 yX4_layOnDisk yX4_layOnDisk, Cond.code yX4_layOnDisk cX4_layOnDisk 3 none, Cond.fieldLink RX4 18 "BatteryCaches$State" "disk" "[I", Cond.fieldLink RX4 22 "BatteryCaches$State" "laid" "[I", Cond.fieldLink RX4 65 "BatteryCaches$State" "laidInAll" "I", Cond.static yX6_isPlace, Cond.code yX6_isPlace cX6_isPlace 1 (some .boolean), Cond.methodLink RX4 105 yX4_layIntoLine]
def wsX4_writePlace_r3 : List Cond := [Cond.instanceMethod yX4_layIntoLine, Cond.selects RX4 yX4_layIntoLine yX4_layIntoLine, Cond.code yX4_layIntoLine cX4_layIntoLine 3 none, Cond.methodLink RX4 84 yX4_numberOf, Cond.instanceMethod yX4_numberOf, Cond.selects RX4 yX4_numberOf yX4_numberOf, Cond.code yX4_numberOf cX4_numberOf 2 (some .int), Cond.methodLink RX4 154 yX4_setOf, Cond.instanceMethod yX4_setOf, Cond.selects RX4 yX4_setOf yX4_setOf, Cond.code yX4_setOf cX4_setOf 4 (some .int), Cond.methodLink RX4 157 yJ6_bitCount_0f7a4, Cond.static yJ6_bitCount_0f7a4, Cond.initialized RJ6, Cond.code yJ6_bitCount_0f7a4 cJ6_bitCount_0f7a4 1 (some .int), Cond.constant RJ6 265 (1431655765), Cond.constant RJ6 266 (858993459), Cond.constant RJ6 267 (252645135), Cond.methodLink RX4 87 yX0_allowance, Cond.instanceMethod yX0_allowance, Cond.selects RX0 yX0_allowance yX0_allowance, Cond.initialized RX0, Cond.code yX0_allowance cX0_allowance 1 (some .int), Cond.fieldLink RX0 18 "BatteryCaches$Battery" "cycle" "I"]
def wsX4_writePlace_r4 : List Cond := [Cond.methodLink RX0 33 yX0_savable, Cond.instanceMethod yX0_savable, Cond.selects RX0 yX0_savable yX0_savable, Cond.code yX0_savable cX0_savable 1 (some .int), Cond.fieldLink RX0 9 "BatteryCaches$Battery" "charge" "I", Cond.fieldLink RX0 24 "BatteryCaches$Battery" "cutCost" "I", Cond.fieldLink RX0 21 "BatteryCaches$Battery" "lineCost" "I", Cond.methodLink RX0 37 Lib.Math.min.name, Cond.static Lib.Math.min.name, Cond.initialized "java/lang/Math", Cond.code Lib.Math.min.name Lib.Math.min.code 2 (some .int)]
def wsX4_writePlace : List Cond := .code yX4_writePlace cX4_writePlace 4 (some .int) :: ((wsX4_writePlace_r1 ++ (wsX4_writePlace_r2 ++ (wsX4_writePlace_r3 ++ wsX4_writePlace_r4))) ++ wsX40 ++ wsX00)
def wsX4_tooMany_r1 : List Cond := [Cond.fieldLink RX4 12 "BatteryCaches$State" "battery" "LBatteryCaches$Battery;", Cond.methodLink RX4 139 Lib.Math.max.name, Cond.static Lib.Math.max.name, Cond.initialized "java/lang/Math", Cond.code Lib.Math.max.name Lib.Math.max.code 2 (some .int), Cond.methodLink RX4 84 yX4_numberOf, Cond.instanceMethod yX4_numberOf, Cond.selects RX4 yX4_numberOf yX4_numberOf, Cond.initialized RX4, Cond.code yX4_numberOf cX4_numberOf 2 (some .int), Cond.methodLink RX4 154 yX4_setOf, Cond.instanceMethod yX4_setOf, Cond.selects RX4 yX4_setOf yX4_setOf, Cond.code yX4_setOf cX4_setOf 4 (some .int), Cond.fieldLink RX4 25 "BatteryCaches$State" "kind" "[I", Cond.methodLink RX4 157 yJ6_bitCount_0f7a4, Cond.static yJ6_bitCount_0f7a4, Cond.initialized RJ6, Cond.code yJ6_bitCount_0f7a4 cJ6_bitCount_0f7a4 1 (some .int), Cond.constant RJ6 265 (1431655765), Cond.constant RJ6 266 (858993459), Cond.constant RJ6 267 (252645135), Cond.methodLink RX4 87 yX0_allowance, Cond.instanceMethod yX0_allowance]
def wsX4_tooMany_r2 : List Cond := [Cond.selects RX0 yX0_allowance yX0_allowance, Cond.initialized RX0, Cond.code yX0_allowance cX0_allowance 1 (some .int), Cond.fieldLink RX0 18 "BatteryCaches$Battery" "cycle" "I", Cond.methodLink RX0 33 yX0_savable, Cond.instanceMethod yX0_savable, Cond.selects RX0 yX0_savable yX0_savable, Cond.code yX0_savable cX0_savable 1 (some .int), Cond.fieldLink RX0 9 "BatteryCaches$Battery" "charge" "I", Cond.fieldLink RX0 24 "BatteryCaches$Battery" "cutCost" "I", Cond.fieldLink RX0 21 "BatteryCaches$Battery" "lineCost" "I", Cond.methodLink RX0 37 Lib.Math.min.name, Cond.static Lib.Math.min.name, Cond.code Lib.Math.min.name Lib.Math.min.code 2 (some .int)]
def wsX4_tooMany : List Cond := .code yX4_tooMany cX4_tooMany 1 (some .int) :: ((wsX4_tooMany_r1 ++ wsX4_tooMany_r2) ++ wsX40 ++ wsX00)
def wsX4_flushLowest_r1 : List Cond := [Cond.methodLink RX4 111 yX4_lowestTurn, Cond.instanceMethod yX4_lowestTurn, Cond.selects RX4 yX4_lowestTurn yX4_lowestTurn, Cond.initialized RX4, Cond.code yX4_lowestTurn cX4_lowestTurn 5 (some .int), Cond.fieldLink RX4 25 "BatteryCaches$State" "kind" "[I", Cond.fieldLink RX4 34 "BatteryCaches$State" "turn" "[I", Cond.methodLink RX4 101 yX4_flushLine, Cond.instanceMethod yX4_flushLine, Cond.selects RX4 yX4_flushLine yX4_flushLine, Cond.code yX4_flushLine cX4_flushLine 2 none, Cond.fieldLink RX4 28 "BatteryCaches$State" "place" "[I", Cond.fieldLink RX4 31 "BatteryCaches$State" "value" "[I", Cond.fieldLink RX4 50 "BatteryCaches$State" "flushed" "I", Cond.static yX6_isLine, Cond.initialized RX6, Cond.code yX6_isLine cX6_isLine 1 (some .boolean), Cond.methodLink RX4 91 yX4_layOnDisk, Cond.instanceMethod yX4_layOnDisk, Cond.selects RX4 yX4_layOnDisk yX4_layOnDisk, Cond.code yX4_layOnDisk cX4_layOnDisk 3 none, Cond.fieldLink RX4 18 "BatteryCaches$State" "disk" "[I", Cond.fieldLink RX4 22 "BatteryCaches$State" "laid" "[I", Cond.fieldLink RX4 65 "BatteryCaches$State" "laidInAll" "I"]
def wsX4_flushLowest_r2 : List Cond := [Cond.static yX6_isPlace, Cond.code yX6_isPlace cX6_isPlace 1 (some .boolean)]
def wsX4_flushLowest : List Cond := .code yX4_flushLowest cX4_flushLowest 3 (some .int) :: ((wsX4_flushLowest_r1 ++ wsX4_flushLowest_r2) ++ wsX40)
def wsX4_passTicks_r1 : List Cond := [Cond.fieldLink RX4 50 "BatteryCaches$State" "flushed" "I", Cond.fieldLink RX4 41 "BatteryCaches$State" "ticks" "I", Cond.fieldLink RX4 12 "BatteryCaches$State" "battery" "LBatteryCaches$Battery;", Cond.fieldLink RX4 62 "BatteryCaches$State" "cyclesEnded" "I", Cond.methodLink RX4 117 yX0_passTick, Cond.instanceMethod yX0_passTick, Cond.selects RX0 yX0_passTick yX0_passTick, Cond.initialized RX0, Cond.code yX0_passTick cX0_passTick 1 (some .boolean), Cond.fieldLink RX0 18 "BatteryCaches$Battery" "cycle" "I", Cond.fieldLink RX0 9 "BatteryCaches$Battery" "charge" "I", Cond.fieldLink RX0 27 "BatteryCaches$Battery" "rise" "I", Cond.methodLink RX0 37 Lib.Math.min.name, Cond.static Lib.Math.min.name, Cond.initialized "java/lang/Math", Cond.code Lib.Math.min.name Lib.Math.min.code 2 (some .int), Cond.methodLink RX0 54 yX0_fallInCycle, Cond.instanceMethod yX0_fallInCycle, Cond.selects RX0 yX0_fallInCycle yX0_fallInCycle, Cond.code yX0_fallInCycle cX0_fallInCycle 1 none, Cond.fieldLink RX0 30 "BatteryCaches$Battery" "fall" "I", Cond.fieldLink RX0 15 "BatteryCaches$Battery" "wear" "I", Cond.methodLink RX0 50 yX0_useUp, Cond.instanceMethod yX0_useUp]
def wsX4_passTicks_r2 : List Cond := [Cond.selects RX0 yX0_useUp yX0_useUp, Cond.code yX0_useUp cX0_useUp 2 none, Cond.methodLink RX0 43 Lib.Math.max.name, Cond.static Lib.Math.max.name, Cond.code Lib.Math.max.name Lib.Math.max.code 2 (some .int), Cond.methodLink RX0 57 yX0_capacity, Cond.instanceMethod yX0_capacity, Cond.selects RX0 yX0_capacity yX0_capacity, Cond.code yX0_capacity cX0_capacity 1 (some .int), Cond.methodLink RX4 121 yX4_tooMany, Cond.instanceMethod yX4_tooMany, Cond.selects RX4 yX4_tooMany yX4_tooMany, Cond.initialized RX4, Cond.code yX4_tooMany cX4_tooMany 1 (some .int), Cond.methodLink RX4 139 Lib.Math.max.name, Cond.methodLink RX4 84 yX4_numberOf, Cond.instanceMethod yX4_numberOf, Cond.selects RX4 yX4_numberOf yX4_numberOf, Cond.code yX4_numberOf cX4_numberOf 2 (some .int), Cond.methodLink RX4 154 yX4_setOf, Cond.instanceMethod yX4_setOf, Cond.selects RX4 yX4_setOf yX4_setOf, Cond.code yX4_setOf cX4_setOf 4 (some .int), Cond.fieldLink RX4 25 "BatteryCaches$State" "kind" "[I"]
def wsX4_passTicks_r3 : List Cond := [Cond.methodLink RX4 157 yJ6_bitCount_0f7a4, Cond.static yJ6_bitCount_0f7a4, Cond.initialized RJ6, Cond.code yJ6_bitCount_0f7a4 cJ6_bitCount_0f7a4 1 (some .int), Cond.constant RJ6 265 (1431655765), Cond.constant RJ6 266 (858993459), Cond.constant RJ6 267 (252645135), Cond.methodLink RX4 87 yX0_allowance, Cond.instanceMethod yX0_allowance, Cond.selects RX0 yX0_allowance yX0_allowance, Cond.code yX0_allowance cX0_allowance 1 (some .int), Cond.methodLink RX0 33 yX0_savable, Cond.instanceMethod yX0_savable, Cond.selects RX0 yX0_savable yX0_savable, Cond.code yX0_savable cX0_savable 1 (some .int), Cond.fieldLink RX0 24 "BatteryCaches$Battery" "cutCost" "I", Cond.fieldLink RX0 21 "BatteryCaches$Battery" "lineCost" "I", Cond.methodLink RX4 124 yX4_flushLowest, Cond.instanceMethod yX4_flushLowest, Cond.selects RX4 yX4_flushLowest yX4_flushLowest, Cond.code yX4_flushLowest cX4_flushLowest 3 (some .int), Cond.methodLink RX4 111 yX4_lowestTurn, Cond.instanceMethod yX4_lowestTurn, Cond.selects RX4 yX4_lowestTurn yX4_lowestTurn]
def wsX4_passTicks_r4 : List Cond := [Cond.code yX4_lowestTurn cX4_lowestTurn 5 (some .int), Cond.fieldLink RX4 34 "BatteryCaches$State" "turn" "[I", Cond.methodLink RX4 101 yX4_flushLine, Cond.instanceMethod yX4_flushLine, Cond.selects RX4 yX4_flushLine yX4_flushLine, Cond.code yX4_flushLine cX4_flushLine 2 none, Cond.fieldLink RX4 28 "BatteryCaches$State" "place" "[I", Cond.fieldLink RX4 31 "BatteryCaches$State" "value" "[I", Cond.static yX6_isLine, Cond.initialized RX6, Cond.code yX6_isLine cX6_isLine 1 (some .boolean), Cond.methodLink RX4 91 yX4_layOnDisk, Cond.instanceMethod yX4_layOnDisk, Cond.selects RX4 yX4_layOnDisk yX4_layOnDisk, Cond.code yX4_layOnDisk cX4_layOnDisk 3 none, Cond.fieldLink RX4 18 "BatteryCaches$State" "disk" "[I", Cond.fieldLink RX4 22 "BatteryCaches$State" "laid" "[I", Cond.fieldLink RX4 65 "BatteryCaches$State" "laidInAll" "I", Cond.static yX6_isPlace, Cond.code yX6_isPlace cX6_isPlace 1 (some .boolean)]
def wsX4_passTicks : List Cond := .code yX4_passTicks cX4_passTicks 4 (some .int) :: ((wsX4_passTicks_r1 ++ (wsX4_passTicks_r2 ++ (wsX4_passTicks_r3 ++ wsX4_passTicks_r4))) ++ wsX40 ++ wsX00)
def wsX4_putLoad_r1 : List Cond := [Cond.fieldLink RX4 12 "BatteryCaches$State" "battery" "LBatteryCaches$Battery;", Cond.methodLink RX4 127 yX0_useUp, Cond.instanceMethod yX0_useUp, Cond.selects RX0 yX0_useUp yX0_useUp, Cond.initialized RX0, Cond.code yX0_useUp cX0_useUp 2 none, Cond.fieldLink RX0 9 "BatteryCaches$Battery" "charge" "I", Cond.methodLink RX0 43 Lib.Math.max.name, Cond.static Lib.Math.max.name, Cond.initialized "java/lang/Math", Cond.code Lib.Math.max.name Lib.Math.max.code 2 (some .int), Cond.methodLink RX4 121 yX4_tooMany, Cond.instanceMethod yX4_tooMany, Cond.selects RX4 yX4_tooMany yX4_tooMany, Cond.initialized RX4, Cond.code yX4_tooMany cX4_tooMany 1 (some .int), Cond.methodLink RX4 139 Lib.Math.max.name, Cond.methodLink RX4 84 yX4_numberOf, Cond.instanceMethod yX4_numberOf, Cond.selects RX4 yX4_numberOf yX4_numberOf, Cond.code yX4_numberOf cX4_numberOf 2 (some .int), Cond.methodLink RX4 154 yX4_setOf, Cond.instanceMethod yX4_setOf, Cond.selects RX4 yX4_setOf yX4_setOf]
def wsX4_putLoad_r2 : List Cond := [Cond.code yX4_setOf cX4_setOf 4 (some .int), Cond.fieldLink RX4 25 "BatteryCaches$State" "kind" "[I", Cond.methodLink RX4 157 yJ6_bitCount_0f7a4, Cond.static yJ6_bitCount_0f7a4, Cond.initialized RJ6, Cond.code yJ6_bitCount_0f7a4 cJ6_bitCount_0f7a4 1 (some .int), Cond.constant RJ6 265 (1431655765), Cond.constant RJ6 266 (858993459), Cond.constant RJ6 267 (252645135), Cond.methodLink RX4 87 yX0_allowance, Cond.instanceMethod yX0_allowance, Cond.selects RX0 yX0_allowance yX0_allowance, Cond.code yX0_allowance cX0_allowance 1 (some .int), Cond.fieldLink RX0 18 "BatteryCaches$Battery" "cycle" "I", Cond.methodLink RX0 33 yX0_savable, Cond.instanceMethod yX0_savable, Cond.selects RX0 yX0_savable yX0_savable, Cond.code yX0_savable cX0_savable 1 (some .int), Cond.fieldLink RX0 24 "BatteryCaches$Battery" "cutCost" "I", Cond.fieldLink RX0 21 "BatteryCaches$Battery" "lineCost" "I", Cond.methodLink RX0 37 Lib.Math.min.name, Cond.static Lib.Math.min.name, Cond.code Lib.Math.min.name Lib.Math.min.code 2 (some .int), Cond.methodLink RX4 124 yX4_flushLowest]
def wsX4_putLoad_r3 : List Cond := [Cond.instanceMethod yX4_flushLowest, Cond.selects RX4 yX4_flushLowest yX4_flushLowest, Cond.code yX4_flushLowest cX4_flushLowest 3 (some .int), Cond.methodLink RX4 111 yX4_lowestTurn, Cond.instanceMethod yX4_lowestTurn, Cond.selects RX4 yX4_lowestTurn yX4_lowestTurn, Cond.code yX4_lowestTurn cX4_lowestTurn 5 (some .int), Cond.fieldLink RX4 34 "BatteryCaches$State" "turn" "[I", Cond.methodLink RX4 101 yX4_flushLine, Cond.instanceMethod yX4_flushLine, Cond.selects RX4 yX4_flushLine yX4_flushLine, Cond.code yX4_flushLine cX4_flushLine 2 none, Cond.fieldLink RX4 28 "BatteryCaches$State" "place" "[I", Cond.fieldLink RX4 31 "BatteryCaches$State" "value" "[I", Cond.fieldLink RX4 50 "BatteryCaches$State" "flushed" "I", Cond.static yX6_isLine, Cond.initialized RX6, Cond.code yX6_isLine cX6_isLine 1 (some .boolean), Cond.methodLink RX4 91 yX4_layOnDisk, Cond.instanceMethod yX4_layOnDisk, Cond.selects RX4 yX4_layOnDisk yX4_layOnDisk, Cond.code yX4_layOnDisk cX4_layOnDisk 3 none, Cond.fieldLink RX4 18 "BatteryCaches$State" "disk" "[I", Cond.fieldLink RX4 22 "BatteryCaches$State" "laid" "[I"]
def wsX4_putLoad_r4 : List Cond := [Cond.fieldLink RX4 65 "BatteryCaches$State" "laidInAll" "I", Cond.static yX6_isPlace, Cond.code yX6_isPlace cX6_isPlace 1 (some .boolean)]
def wsX4_putLoad : List Cond := .code yX4_putLoad cX4_putLoad 2 (some .int) :: ((wsX4_putLoad_r1 ++ (wsX4_putLoad_r2 ++ (wsX4_putLoad_r3 ++ wsX4_putLoad_r4))) ++ wsX40 ++ wsX00)
def wsX4_savedByCut_r1 : List Cond := [Cond.fieldLink RX4 12 "BatteryCaches$State" "battery" "LBatteryCaches$Battery;", Cond.methodLink RX4 148 Lib.Math.min.name, Cond.static Lib.Math.min.name, Cond.initialized "java/lang/Math", Cond.code Lib.Math.min.name Lib.Math.min.code 2 (some .int), Cond.methodLink RX4 84 yX4_numberOf, Cond.instanceMethod yX4_numberOf, Cond.selects RX4 yX4_numberOf yX4_numberOf, Cond.initialized RX4, Cond.code yX4_numberOf cX4_numberOf 2 (some .int), Cond.methodLink RX4 154 yX4_setOf, Cond.instanceMethod yX4_setOf, Cond.selects RX4 yX4_setOf yX4_setOf, Cond.code yX4_setOf cX4_setOf 4 (some .int), Cond.fieldLink RX4 25 "BatteryCaches$State" "kind" "[I", Cond.methodLink RX4 157 yJ6_bitCount_0f7a4, Cond.static yJ6_bitCount_0f7a4, Cond.initialized RJ6, Cond.code yJ6_bitCount_0f7a4 cJ6_bitCount_0f7a4 1 (some .int), Cond.constant RJ6 265 (1431655765), Cond.constant RJ6 266 (858993459), Cond.constant RJ6 267 (252645135), Cond.methodLink RX4 145 yX0_savable, Cond.instanceMethod yX0_savable]
def wsX4_savedByCut_r2 : List Cond := [Cond.selects RX0 yX0_savable yX0_savable, Cond.initialized RX0, Cond.code yX0_savable cX0_savable 1 (some .int), Cond.fieldLink RX0 9 "BatteryCaches$Battery" "charge" "I", Cond.fieldLink RX0 24 "BatteryCaches$Battery" "cutCost" "I", Cond.fieldLink RX0 21 "BatteryCaches$Battery" "lineCost" "I", Cond.methodLink RX0 37 Lib.Math.min.name]
def wsX4_savedByCut : List Cond := .code yX4_savedByCut cX4_savedByCut 1 (some .int) :: ((wsX4_savedByCut_r1 ++ wsX4_savedByCut_r2) ++ wsX40 ++ wsX00)
def wsX4_cutPower_r1 : List Cond := [Cond.fieldLink RX4 12 "BatteryCaches$State" "battery" "LBatteryCaches$Battery;", Cond.fieldLink RX4 25 "BatteryCaches$State" "kind" "[I", Cond.fieldLink RX4 56 "BatteryCaches$State" "lost" "I", Cond.fieldLink RX4 59 "BatteryCaches$State" "cuts" "I", Cond.methodLink RX4 133 yX4_savedByCut, Cond.instanceMethod yX4_savedByCut, Cond.selects RX4 yX4_savedByCut yX4_savedByCut, Cond.initialized RX4, Cond.code yX4_savedByCut cX4_savedByCut 1 (some .int), Cond.methodLink RX4 148 Lib.Math.min.name, Cond.static Lib.Math.min.name, Cond.initialized "java/lang/Math", Cond.code Lib.Math.min.name Lib.Math.min.code 2 (some .int), Cond.methodLink RX4 84 yX4_numberOf, Cond.instanceMethod yX4_numberOf, Cond.selects RX4 yX4_numberOf yX4_numberOf, Cond.code yX4_numberOf cX4_numberOf 2 (some .int), Cond.methodLink RX4 154 yX4_setOf, Cond.instanceMethod yX4_setOf, Cond.selects RX4 yX4_setOf yX4_setOf, Cond.code yX4_setOf cX4_setOf 4 (some .int), Cond.methodLink RX4 157 yJ6_bitCount_0f7a4, Cond.static yJ6_bitCount_0f7a4, Cond.initialized RJ6]
def wsX4_cutPower_r2 : List Cond := [Cond.code yJ6_bitCount_0f7a4 cJ6_bitCount_0f7a4 1 (some .int), Cond.constant RJ6 265 (1431655765), Cond.constant RJ6 266 (858993459), Cond.constant RJ6 267 (252645135), Cond.methodLink RX4 145 yX0_savable, Cond.instanceMethod yX0_savable, Cond.selects RX0 yX0_savable yX0_savable, Cond.initialized RX0, Cond.code yX0_savable cX0_savable 1 (some .int), Cond.fieldLink RX0 9 "BatteryCaches$Battery" "charge" "I", Cond.fieldLink RX0 24 "BatteryCaches$Battery" "cutCost" "I", Cond.fieldLink RX0 21 "BatteryCaches$Battery" "lineCost" "I", Cond.methodLink RX0 37 Lib.Math.min.name, Cond.methodLink RX4 124 yX4_flushLowest, Cond.instanceMethod yX4_flushLowest, Cond.selects RX4 yX4_flushLowest yX4_flushLowest, Cond.code yX4_flushLowest cX4_flushLowest 3 (some .int), Cond.methodLink RX4 111 yX4_lowestTurn, Cond.instanceMethod yX4_lowestTurn, Cond.selects RX4 yX4_lowestTurn yX4_lowestTurn, Cond.code yX4_lowestTurn cX4_lowestTurn 5 (some .int), Cond.fieldLink RX4 34 "BatteryCaches$State" "turn" "[I", Cond.methodLink RX4 101 yX4_flushLine, Cond.instanceMethod yX4_flushLine]
def wsX4_cutPower_r3 : List Cond := [Cond.selects RX4 yX4_flushLine yX4_flushLine, Cond.code yX4_flushLine cX4_flushLine 2 none, Cond.fieldLink RX4 28 "BatteryCaches$State" "place" "[I", Cond.fieldLink RX4 31 "BatteryCaches$State" "value" "[I", Cond.fieldLink RX4 50 "BatteryCaches$State" "flushed" "I", Cond.static yX6_isLine, Cond.initialized RX6, Cond.code yX6_isLine cX6_isLine 1 (some .boolean), Cond.methodLink RX4 91 yX4_layOnDisk, Cond.instanceMethod yX4_layOnDisk, Cond.selects RX4 yX4_layOnDisk yX4_layOnDisk, Cond.code yX4_layOnDisk cX4_layOnDisk 3 none, Cond.fieldLink RX4 18 "BatteryCaches$State" "disk" "[I", Cond.fieldLink RX4 22 "BatteryCaches$State" "laid" "[I", Cond.fieldLink RX4 65 "BatteryCaches$State" "laidInAll" "I", Cond.static yX6_isPlace, Cond.code yX6_isPlace cX6_isPlace 1 (some .boolean), Cond.methodLink RX4 136 yX0_saveAtCut, Cond.instanceMethod yX0_saveAtCut, Cond.selects RX0 yX0_saveAtCut yX0_saveAtCut, Cond.code yX0_saveAtCut cX0_saveAtCut 2 none, Cond.fieldLink RX0 18 "BatteryCaches$Battery" "cycle" "I", Cond.methodLink RX0 46 yX0_costToSave, Cond.instanceMethod yX0_costToSave]
def wsX4_cutPower_r4 : List Cond := [Cond.selects RX0 yX0_costToSave yX0_costToSave, Cond.code yX0_costToSave cX0_costToSave 2 (some .int), Cond.methodLink RX0 50 yX0_useUp, Cond.instanceMethod yX0_useUp, Cond.selects RX0 yX0_useUp yX0_useUp, Cond.code yX0_useUp cX0_useUp 2 none, Cond.methodLink RX0 43 Lib.Math.max.name, Cond.static Lib.Math.max.name, Cond.code Lib.Math.max.name Lib.Math.max.code 2 (some .int)]
def wsX4_cutPower : List Cond := .code yX4_cutPower cX4_cutPower 4 (some .int) :: ((wsX4_cutPower_r1 ++ (wsX4_cutPower_r2 ++ (wsX4_cutPower_r3 ++ wsX4_cutPower_r4))) ++ wsX40 ++ wsX00)
def wsX4_beginCycle_r1 : List Cond := [Cond.fieldLink RX4 12 "BatteryCaches$State" "battery" "LBatteryCaches$Battery;", Cond.fieldLink RX4 130 "BatteryCaches$Battery" "cycle" "I", Cond.methodLink RX4 121 yX4_tooMany, Cond.instanceMethod yX4_tooMany, Cond.selects RX4 yX4_tooMany yX4_tooMany, Cond.initialized RX4, Cond.code yX4_tooMany cX4_tooMany 1 (some .int), Cond.methodLink RX4 139 Lib.Math.max.name, Cond.static Lib.Math.max.name, Cond.initialized "java/lang/Math", Cond.code Lib.Math.max.name Lib.Math.max.code 2 (some .int), Cond.methodLink RX4 84 yX4_numberOf, Cond.instanceMethod yX4_numberOf, Cond.selects RX4 yX4_numberOf yX4_numberOf, Cond.code yX4_numberOf cX4_numberOf 2 (some .int), Cond.methodLink RX4 154 yX4_setOf, Cond.instanceMethod yX4_setOf, Cond.selects RX4 yX4_setOf yX4_setOf, Cond.code yX4_setOf cX4_setOf 4 (some .int), Cond.fieldLink RX4 25 "BatteryCaches$State" "kind" "[I", Cond.methodLink RX4 157 yJ6_bitCount_0f7a4, Cond.static yJ6_bitCount_0f7a4, Cond.initialized RJ6, Cond.code yJ6_bitCount_0f7a4 cJ6_bitCount_0f7a4 1 (some .int)]
def wsX4_beginCycle_r2 : List Cond := [Cond.constant RJ6 265 (1431655765), Cond.constant RJ6 266 (858993459), Cond.constant RJ6 267 (252645135), Cond.methodLink RX4 87 yX0_allowance, Cond.instanceMethod yX0_allowance, Cond.selects RX0 yX0_allowance yX0_allowance, Cond.initialized RX0, Cond.code yX0_allowance cX0_allowance 1 (some .int), Cond.fieldLink RX0 18 "BatteryCaches$Battery" "cycle" "I", Cond.methodLink RX0 33 yX0_savable, Cond.instanceMethod yX0_savable, Cond.selects RX0 yX0_savable yX0_savable, Cond.code yX0_savable cX0_savable 1 (some .int), Cond.fieldLink RX0 9 "BatteryCaches$Battery" "charge" "I", Cond.fieldLink RX0 24 "BatteryCaches$Battery" "cutCost" "I", Cond.fieldLink RX0 21 "BatteryCaches$Battery" "lineCost" "I", Cond.methodLink RX0 37 Lib.Math.min.name, Cond.static Lib.Math.min.name, Cond.code Lib.Math.min.name Lib.Math.min.code 2 (some .int), Cond.methodLink RX4 124 yX4_flushLowest, Cond.instanceMethod yX4_flushLowest, Cond.selects RX4 yX4_flushLowest yX4_flushLowest, Cond.code yX4_flushLowest cX4_flushLowest 3 (some .int), Cond.methodLink RX4 111 yX4_lowestTurn]
def wsX4_beginCycle_r3 : List Cond := [Cond.instanceMethod yX4_lowestTurn, Cond.selects RX4 yX4_lowestTurn yX4_lowestTurn, Cond.code yX4_lowestTurn cX4_lowestTurn 5 (some .int), Cond.fieldLink RX4 34 "BatteryCaches$State" "turn" "[I", Cond.methodLink RX4 101 yX4_flushLine, Cond.instanceMethod yX4_flushLine, Cond.selects RX4 yX4_flushLine yX4_flushLine, Cond.code yX4_flushLine cX4_flushLine 2 none, Cond.fieldLink RX4 28 "BatteryCaches$State" "place" "[I", Cond.fieldLink RX4 31 "BatteryCaches$State" "value" "[I", Cond.fieldLink RX4 50 "BatteryCaches$State" "flushed" "I", Cond.static yX6_isLine, Cond.initialized RX6, Cond.code yX6_isLine cX6_isLine 1 (some .boolean), Cond.methodLink RX4 91 yX4_layOnDisk, Cond.instanceMethod yX4_layOnDisk, Cond.selects RX4 yX4_layOnDisk yX4_layOnDisk, Cond.code yX4_layOnDisk cX4_layOnDisk 3 none, Cond.fieldLink RX4 18 "BatteryCaches$State" "disk" "[I", Cond.fieldLink RX4 22 "BatteryCaches$State" "laid" "[I", Cond.fieldLink RX4 65 "BatteryCaches$State" "laidInAll" "I", Cond.static yX6_isPlace, Cond.code yX6_isPlace cX6_isPlace 1 (some .boolean)]
def wsX4_beginCycle : List Cond := .code yX4_beginCycle cX4_beginCycle 1 (some .int) :: ((wsX4_beginCycle_r1 ++ (wsX4_beginCycle_r2 ++ wsX4_beginCycle_r3)) ++ wsX40 ++ wsX00)
def wsX3_perform_r1 : List Cond := [Cond.fieldLink RX3 21 "BatteryCaches$Rehearsal" "order" "LBatteryCaches$Order;", Cond.fieldLink RX3 58 "BatteryCaches$Order" "letter" "I", Cond.fieldLink RX3 12 "BatteryCaches$Rehearsal" "trial" "LBatteryCaches$State;", Cond.fieldLink RX3 70 "BatteryCaches$Order" "number" "I", Cond.fieldLink RX3 77 "BatteryCaches$Order" "newValue" "I", Cond.methodLink RX3 73 yX4_readPlace, Cond.instanceMethod yX4_readPlace, Cond.selects RX4 yX4_readPlace yX4_readPlace, Cond.initialized RX4, Cond.code yX4_readPlace cX4_readPlace 3 (some .int), Cond.fieldLink RX4 31 "BatteryCaches$State" "value" "[I", Cond.methodLink RX4 76 yX4_lineFor, Cond.instanceMethod yX4_lineFor, Cond.selects RX4 yX4_lineFor yX4_lineFor, Cond.code yX4_lineFor cX4_lineFor 3 (some .int), Cond.fieldLink RX4 44 "BatteryCaches$State" "hits" "I", Cond.fieldLink RX4 47 "BatteryCaches$State" "misses" "I", Cond.fieldLink RX4 37 "BatteryCaches$State" "lastTurn" "I", Cond.fieldLink RX4 34 "BatteryCaches$State" "turn" "[I", Cond.methodLink RX4 95 yX4_holderOf, Cond.instanceMethod yX4_holderOf, Cond.selects RX4 yX4_holderOf yX4_holderOf, Cond.code yX4_holderOf cX4_holderOf 3 (some .int), Cond.fieldLink RX4 25 "BatteryCaches$State" "kind" "[I"]
def wsX3_perform_r2 : List Cond := [Cond.fieldLink RX4 28 "BatteryCaches$State" "place" "[I", Cond.static yX6_isLine, Cond.initialized RX6, Cond.code yX6_isLine cX6_isLine 1 (some .boolean), Cond.methodLink RX4 98 yX4_lineToTake, Cond.instanceMethod yX4_lineToTake, Cond.selects RX4 yX4_lineToTake yX4_lineToTake, Cond.code yX4_lineToTake cX4_lineToTake 2 (some .int), Cond.methodLink RX4 108 yX4_lowestEmpty, Cond.instanceMethod yX4_lowestEmpty, Cond.selects RX4 yX4_lowestEmpty yX4_lowestEmpty, Cond.code yX4_lowestEmpty cX4_lowestEmpty 2 (some .int), Cond.methodLink RX4 111 yX4_lowestTurn, Cond.instanceMethod yX4_lowestTurn, Cond.selects RX4 yX4_lowestTurn yX4_lowestTurn, Cond.code yX4_lowestTurn cX4_lowestTurn 5 (some .int), Cond.methodLink RX4 101 yX4_flushLine, Cond.instanceMethod yX4_flushLine, Cond.selects RX4 yX4_flushLine yX4_flushLine, Cond.code yX4_flushLine cX4_flushLine 2 none, Cond.fieldLink RX4 50 "BatteryCaches$State" "flushed" "I", Cond.methodLink RX4 91 yX4_layOnDisk, Cond.instanceMethod yX4_layOnDisk, Cond.selects RX4 yX4_layOnDisk yX4_layOnDisk]
def wsX3_perform_r3 : List Cond := [Cond.code yX4_layOnDisk cX4_layOnDisk 3 none, Cond.fieldLink RX4 18 "BatteryCaches$State" "disk" "[I", Cond.fieldLink RX4 22 "BatteryCaches$State" "laid" "[I", Cond.fieldLink RX4 65 "BatteryCaches$State" "laidInAll" "I", Cond.static yX6_isPlace, Cond.code yX6_isPlace cX6_isPlace 1 (some .boolean), Cond.methodLink RX4 105 yX4_layIntoLine, Cond.instanceMethod yX4_layIntoLine, Cond.selects RX4 yX4_layIntoLine yX4_layIntoLine, Cond.code yX4_layIntoLine cX4_layIntoLine 3 none, Cond.methodLink RX3 80 yX4_writePlace, Cond.instanceMethod yX4_writePlace, Cond.selects RX4 yX4_writePlace yX4_writePlace, Cond.code yX4_writePlace cX4_writePlace 4 (some .int), Cond.fieldLink RX4 12 "BatteryCaches$State" "battery" "LBatteryCaches$Battery;", Cond.fieldLink RX4 53 "BatteryCaches$State" "wentThrough" "I", Cond.methodLink RX4 84 yX4_numberOf, Cond.instanceMethod yX4_numberOf, Cond.selects RX4 yX4_numberOf yX4_numberOf, Cond.code yX4_numberOf cX4_numberOf 2 (some .int), Cond.methodLink RX4 154 yX4_setOf, Cond.instanceMethod yX4_setOf, Cond.selects RX4 yX4_setOf yX4_setOf, Cond.code yX4_setOf cX4_setOf 4 (some .int)]
def wsX3_perform_r4 : List Cond := [Cond.methodLink RX4 157 yJ6_bitCount_0f7a4, Cond.static yJ6_bitCount_0f7a4, Cond.initialized RJ6, Cond.code yJ6_bitCount_0f7a4 cJ6_bitCount_0f7a4 1 (some .int), Cond.constant RJ6 265 (1431655765), Cond.constant RJ6 266 (858993459), Cond.constant RJ6 267 (252645135), Cond.methodLink RX4 87 yX0_allowance, Cond.instanceMethod yX0_allowance, Cond.selects RX0 yX0_allowance yX0_allowance, Cond.initialized RX0, Cond.code yX0_allowance cX0_allowance 1 (some .int), Cond.fieldLink RX0 18 "BatteryCaches$Battery" "cycle" "I", Cond.methodLink RX0 33 yX0_savable, Cond.instanceMethod yX0_savable, Cond.selects RX0 yX0_savable yX0_savable, Cond.code yX0_savable cX0_savable 1 (some .int), Cond.fieldLink RX0 9 "BatteryCaches$Battery" "charge" "I", Cond.fieldLink RX0 24 "BatteryCaches$Battery" "cutCost" "I", Cond.fieldLink RX0 21 "BatteryCaches$Battery" "lineCost" "I", Cond.methodLink RX0 37 Lib.Math.min.name, Cond.static Lib.Math.min.name, Cond.initialized "java/lang/Math", Cond.code Lib.Math.min.name Lib.Math.min.code 2 (some .int)]
def wsX3_perform_r5 : List Cond := [Cond.methodLink RX3 84 yX4_passTicks, Cond.instanceMethod yX4_passTicks, Cond.selects RX4 yX4_passTicks yX4_passTicks, Cond.code yX4_passTicks cX4_passTicks 4 (some .int), Cond.fieldLink RX4 41 "BatteryCaches$State" "ticks" "I", Cond.fieldLink RX4 62 "BatteryCaches$State" "cyclesEnded" "I", Cond.methodLink RX4 117 yX0_passTick, Cond.instanceMethod yX0_passTick, Cond.selects RX0 yX0_passTick yX0_passTick, Cond.code yX0_passTick cX0_passTick 1 (some .boolean), Cond.fieldLink RX0 27 "BatteryCaches$Battery" "rise" "I", Cond.methodLink RX0 54 yX0_fallInCycle, Cond.instanceMethod yX0_fallInCycle, Cond.selects RX0 yX0_fallInCycle yX0_fallInCycle, Cond.code yX0_fallInCycle cX0_fallInCycle 1 none, Cond.fieldLink RX0 30 "BatteryCaches$Battery" "fall" "I", Cond.fieldLink RX0 15 "BatteryCaches$Battery" "wear" "I", Cond.methodLink RX0 50 yX0_useUp, Cond.instanceMethod yX0_useUp, Cond.selects RX0 yX0_useUp yX0_useUp, Cond.code yX0_useUp cX0_useUp 2 none, Cond.methodLink RX0 43 Lib.Math.max.name, Cond.static Lib.Math.max.name, Cond.code Lib.Math.max.name Lib.Math.max.code 2 (some .int)]
def wsX3_perform_r6 : List Cond := [Cond.methodLink RX0 57 yX0_capacity, Cond.instanceMethod yX0_capacity, Cond.selects RX0 yX0_capacity yX0_capacity, Cond.code yX0_capacity cX0_capacity 1 (some .int), Cond.methodLink RX4 121 yX4_tooMany, Cond.instanceMethod yX4_tooMany, Cond.selects RX4 yX4_tooMany yX4_tooMany, Cond.code yX4_tooMany cX4_tooMany 1 (some .int), Cond.methodLink RX4 139 Lib.Math.max.name, Cond.methodLink RX4 124 yX4_flushLowest, Cond.instanceMethod yX4_flushLowest, Cond.selects RX4 yX4_flushLowest yX4_flushLowest, Cond.code yX4_flushLowest cX4_flushLowest 3 (some .int), Cond.methodLink RX3 87 yX4_putLoad, Cond.instanceMethod yX4_putLoad, Cond.selects RX4 yX4_putLoad yX4_putLoad, Cond.code yX4_putLoad cX4_putLoad 2 (some .int), Cond.methodLink RX4 127 yX0_useUp, Cond.methodLink RX3 90 yX4_cutPower, Cond.instanceMethod yX4_cutPower, Cond.selects RX4 yX4_cutPower yX4_cutPower, Cond.code yX4_cutPower cX4_cutPower 4 (some .int), Cond.fieldLink RX4 56 "BatteryCaches$State" "lost" "I", Cond.fieldLink RX4 59 "BatteryCaches$State" "cuts" "I"]
def wsX3_perform_r7 : List Cond := [Cond.methodLink RX4 133 yX4_savedByCut, Cond.instanceMethod yX4_savedByCut, Cond.selects RX4 yX4_savedByCut yX4_savedByCut, Cond.code yX4_savedByCut cX4_savedByCut 1 (some .int), Cond.methodLink RX4 148 Lib.Math.min.name, Cond.methodLink RX4 145 yX0_savable, Cond.methodLink RX4 136 yX0_saveAtCut, Cond.instanceMethod yX0_saveAtCut, Cond.selects RX0 yX0_saveAtCut yX0_saveAtCut, Cond.code yX0_saveAtCut cX0_saveAtCut 2 none, Cond.methodLink RX0 46 yX0_costToSave, Cond.instanceMethod yX0_costToSave, Cond.selects RX0 yX0_costToSave yX0_costToSave, Cond.code yX0_costToSave cX0_costToSave 2 (some .int), Cond.methodLink RX3 94 yX4_beginCycle, Cond.instanceMethod yX4_beginCycle, Cond.selects RX4 yX4_beginCycle yX4_beginCycle, Cond.code yX4_beginCycle cX4_beginCycle 1 (some .int), Cond.fieldLink RX4 130 "BatteryCaches$Battery" "cycle" "I"]
def wsX3_perform : List Cond := .code yX3_perform cX3_perform 1 none :: ((wsX3_perform_r1 ++ (wsX3_perform_r2 ++ (wsX3_perform_r3 ++ (wsX3_perform_r4 ++ (wsX3_perform_r5 ++ (wsX3_perform_r6 ++ wsX3_perform_r7)))))) ++ wsX30 ++ wsX20 ++ wsX40 ++ wsX00)
def wsX3_run_r1 : List Cond := [Cond.fieldLink RX3 12 "BatteryCaches$Rehearsal" "trial" "LBatteryCaches$State;", Cond.fieldLink RX3 21 "BatteryCaches$Rehearsal" "order" "LBatteryCaches$Order;", Cond.fieldLink RX3 25 "BatteryCaches$Rehearsal" "done" "I", Cond.fieldLink RX3 36 "BatteryCaches$Order" "next" "I", Cond.fieldLink RX3 39 "BatteryCaches$Text" "length" "I", Cond.fieldLink RX3 48 "BatteryCaches$Order" "reason" "I", Cond.methodLink RX3 29 yX4_copy, Cond.static yX4_copy, Cond.initialized RX4, Cond.code yX4_copy cX4_copy 2 none, Cond.fieldLink RX4 12 "BatteryCaches$State" "battery" "LBatteryCaches$Battery;", Cond.fieldLink RX4 18 "BatteryCaches$State" "disk" "[I", Cond.fieldLink RX4 22 "BatteryCaches$State" "laid" "[I", Cond.fieldLink RX4 25 "BatteryCaches$State" "kind" "[I", Cond.fieldLink RX4 28 "BatteryCaches$State" "place" "[I", Cond.fieldLink RX4 31 "BatteryCaches$State" "value" "[I", Cond.fieldLink RX4 34 "BatteryCaches$State" "turn" "[I", Cond.fieldLink RX4 37 "BatteryCaches$State" "lastTurn" "I", Cond.fieldLink RX4 41 "BatteryCaches$State" "ticks" "I", Cond.fieldLink RX4 44 "BatteryCaches$State" "hits" "I", Cond.fieldLink RX4 47 "BatteryCaches$State" "misses" "I", Cond.fieldLink RX4 50 "BatteryCaches$State" "flushed" "I", Cond.fieldLink RX4 53 "BatteryCaches$State" "wentThrough" "I", Cond.fieldLink RX4 56 "BatteryCaches$State" "lost" "I"]
def wsX3_run_r2 : List Cond := [Cond.fieldLink RX4 59 "BatteryCaches$State" "cuts" "I", Cond.fieldLink RX4 62 "BatteryCaches$State" "cyclesEnded" "I", Cond.fieldLink RX4 65 "BatteryCaches$State" "laidInAll" "I", Cond.methodLink RX4 68 yX0_copyFrom, Cond.instanceMethod yX0_copyFrom, Cond.selects RX0 yX0_copyFrom yX0_copyFrom, Cond.initialized RX0, Cond.code yX0_copyFrom cX0_copyFrom 2 none, Cond.fieldLink RX0 9 "BatteryCaches$Battery" "charge" "I", Cond.fieldLink RX0 15 "BatteryCaches$Battery" "wear" "I", Cond.fieldLink RX0 18 "BatteryCaches$Battery" "cycle" "I", Cond.fieldLink RX0 21 "BatteryCaches$Battery" "lineCost" "I", Cond.fieldLink RX0 24 "BatteryCaches$Battery" "cutCost" "I", Cond.fieldLink RX0 27 "BatteryCaches$Battery" "rise" "I", Cond.fieldLink RX0 30 "BatteryCaches$Battery" "fall" "I", Cond.static yX6_copyRow, Cond.initialized RX6, Cond.code yX6_copyRow cX6_copyRow 2 none, Cond.methodLink RX6 253 Lib.Math.min.name, Cond.static Lib.Math.min.name, Cond.initialized "java/lang/Math", Cond.code Lib.Math.min.name Lib.Math.min.code 2 (some .int), Cond.methodLink RX6 256 arraycopyName, Cond.native arraycopyName]
def wsX3_run_r3 : List Cond := [Cond.static arraycopyName, Cond.initialized "java/lang/System", Cond.methodLink RX3 33 yX2_beginText, Cond.instanceMethod yX2_beginText, Cond.selects RX2 yX2_beginText yX2_beginText, Cond.initialized RX2, Cond.code yX2_beginText cX2_beginText 1 none, Cond.fieldLink RX2 15 "BatteryCaches$Order" "next" "I", Cond.fieldLink RX2 27 "BatteryCaches$Order" "reason" "I", Cond.methodLink RX3 44 yX2_readNext, Cond.instanceMethod yX2_readNext, Cond.selects RX2 yX2_readNext yX2_readNext, Cond.code yX2_readNext cX2_readNext 2 none, Cond.fieldLink RX2 9 "BatteryCaches$Order" "start" "I", Cond.fieldLink RX2 30 "BatteryCaches$Order" "cause" "I", Cond.fieldLink RX2 21 "BatteryCaches$Order" "number" "I", Cond.methodLink RX2 33 yX2_hasForm, Cond.instanceMethod yX2_hasForm, Cond.selects RX2 yX2_hasForm yX2_hasForm, Cond.code yX2_hasForm cX2_hasForm 2 (some .boolean), Cond.fieldLink RX2 18 "BatteryCaches$Order" "letter" "I", Cond.methodLink RX2 41 yX5_at, Cond.instanceMethod yX5_at, Cond.selects RX5 yX5_at yX5_at]
def wsX3_run_r4 : List Cond := [Cond.initialized RX5, Cond.code yX5_at cX5_at 3 (some .int), Cond.fieldLink RX5 15 "BatteryCaches$Text" "length" "I", Cond.fieldLink RX5 9 "BatteryCaches$Text" "characters" "[I", Cond.methodLink RX2 47 yX2_readNumber, Cond.instanceMethod yX2_readNumber, Cond.selects RX2 yX2_readNumber yX2_readNumber, Cond.code yX2_readNumber cX2_readNumber 4 (some .int), Cond.static yX6_isWithin, Cond.code yX6_isWithin cX6_isWithin 3 (some .boolean), Cond.methodLink RX2 51 yX2_readSign, Cond.instanceMethod yX2_readSign, Cond.selects RX2 yX2_readSign yX2_readSign, Cond.code yX2_readSign cX2_readSign 3 (some .boolean), Cond.methodLink RX2 55 yX2_hasFormOfWrite, Cond.instanceMethod yX2_hasFormOfWrite, Cond.selects RX2 yX2_hasFormOfWrite yX2_hasFormOfWrite, Cond.code yX2_hasFormOfWrite cX2_hasFormOfWrite 2 (some .boolean), Cond.fieldLink RX2 24 "BatteryCaches$Order" "newValue" "I", Cond.methodLink RX2 37 yX2_isInRange, Cond.instanceMethod yX2_isInRange, Cond.selects RX2 yX2_isInRange yX2_isInRange, Cond.code yX2_isInRange cX2_isInRange 1 (some .boolean), Cond.static yX6_isPlace]
def wsX3_run_r5 : List Cond := [Cond.code yX6_isPlace cX6_isPlace 1 (some .boolean), Cond.methodLink RX3 51 yX3_isPossible, Cond.instanceMethod yX3_isPossible, Cond.selects RX3 yX3_isPossible yX3_isPossible, Cond.initialized RX3, Cond.code yX3_isPossible cX3_isPossible 1 (some .boolean), Cond.fieldLink RX3 58 "BatteryCaches$Order" "letter" "I", Cond.fieldLink RX3 61 "BatteryCaches$State" "battery" "LBatteryCaches$Battery;", Cond.fieldLink RX3 65 "BatteryCaches$Battery" "cycle" "I", Cond.methodLink RX3 55 yX3_perform, Cond.instanceMethod yX3_perform, Cond.selects RX3 yX3_perform yX3_perform, Cond.code yX3_perform cX3_perform 1 none, Cond.fieldLink RX3 70 "BatteryCaches$Order" "number" "I", Cond.fieldLink RX3 77 "BatteryCaches$Order" "newValue" "I", Cond.methodLink RX3 73 yX4_readPlace, Cond.instanceMethod yX4_readPlace, Cond.selects RX4 yX4_readPlace yX4_readPlace, Cond.code yX4_readPlace cX4_readPlace 3 (some .int), Cond.methodLink RX4 76 yX4_lineFor, Cond.instanceMethod yX4_lineFor, Cond.selects RX4 yX4_lineFor yX4_lineFor, Cond.code yX4_lineFor cX4_lineFor 3 (some .int), Cond.methodLink RX4 95 yX4_holderOf]
def wsX3_run_r6 : List Cond := [Cond.instanceMethod yX4_holderOf, Cond.selects RX4 yX4_holderOf yX4_holderOf, Cond.code yX4_holderOf cX4_holderOf 3 (some .int), Cond.static yX6_isLine, Cond.code yX6_isLine cX6_isLine 1 (some .boolean), Cond.methodLink RX4 98 yX4_lineToTake, Cond.instanceMethod yX4_lineToTake, Cond.selects RX4 yX4_lineToTake yX4_lineToTake, Cond.code yX4_lineToTake cX4_lineToTake 2 (some .int), Cond.methodLink RX4 108 yX4_lowestEmpty, Cond.instanceMethod yX4_lowestEmpty, Cond.selects RX4 yX4_lowestEmpty yX4_lowestEmpty, Cond.code yX4_lowestEmpty cX4_lowestEmpty 2 (some .int), Cond.methodLink RX4 111 yX4_lowestTurn, Cond.instanceMethod yX4_lowestTurn, Cond.selects RX4 yX4_lowestTurn yX4_lowestTurn, Cond.code yX4_lowestTurn cX4_lowestTurn 5 (some .int), Cond.methodLink RX4 101 yX4_flushLine, Cond.instanceMethod yX4_flushLine, Cond.selects RX4 yX4_flushLine yX4_flushLine, Cond.code yX4_flushLine cX4_flushLine 2 none, Cond.methodLink RX4 91 yX4_layOnDisk, Cond.instanceMethod yX4_layOnDisk, Cond.selects RX4 yX4_layOnDisk yX4_layOnDisk]
def wsX3_run_r7 : List Cond := [Cond.code yX4_layOnDisk cX4_layOnDisk 3 none, Cond.methodLink RX4 105 yX4_layIntoLine, Cond.instanceMethod yX4_layIntoLine, Cond.selects RX4 yX4_layIntoLine yX4_layIntoLine, Cond.code yX4_layIntoLine cX4_layIntoLine 3 none, Cond.methodLink RX3 80 yX4_writePlace, Cond.instanceMethod yX4_writePlace, Cond.selects RX4 yX4_writePlace yX4_writePlace, Cond.code yX4_writePlace cX4_writePlace 4 (some .int), Cond.methodLink RX4 84 yX4_numberOf, Cond.instanceMethod yX4_numberOf, Cond.selects RX4 yX4_numberOf yX4_numberOf, Cond.code yX4_numberOf cX4_numberOf 2 (some .int), Cond.methodLink RX4 154 yX4_setOf, Cond.instanceMethod yX4_setOf, Cond.selects RX4 yX4_setOf yX4_setOf, Cond.code yX4_setOf cX4_setOf 4 (some .int), Cond.methodLink RX4 157 yJ6_bitCount_0f7a4, Cond.static yJ6_bitCount_0f7a4, Cond.initialized RJ6, Cond.code yJ6_bitCount_0f7a4 cJ6_bitCount_0f7a4 1 (some .int), Cond.constant RJ6 265 (1431655765), Cond.constant RJ6 266 (858993459), Cond.constant RJ6 267 (252645135)]
def wsX3_run_r8 : List Cond := [Cond.methodLink RX4 87 yX0_allowance, Cond.instanceMethod yX0_allowance, Cond.selects RX0 yX0_allowance yX0_allowance, Cond.code yX0_allowance cX0_allowance 1 (some .int), Cond.methodLink RX0 33 yX0_savable, Cond.instanceMethod yX0_savable, Cond.selects RX0 yX0_savable yX0_savable, Cond.code yX0_savable cX0_savable 1 (some .int), Cond.methodLink RX0 37 Lib.Math.min.name, Cond.methodLink RX3 84 yX4_passTicks, Cond.instanceMethod yX4_passTicks, Cond.selects RX4 yX4_passTicks yX4_passTicks, Cond.code yX4_passTicks cX4_passTicks 4 (some .int), Cond.methodLink RX4 117 yX0_passTick, Cond.instanceMethod yX0_passTick, Cond.selects RX0 yX0_passTick yX0_passTick, Cond.code yX0_passTick cX0_passTick 1 (some .boolean), Cond.methodLink RX0 54 yX0_fallInCycle, Cond.instanceMethod yX0_fallInCycle, Cond.selects RX0 yX0_fallInCycle yX0_fallInCycle, Cond.code yX0_fallInCycle cX0_fallInCycle 1 none, Cond.methodLink RX0 50 yX0_useUp, Cond.instanceMethod yX0_useUp, Cond.selects RX0 yX0_useUp yX0_useUp]
def wsX3_run_r9 : List Cond := [Cond.code yX0_useUp cX0_useUp 2 none, Cond.methodLink RX0 43 Lib.Math.max.name, Cond.static Lib.Math.max.name, Cond.code Lib.Math.max.name Lib.Math.max.code 2 (some .int), Cond.methodLink RX0 57 yX0_capacity, Cond.instanceMethod yX0_capacity, Cond.selects RX0 yX0_capacity yX0_capacity, Cond.code yX0_capacity cX0_capacity 1 (some .int), Cond.methodLink RX4 121 yX4_tooMany, Cond.instanceMethod yX4_tooMany, Cond.selects RX4 yX4_tooMany yX4_tooMany, Cond.code yX4_tooMany cX4_tooMany 1 (some .int), Cond.methodLink RX4 139 Lib.Math.max.name, Cond.methodLink RX4 124 yX4_flushLowest, Cond.instanceMethod yX4_flushLowest, Cond.selects RX4 yX4_flushLowest yX4_flushLowest, Cond.code yX4_flushLowest cX4_flushLowest 3 (some .int), Cond.methodLink RX3 87 yX4_putLoad, Cond.instanceMethod yX4_putLoad, Cond.selects RX4 yX4_putLoad yX4_putLoad, Cond.code yX4_putLoad cX4_putLoad 2 (some .int), Cond.methodLink RX4 127 yX0_useUp, Cond.methodLink RX3 90 yX4_cutPower, Cond.instanceMethod yX4_cutPower]
def wsX3_run_r10 : List Cond := [Cond.selects RX4 yX4_cutPower yX4_cutPower, Cond.code yX4_cutPower cX4_cutPower 4 (some .int), Cond.methodLink RX4 133 yX4_savedByCut, Cond.instanceMethod yX4_savedByCut, Cond.selects RX4 yX4_savedByCut yX4_savedByCut, Cond.code yX4_savedByCut cX4_savedByCut 1 (some .int), Cond.methodLink RX4 148 Lib.Math.min.name, Cond.methodLink RX4 145 yX0_savable, Cond.methodLink RX4 136 yX0_saveAtCut, Cond.instanceMethod yX0_saveAtCut, Cond.selects RX0 yX0_saveAtCut yX0_saveAtCut, Cond.code yX0_saveAtCut cX0_saveAtCut 2 none, Cond.methodLink RX0 46 yX0_costToSave, Cond.instanceMethod yX0_costToSave, Cond.selects RX0 yX0_costToSave yX0_costToSave, Cond.code yX0_costToSave cX0_costToSave 2 (some .int), Cond.methodLink RX3 94 yX4_beginCycle, Cond.instanceMethod yX4_beginCycle, Cond.selects RX4 yX4_beginCycle yX4_beginCycle, Cond.code yX4_beginCycle cX4_beginCycle 1 (some .int), Cond.fieldLink RX4 130 "BatteryCaches$Battery" "cycle" "I"]
def wsX3_run : List Cond := .code yX3_run cX3_run 4 none :: ((wsX3_run_r1 ++ (wsX3_run_r2 ++ (wsX3_run_r3 ++ (wsX3_run_r4 ++ (wsX3_run_r5 ++ (wsX3_run_r6 ++ (wsX3_run_r7 ++ (wsX3_run_r8 ++ (wsX3_run_r9 ++ wsX3_run_r10))))))))) ++ wsX30 ++ wsX20 ++ wsX50 ++ wsX40 ++ wsX00)
def wsX4_linesAhead : List Cond := .code yX4_linesAhead cX4_linesAhead 5 (some .int) :: ([.fieldLink RX4 25 "BatteryCaches$State" "kind" "[I", .fieldLink RX4 34 "BatteryCaches$State" "turn" "[I", .static yX6_isLine, .initialized RX6, .code yX6_isLine cX6_isLine 1 (some .boolean)] ++ wsX40)
def wsX4_lostByCut_r1 : List Cond := [Cond.fieldLink RX4 25 "BatteryCaches$State" "kind" "[I", Cond.methodLink RX4 133 yX4_savedByCut, Cond.instanceMethod yX4_savedByCut, Cond.selects RX4 yX4_savedByCut yX4_savedByCut, Cond.initialized RX4, Cond.code yX4_savedByCut cX4_savedByCut 1 (some .int), Cond.fieldLink RX4 12 "BatteryCaches$State" "battery" "LBatteryCaches$Battery;", Cond.methodLink RX4 148 Lib.Math.min.name, Cond.static Lib.Math.min.name, Cond.initialized "java/lang/Math", Cond.code Lib.Math.min.name Lib.Math.min.code 2 (some .int), Cond.methodLink RX4 84 yX4_numberOf, Cond.instanceMethod yX4_numberOf, Cond.selects RX4 yX4_numberOf yX4_numberOf, Cond.code yX4_numberOf cX4_numberOf 2 (some .int), Cond.methodLink RX4 154 yX4_setOf, Cond.instanceMethod yX4_setOf, Cond.selects RX4 yX4_setOf yX4_setOf, Cond.code yX4_setOf cX4_setOf 4 (some .int), Cond.methodLink RX4 157 yJ6_bitCount_0f7a4, Cond.static yJ6_bitCount_0f7a4, Cond.initialized RJ6, Cond.code yJ6_bitCount_0f7a4 cJ6_bitCount_0f7a4 1 (some .int), Cond.constant RJ6 265 (1431655765)]
def wsX4_lostByCut_r2 : List Cond := [Cond.constant RJ6 266 (858993459), Cond.constant RJ6 267 (252645135), Cond.methodLink RX4 145 yX0_savable, Cond.instanceMethod yX0_savable, Cond.selects RX0 yX0_savable yX0_savable, Cond.initialized RX0, Cond.code yX0_savable cX0_savable 1 (some .int), Cond.fieldLink RX0 9 "BatteryCaches$Battery" "charge" "I", Cond.fieldLink RX0 24 "BatteryCaches$Battery" "cutCost" "I", Cond.fieldLink RX0 21 "BatteryCaches$Battery" "lineCost" "I", Cond.methodLink RX0 37 Lib.Math.min.name, Cond.methodLink RX4 151 yX4_linesAhead, Cond.instanceMethod yX4_linesAhead, Cond.selects RX4 yX4_linesAhead yX4_linesAhead, Cond.code yX4_linesAhead cX4_linesAhead 5 (some .int), Cond.fieldLink RX4 34 "BatteryCaches$State" "turn" "[I", Cond.static yX6_isLine, Cond.initialized RX6, Cond.code yX6_isLine cX6_isLine 1 (some .boolean)]
def wsX4_lostByCut : List Cond := .code yX4_lostByCut cX4_lostByCut 4 (some .int) :: ((wsX4_lostByCut_r1 ++ wsX4_lostByCut_r2) ++ wsX40 ++ wsX00)
def wsX4_distanceToDirty : List Cond := .code yX4_distanceToDirty cX4_distanceToDirty 4 (some .int) :: ([.fieldLink RX4 25 "BatteryCaches$State" "kind" "[I", .fieldLink RX4 28 "BatteryCaches$State" "place" "[I", .methodLink RX4 165 Lib.Math.abs.name, .static Lib.Math.abs.name, .initialized "java/lang/Math", .code Lib.Math.abs.name Lib.Math.abs.code 1 (some .int), .methodLink RX4 148 Lib.Math.min.name, .static Lib.Math.min.name, .code Lib.Math.min.name Lib.Math.min.code 2 (some .int), .static yX6_isLine, .initialized RX6, .code yX6_isLine cX6_isLine 1 (some .boolean)] ++ wsX40)
def wsX4_nearestPair : List Cond := .code yX4_nearestPair cX4_nearestPair 6 (some .int) :: ([.fieldLink RX4 25 "BatteryCaches$State" "kind" "[I", .fieldLink RX4 34 "BatteryCaches$State" "turn" "[I", .methodLink RX4 162 yX4_distanceToDirty, .instanceMethod yX4_distanceToDirty, .selects RX4 yX4_distanceToDirty yX4_distanceToDirty, .initialized RX4, .code yX4_distanceToDirty cX4_distanceToDirty 4 (some .int), .fieldLink RX4 28 "BatteryCaches$State" "place" "[I", .methodLink RX4 165 Lib.Math.abs.name, .static Lib.Math.abs.name, .initialized "java/lang/Math", .code Lib.Math.abs.name Lib.Math.abs.code 1 (some .int), .methodLink RX4 148 Lib.Math.min.name, .static Lib.Math.min.name, .code Lib.Math.min.name Lib.Math.min.code 2 (some .int), .static yX6_isLine, .initialized RX6, .code yX6_isLine cX6_isLine 1 (some .boolean)] ++ wsX40)
def wsX5_init : List Cond := .code yX5_init cX5_init 1 none :: ([.methodLink RX5 3 objectInit, .instanceMethod objectInit, .code objectInit ⟨#[0xb1]⟩ 1 none, .arrayClass .int, .fieldLink RX5 9 "BatteryCaches$Text" "characters" "[I", .fieldLink RX5 15 "BatteryCaches$Text" "length" "I"] ++ wsX50)
def wsX5_append : List Cond := .code yX5_append cX5_append 2 none :: ([.fieldLink RX5 15 "BatteryCaches$Text" "length" "I", .fieldLink RX5 9 "BatteryCaches$Text" "characters" "[I", .static yX6_isWithin, .initialized RX6, .code yX6_isWithin cX6_isWithin 3 (some .boolean)] ++ wsX50)
def wsX6_init_r1 : List Cond := [Cond.methodLink RX6 1 objectInit, Cond.instanceMethod objectInit, Cond.code objectInit ⟨#[0xb1]⟩ 1 none, Cond.classLink RX6 7 RX4, Cond.instantiable RX4 17, Cond.initialized RX4, Cond.fieldLink RX6 10 "BatteryCaches" "now" "LBatteryCaches$State;", Cond.classLink RX6 16 RX1, Cond.instantiable RX1 2, Cond.initialized RX1, Cond.fieldLink RX6 19 "BatteryCaches" "history" "LBatteryCaches$History;", Cond.classLink RX6 23 RX5, Cond.instantiable RX5 2, Cond.initialized RX5, Cond.fieldLink RX6 26 "BatteryCaches" "text" "LBatteryCaches$Text;", Cond.classLink RX6 30 RX3, Cond.instantiable RX3 3, Cond.initialized RX3, Cond.fieldLink RX6 33 "BatteryCaches" "rehearsal" "LBatteryCaches$Rehearsal;", Cond.classLink RX6 37 RX0, Cond.instantiable RX0 7, Cond.initialized RX0, Cond.fieldLink RX6 40 "BatteryCaches" "trialBattery" "LBatteryCaches$Battery;", Cond.instanceMethod yX4_init]
def wsX6_init_r2 : List Cond := [Cond.code yX4_init cX4_init 1 none, Cond.methodLink RX4 3 objectInit, Cond.classLink RX4 9 RX0, Cond.fieldLink RX4 12 "BatteryCaches$State" "battery" "LBatteryCaches$Battery;", Cond.arrayClass .int, Cond.fieldLink RX4 18 "BatteryCaches$State" "disk" "[I", Cond.fieldLink RX4 22 "BatteryCaches$State" "laid" "[I", Cond.fieldLink RX4 25 "BatteryCaches$State" "kind" "[I", Cond.fieldLink RX4 28 "BatteryCaches$State" "place" "[I", Cond.fieldLink RX4 31 "BatteryCaches$State" "value" "[I", Cond.fieldLink RX4 34 "BatteryCaches$State" "turn" "[I", Cond.fieldLink RX4 37 "BatteryCaches$State" "lastTurn" "I", Cond.fieldLink RX4 41 "BatteryCaches$State" "ticks" "I", Cond.fieldLink RX4 44 "BatteryCaches$State" "hits" "I", Cond.fieldLink RX4 47 "BatteryCaches$State" "misses" "I", Cond.fieldLink RX4 50 "BatteryCaches$State" "flushed" "I", Cond.fieldLink RX4 53 "BatteryCaches$State" "wentThrough" "I", Cond.fieldLink RX4 56 "BatteryCaches$State" "lost" "I", Cond.fieldLink RX4 59 "BatteryCaches$State" "cuts" "I", Cond.fieldLink RX4 62 "BatteryCaches$State" "cyclesEnded" "I", Cond.fieldLink RX4 65 "BatteryCaches$State" "laidInAll" "I", Cond.instanceMethod yX0_init, Cond.code yX0_init cX0_init 1 none, Cond.methodLink RX0 3 objectInit]
def wsX6_init_r3 : List Cond := [Cond.fieldLink RX0 9 "BatteryCaches$Battery" "charge" "I", Cond.fieldLink RX0 15 "BatteryCaches$Battery" "wear" "I", Cond.fieldLink RX0 18 "BatteryCaches$Battery" "cycle" "I", Cond.fieldLink RX0 21 "BatteryCaches$Battery" "lineCost" "I", Cond.fieldLink RX0 24 "BatteryCaches$Battery" "cutCost" "I", Cond.fieldLink RX0 27 "BatteryCaches$Battery" "rise" "I", Cond.fieldLink RX0 30 "BatteryCaches$Battery" "fall" "I", Cond.methodLink RX6 18 yX1_init, Cond.instanceMethod yX1_init, Cond.code yX1_init cX1_init 2 none, Cond.methodLink RX1 3 objectInit, Cond.classLink RX1 9 RX4, Cond.fieldLink RX1 11 "BatteryCaches$History" "states" "[LBatteryCaches$State;", Cond.fieldLink RX1 17 "BatteryCaches$History" "size" "I", Cond.instanceMethod yX5_init, Cond.code yX5_init cX5_init 1 none, Cond.methodLink RX5 3 objectInit, Cond.fieldLink RX5 9 "BatteryCaches$Text" "characters" "[I", Cond.fieldLink RX5 15 "BatteryCaches$Text" "length" "I", Cond.instanceMethod yX3_init, Cond.code yX3_init cX3_init 1 none, Cond.methodLink RX3 3 objectInit, Cond.classLink RX3 9 RX4, Cond.fieldLink RX3 12 "BatteryCaches$Rehearsal" "trial" "LBatteryCaches$State;"]
def wsX6_init_r4 : List Cond := [Cond.classLink RX3 18 RX2, Cond.instantiable RX2 7, Cond.initialized RX2, Cond.fieldLink RX3 21 "BatteryCaches$Rehearsal" "order" "LBatteryCaches$Order;", Cond.fieldLink RX3 25 "BatteryCaches$Rehearsal" "done" "I", Cond.instanceMethod yX2_init, Cond.code yX2_init cX2_init 1 none, Cond.methodLink RX2 3 objectInit, Cond.fieldLink RX2 9 "BatteryCaches$Order" "start" "I", Cond.fieldLink RX2 15 "BatteryCaches$Order" "next" "I", Cond.fieldLink RX2 18 "BatteryCaches$Order" "letter" "I", Cond.fieldLink RX2 21 "BatteryCaches$Order" "number" "I", Cond.fieldLink RX2 24 "BatteryCaches$Order" "newValue" "I", Cond.fieldLink RX2 27 "BatteryCaches$Order" "reason" "I", Cond.fieldLink RX2 30 "BatteryCaches$Order" "cause" "I"]
def wsX6_init : List Cond := .code yX6_init cX6_init 1 none :: ((wsX6_init_r1 ++ (wsX6_init_r2 ++ (wsX6_init_r3 ++ wsX6_init_r4))) ++ wsX40 ++ wsX60 ++ wsX10 ++ wsX50 ++ wsX30 ++ wsX00 ++ wsX20)
def wsX6_read_r1 : List Cond := [Cond.constant RX6 48 (-1000001), Cond.fieldLink RX6 19 "BatteryCaches" "history" "LBatteryCaches$History;", Cond.fieldLink RX6 10 "BatteryCaches" "now" "LBatteryCaches$State;", Cond.methodLink RX6 44 yX6_isPlace, Cond.static yX6_isPlace, Cond.initialized RX6, Cond.code yX6_isPlace cX6_isPlace 1 (some .boolean), Cond.methodLink RX6 49 yX1_keep, Cond.instanceMethod yX1_keep, Cond.selects RX1 yX1_keep yX1_keep, Cond.initialized RX1, Cond.code yX1_keep cX1_keep 2 none, Cond.fieldLink RX1 17 "BatteryCaches$History" "size" "I", Cond.fieldLink RX1 11 "BatteryCaches$History" "states" "[LBatteryCaches$State;", Cond.methodLink RX1 22 yX1_dropOldest, Cond.instanceMethod yX1_dropOldest, Cond.selects RX1 yX1_dropOldest yX1_dropOldest, Cond.code yX1_dropOldest cX1_dropOldest 3 none, Cond.static yX6_isWithin, Cond.code yX6_isWithin cX6_isWithin 3 (some .boolean), Cond.methodLink RX1 29 yX4_copy, Cond.static yX4_copy, Cond.initialized RX4, Cond.code yX4_copy cX4_copy 2 none]
def wsX6_read_r2 : List Cond := [Cond.fieldLink RX4 12 "BatteryCaches$State" "battery" "LBatteryCaches$Battery;", Cond.fieldLink RX4 18 "BatteryCaches$State" "disk" "[I", Cond.fieldLink RX4 22 "BatteryCaches$State" "laid" "[I", Cond.fieldLink RX4 25 "BatteryCaches$State" "kind" "[I", Cond.fieldLink RX4 28 "BatteryCaches$State" "place" "[I", Cond.fieldLink RX4 31 "BatteryCaches$State" "value" "[I", Cond.fieldLink RX4 34 "BatteryCaches$State" "turn" "[I", Cond.fieldLink RX4 37 "BatteryCaches$State" "lastTurn" "I", Cond.fieldLink RX4 41 "BatteryCaches$State" "ticks" "I", Cond.fieldLink RX4 44 "BatteryCaches$State" "hits" "I", Cond.fieldLink RX4 47 "BatteryCaches$State" "misses" "I", Cond.fieldLink RX4 50 "BatteryCaches$State" "flushed" "I", Cond.fieldLink RX4 53 "BatteryCaches$State" "wentThrough" "I", Cond.fieldLink RX4 56 "BatteryCaches$State" "lost" "I", Cond.fieldLink RX4 59 "BatteryCaches$State" "cuts" "I", Cond.fieldLink RX4 62 "BatteryCaches$State" "cyclesEnded" "I", Cond.fieldLink RX4 65 "BatteryCaches$State" "laidInAll" "I", Cond.methodLink RX4 68 yX0_copyFrom, Cond.instanceMethod yX0_copyFrom, Cond.selects RX0 yX0_copyFrom yX0_copyFrom, Cond.initialized RX0, Cond.code yX0_copyFrom cX0_copyFrom 2 none, Cond.fieldLink RX0 9 "BatteryCaches$Battery" "charge" "I", Cond.fieldLink RX0 15 "BatteryCaches$Battery" "wear" "I"]
def wsX6_read_r3 : List Cond := [Cond.fieldLink RX0 18 "BatteryCaches$Battery" "cycle" "I", Cond.fieldLink RX0 21 "BatteryCaches$Battery" "lineCost" "I", Cond.fieldLink RX0 24 "BatteryCaches$Battery" "cutCost" "I", Cond.fieldLink RX0 27 "BatteryCaches$Battery" "rise" "I", Cond.fieldLink RX0 30 "BatteryCaches$Battery" "fall" "I", Cond.static yX6_copyRow, Cond.code yX6_copyRow cX6_copyRow 2 none, Cond.methodLink RX6 253 Lib.Math.min.name, Cond.static Lib.Math.min.name, Cond.initialized "java/lang/Math", Cond.code Lib.Math.min.name Lib.Math.min.code 2 (some .int), Cond.methodLink RX6 256 arraycopyName, Cond.native arraycopyName, Cond.static arraycopyName, Cond.initialized "java/lang/System", Cond.methodLink RX6 53 yX4_readPlace, Cond.instanceMethod yX4_readPlace, Cond.selects RX4 yX4_readPlace yX4_readPlace, Cond.code yX4_readPlace cX4_readPlace 3 (some .int), Cond.methodLink RX4 76 yX4_lineFor, Cond.instanceMethod yX4_lineFor, Cond.selects RX4 yX4_lineFor yX4_lineFor, Cond.code yX4_lineFor cX4_lineFor 3 (some .int), Cond.methodLink RX4 95 yX4_holderOf]
def wsX6_read_r4 : List Cond := [Cond.instanceMethod yX4_holderOf, Cond.selects RX4 yX4_holderOf yX4_holderOf, Cond.code yX4_holderOf cX4_holderOf 3 (some .int), Cond.static yX6_isLine, Cond.code yX6_isLine cX6_isLine 1 (some .boolean), Cond.methodLink RX4 98 yX4_lineToTake, Cond.instanceMethod yX4_lineToTake, Cond.selects RX4 yX4_lineToTake yX4_lineToTake, Cond.code yX4_lineToTake cX4_lineToTake 2 (some .int), Cond.methodLink RX4 108 yX4_lowestEmpty, Cond.instanceMethod yX4_lowestEmpty, Cond.selects RX4 yX4_lowestEmpty yX4_lowestEmpty, Cond.code yX4_lowestEmpty cX4_lowestEmpty 2 (some .int), Cond.methodLink RX4 111 yX4_lowestTurn, Cond.instanceMethod yX4_lowestTurn, Cond.selects RX4 yX4_lowestTurn yX4_lowestTurn, Cond.code yX4_lowestTurn cX4_lowestTurn 5 (some .int), Cond.methodLink RX4 101 yX4_flushLine, Cond.instanceMethod yX4_flushLine, Cond.selects RX4 yX4_flushLine yX4_flushLine, Cond.code yX4_flushLine cX4_flushLine 2 none, Cond.methodLink RX4 91 yX4_layOnDisk, Cond.instanceMethod yX4_layOnDisk, Cond.selects RX4 yX4_layOnDisk yX4_layOnDisk]
def wsX6_read_r5 : List Cond := [Cond.code yX4_layOnDisk cX4_layOnDisk 3 none, Cond.methodLink RX4 105 yX4_layIntoLine, Cond.instanceMethod yX4_layIntoLine, Cond.selects RX4 yX4_layIntoLine yX4_layIntoLine, Cond.code yX4_layIntoLine cX4_layIntoLine 3 none]
def wsX6_read : List Cond := .code yX6_read cX6_read 2 (some .int) :: ((wsX6_read_r1 ++ (wsX6_read_r2 ++ (wsX6_read_r3 ++ (wsX6_read_r4 ++ wsX6_read_r5)))) ++ wsX60 ++ wsX10 ++ wsX40 ++ wsX00)
def wsX6_write_r1 : List Cond := [Cond.constant RX6 48 (-1000001), Cond.fieldLink RX6 19 "BatteryCaches" "history" "LBatteryCaches$History;", Cond.fieldLink RX6 10 "BatteryCaches" "now" "LBatteryCaches$State;", Cond.methodLink RX6 44 yX6_isPlace, Cond.static yX6_isPlace, Cond.initialized RX6, Cond.code yX6_isPlace cX6_isPlace 1 (some .boolean), Cond.methodLink RX6 57 yX6_isWithin, Cond.static yX6_isWithin, Cond.code yX6_isWithin cX6_isWithin 3 (some .boolean), Cond.methodLink RX6 49 yX1_keep, Cond.instanceMethod yX1_keep, Cond.selects RX1 yX1_keep yX1_keep, Cond.initialized RX1, Cond.code yX1_keep cX1_keep 2 none, Cond.fieldLink RX1 17 "BatteryCaches$History" "size" "I", Cond.fieldLink RX1 11 "BatteryCaches$History" "states" "[LBatteryCaches$State;", Cond.methodLink RX1 22 yX1_dropOldest, Cond.instanceMethod yX1_dropOldest, Cond.selects RX1 yX1_dropOldest yX1_dropOldest, Cond.code yX1_dropOldest cX1_dropOldest 3 none, Cond.methodLink RX1 29 yX4_copy, Cond.static yX4_copy, Cond.initialized RX4]
def wsX6_write_r2 : List Cond := [Cond.code yX4_copy cX4_copy 2 none, Cond.fieldLink RX4 12 "BatteryCaches$State" "battery" "LBatteryCaches$Battery;", Cond.fieldLink RX4 18 "BatteryCaches$State" "disk" "[I", Cond.fieldLink RX4 22 "BatteryCaches$State" "laid" "[I", Cond.fieldLink RX4 25 "BatteryCaches$State" "kind" "[I", Cond.fieldLink RX4 28 "BatteryCaches$State" "place" "[I", Cond.fieldLink RX4 31 "BatteryCaches$State" "value" "[I", Cond.fieldLink RX4 34 "BatteryCaches$State" "turn" "[I", Cond.fieldLink RX4 37 "BatteryCaches$State" "lastTurn" "I", Cond.fieldLink RX4 41 "BatteryCaches$State" "ticks" "I", Cond.fieldLink RX4 44 "BatteryCaches$State" "hits" "I", Cond.fieldLink RX4 47 "BatteryCaches$State" "misses" "I", Cond.fieldLink RX4 50 "BatteryCaches$State" "flushed" "I", Cond.fieldLink RX4 53 "BatteryCaches$State" "wentThrough" "I", Cond.fieldLink RX4 56 "BatteryCaches$State" "lost" "I", Cond.fieldLink RX4 59 "BatteryCaches$State" "cuts" "I", Cond.fieldLink RX4 62 "BatteryCaches$State" "cyclesEnded" "I", Cond.fieldLink RX4 65 "BatteryCaches$State" "laidInAll" "I", Cond.methodLink RX4 68 yX0_copyFrom, Cond.instanceMethod yX0_copyFrom, Cond.selects RX0 yX0_copyFrom yX0_copyFrom, Cond.initialized RX0, Cond.code yX0_copyFrom cX0_copyFrom 2 none, Cond.fieldLink RX0 9 "BatteryCaches$Battery" "charge" "I"]
def wsX6_write_r3 : List Cond := [Cond.fieldLink RX0 15 "BatteryCaches$Battery" "wear" "I", Cond.fieldLink RX0 18 "BatteryCaches$Battery" "cycle" "I", Cond.fieldLink RX0 21 "BatteryCaches$Battery" "lineCost" "I", Cond.fieldLink RX0 24 "BatteryCaches$Battery" "cutCost" "I", Cond.fieldLink RX0 27 "BatteryCaches$Battery" "rise" "I", Cond.fieldLink RX0 30 "BatteryCaches$Battery" "fall" "I", Cond.static yX6_copyRow, Cond.code yX6_copyRow cX6_copyRow 2 none, Cond.methodLink RX6 253 Lib.Math.min.name, Cond.static Lib.Math.min.name, Cond.initialized "java/lang/Math", Cond.code Lib.Math.min.name Lib.Math.min.code 2 (some .int), Cond.methodLink RX6 256 arraycopyName, Cond.native arraycopyName, Cond.static arraycopyName, Cond.initialized "java/lang/System", Cond.methodLink RX6 61 yX4_writePlace, Cond.instanceMethod yX4_writePlace, Cond.selects RX4 yX4_writePlace yX4_writePlace, Cond.code yX4_writePlace cX4_writePlace 4 (some .int), Cond.methodLink RX4 76 yX4_lineFor, Cond.instanceMethod yX4_lineFor, Cond.selects RX4 yX4_lineFor yX4_lineFor, Cond.code yX4_lineFor cX4_lineFor 3 (some .int)]
def wsX6_write_r4 : List Cond := [Cond.methodLink RX4 95 yX4_holderOf, Cond.instanceMethod yX4_holderOf, Cond.selects RX4 yX4_holderOf yX4_holderOf, Cond.code yX4_holderOf cX4_holderOf 3 (some .int), Cond.static yX6_isLine, Cond.code yX6_isLine cX6_isLine 1 (some .boolean), Cond.methodLink RX4 98 yX4_lineToTake, Cond.instanceMethod yX4_lineToTake, Cond.selects RX4 yX4_lineToTake yX4_lineToTake, Cond.code yX4_lineToTake cX4_lineToTake 2 (some .int), Cond.methodLink RX4 108 yX4_lowestEmpty, Cond.instanceMethod yX4_lowestEmpty, Cond.selects RX4 yX4_lowestEmpty yX4_lowestEmpty, Cond.code yX4_lowestEmpty cX4_lowestEmpty 2 (some .int), Cond.methodLink RX4 111 yX4_lowestTurn, Cond.instanceMethod yX4_lowestTurn, Cond.selects RX4 yX4_lowestTurn yX4_lowestTurn, Cond.code yX4_lowestTurn cX4_lowestTurn 5 (some .int), Cond.methodLink RX4 101 yX4_flushLine, Cond.instanceMethod yX4_flushLine, Cond.selects RX4 yX4_flushLine yX4_flushLine, Cond.code yX4_flushLine cX4_flushLine 2 none, Cond.methodLink RX4 91 yX4_layOnDisk, Cond.instanceMethod yX4_layOnDisk]
def wsX6_write_r5 : List Cond := [Cond.selects RX4 yX4_layOnDisk yX4_layOnDisk, Cond.code yX4_layOnDisk cX4_layOnDisk 3 none, Cond.methodLink RX4 105 yX4_layIntoLine, Cond.instanceMethod yX4_layIntoLine, Cond.selects RX4 yX4_layIntoLine yX4_layIntoLine, Cond.code yX4_layIntoLine cX4_layIntoLine 3 none, Cond.methodLink RX4 84 yX4_numberOf, Cond.instanceMethod yX4_numberOf, Cond.selects RX4 yX4_numberOf yX4_numberOf, Cond.code yX4_numberOf cX4_numberOf 2 (some .int), Cond.methodLink RX4 154 yX4_setOf, Cond.instanceMethod yX4_setOf, Cond.selects RX4 yX4_setOf yX4_setOf, Cond.code yX4_setOf cX4_setOf 4 (some .int), Cond.methodLink RX4 157 yJ6_bitCount_0f7a4, Cond.static yJ6_bitCount_0f7a4, Cond.initialized RJ6, Cond.code yJ6_bitCount_0f7a4 cJ6_bitCount_0f7a4 1 (some .int), Cond.constant RJ6 265 (1431655765), Cond.constant RJ6 266 (858993459), Cond.constant RJ6 267 (252645135), Cond.methodLink RX4 87 yX0_allowance, Cond.instanceMethod yX0_allowance, Cond.selects RX0 yX0_allowance yX0_allowance]
def wsX6_write_r6 : List Cond := [Cond.code yX0_allowance cX0_allowance 1 (some .int), Cond.methodLink RX0 33 yX0_savable, Cond.instanceMethod yX0_savable, Cond.selects RX0 yX0_savable yX0_savable, Cond.code yX0_savable cX0_savable 1 (some .int), Cond.methodLink RX0 37 Lib.Math.min.name]
def wsX6_write : List Cond := .code yX6_write cX6_write 3 (some .int) :: ((wsX6_write_r1 ++ (wsX6_write_r2 ++ (wsX6_write_r3 ++ (wsX6_write_r4 ++ (wsX6_write_r5 ++ wsX6_write_r6))))) ++ wsX60 ++ wsX10 ++ wsX40 ++ wsX00)
def wsX6_flush_r1 : List Cond := [Cond.constant RX6 48 (-1000001), Cond.fieldLink RX6 10 "BatteryCaches" "now" "LBatteryCaches$State;", Cond.fieldLink RX6 68 "BatteryCaches$State" "kind" "[I", Cond.constant RX6 72 (-1000002), Cond.fieldLink RX6 19 "BatteryCaches" "history" "LBatteryCaches$History;", Cond.methodLink RX6 65 yX6_isLine, Cond.static yX6_isLine, Cond.initialized RX6, Cond.code yX6_isLine cX6_isLine 1 (some .boolean), Cond.methodLink RX6 49 yX1_keep, Cond.instanceMethod yX1_keep, Cond.selects RX1 yX1_keep yX1_keep, Cond.initialized RX1, Cond.code yX1_keep cX1_keep 2 none, Cond.fieldLink RX1 17 "BatteryCaches$History" "size" "I", Cond.fieldLink RX1 11 "BatteryCaches$History" "states" "[LBatteryCaches$State;", Cond.methodLink RX1 22 yX1_dropOldest, Cond.instanceMethod yX1_dropOldest, Cond.selects RX1 yX1_dropOldest yX1_dropOldest, Cond.code yX1_dropOldest cX1_dropOldest 3 none, Cond.static yX6_isWithin, Cond.code yX6_isWithin cX6_isWithin 3 (some .boolean), Cond.methodLink RX1 29 yX4_copy, Cond.static yX4_copy]
def wsX6_flush_r2 : List Cond := [Cond.initialized RX4, Cond.code yX4_copy cX4_copy 2 none, Cond.fieldLink RX4 12 "BatteryCaches$State" "battery" "LBatteryCaches$Battery;", Cond.fieldLink RX4 18 "BatteryCaches$State" "disk" "[I", Cond.fieldLink RX4 22 "BatteryCaches$State" "laid" "[I", Cond.fieldLink RX4 25 "BatteryCaches$State" "kind" "[I", Cond.fieldLink RX4 28 "BatteryCaches$State" "place" "[I", Cond.fieldLink RX4 31 "BatteryCaches$State" "value" "[I", Cond.fieldLink RX4 34 "BatteryCaches$State" "turn" "[I", Cond.fieldLink RX4 37 "BatteryCaches$State" "lastTurn" "I", Cond.fieldLink RX4 41 "BatteryCaches$State" "ticks" "I", Cond.fieldLink RX4 44 "BatteryCaches$State" "hits" "I", Cond.fieldLink RX4 47 "BatteryCaches$State" "misses" "I", Cond.fieldLink RX4 50 "BatteryCaches$State" "flushed" "I", Cond.fieldLink RX4 53 "BatteryCaches$State" "wentThrough" "I", Cond.fieldLink RX4 56 "BatteryCaches$State" "lost" "I", Cond.fieldLink RX4 59 "BatteryCaches$State" "cuts" "I", Cond.fieldLink RX4 62 "BatteryCaches$State" "cyclesEnded" "I", Cond.fieldLink RX4 65 "BatteryCaches$State" "laidInAll" "I", Cond.methodLink RX4 68 yX0_copyFrom, Cond.instanceMethod yX0_copyFrom, Cond.selects RX0 yX0_copyFrom yX0_copyFrom, Cond.initialized RX0, Cond.code yX0_copyFrom cX0_copyFrom 2 none]
def wsX6_flush_r3 : List Cond := [Cond.fieldLink RX0 9 "BatteryCaches$Battery" "charge" "I", Cond.fieldLink RX0 15 "BatteryCaches$Battery" "wear" "I", Cond.fieldLink RX0 18 "BatteryCaches$Battery" "cycle" "I", Cond.fieldLink RX0 21 "BatteryCaches$Battery" "lineCost" "I", Cond.fieldLink RX0 24 "BatteryCaches$Battery" "cutCost" "I", Cond.fieldLink RX0 27 "BatteryCaches$Battery" "rise" "I", Cond.fieldLink RX0 30 "BatteryCaches$Battery" "fall" "I", Cond.static yX6_copyRow, Cond.code yX6_copyRow cX6_copyRow 2 none, Cond.methodLink RX6 253 Lib.Math.min.name, Cond.static Lib.Math.min.name, Cond.initialized "java/lang/Math", Cond.code Lib.Math.min.name Lib.Math.min.code 2 (some .int), Cond.methodLink RX6 256 arraycopyName, Cond.native arraycopyName, Cond.static arraycopyName, Cond.initialized "java/lang/System", Cond.methodLink RX6 73 yX4_flushLine, Cond.instanceMethod yX4_flushLine, Cond.selects RX4 yX4_flushLine yX4_flushLine, Cond.code yX4_flushLine cX4_flushLine 2 none, Cond.methodLink RX4 91 yX4_layOnDisk, Cond.instanceMethod yX4_layOnDisk, Cond.selects RX4 yX4_layOnDisk yX4_layOnDisk]
def wsX6_flush_r4 : List Cond := [Cond.code yX4_layOnDisk cX4_layOnDisk 3 none, Cond.static yX6_isPlace, Cond.code yX6_isPlace cX6_isPlace 1 (some .boolean), Cond.methodLink RX6 77 yX4_numberOf, Cond.instanceMethod yX4_numberOf, Cond.selects RX4 yX4_numberOf yX4_numberOf, Cond.code yX4_numberOf cX4_numberOf 2 (some .int), Cond.methodLink RX4 154 yX4_setOf, Cond.instanceMethod yX4_setOf, Cond.selects RX4 yX4_setOf yX4_setOf, Cond.code yX4_setOf cX4_setOf 4 (some .int), Cond.methodLink RX4 157 yJ6_bitCount_0f7a4, Cond.static yJ6_bitCount_0f7a4, Cond.initialized RJ6, Cond.code yJ6_bitCount_0f7a4 cJ6_bitCount_0f7a4 1 (some .int), Cond.constant RJ6 265 (1431655765), Cond.constant RJ6 266 (858993459), Cond.constant RJ6 267 (252645135)]
def wsX6_flush : List Cond := .code yX6_flush cX6_flush 2 (some .int) :: ((wsX6_flush_r1 ++ (wsX6_flush_r2 ++ (wsX6_flush_r3 ++ wsX6_flush_r4))) ++ wsX60 ++ wsX40 ++ wsX10 ++ wsX00)
def wsX6_tick_r1 : List Cond := [Cond.constant RX6 48 (-1000001), Cond.fieldLink RX6 19 "BatteryCaches" "history" "LBatteryCaches$History;", Cond.fieldLink RX6 10 "BatteryCaches" "now" "LBatteryCaches$State;", Cond.methodLink RX6 57 yX6_isWithin, Cond.static yX6_isWithin, Cond.initialized RX6, Cond.code yX6_isWithin cX6_isWithin 3 (some .boolean), Cond.methodLink RX6 49 yX1_keep, Cond.instanceMethod yX1_keep, Cond.selects RX1 yX1_keep yX1_keep, Cond.initialized RX1, Cond.code yX1_keep cX1_keep 2 none, Cond.fieldLink RX1 17 "BatteryCaches$History" "size" "I", Cond.fieldLink RX1 11 "BatteryCaches$History" "states" "[LBatteryCaches$State;", Cond.methodLink RX1 22 yX1_dropOldest, Cond.instanceMethod yX1_dropOldest, Cond.selects RX1 yX1_dropOldest yX1_dropOldest, Cond.code yX1_dropOldest cX1_dropOldest 3 none, Cond.methodLink RX1 29 yX4_copy, Cond.static yX4_copy, Cond.initialized RX4, Cond.code yX4_copy cX4_copy 2 none, Cond.fieldLink RX4 12 "BatteryCaches$State" "battery" "LBatteryCaches$Battery;", Cond.fieldLink RX4 18 "BatteryCaches$State" "disk" "[I"]
def wsX6_tick_r2 : List Cond := [Cond.fieldLink RX4 22 "BatteryCaches$State" "laid" "[I", Cond.fieldLink RX4 25 "BatteryCaches$State" "kind" "[I", Cond.fieldLink RX4 28 "BatteryCaches$State" "place" "[I", Cond.fieldLink RX4 31 "BatteryCaches$State" "value" "[I", Cond.fieldLink RX4 34 "BatteryCaches$State" "turn" "[I", Cond.fieldLink RX4 37 "BatteryCaches$State" "lastTurn" "I", Cond.fieldLink RX4 41 "BatteryCaches$State" "ticks" "I", Cond.fieldLink RX4 44 "BatteryCaches$State" "hits" "I", Cond.fieldLink RX4 47 "BatteryCaches$State" "misses" "I", Cond.fieldLink RX4 50 "BatteryCaches$State" "flushed" "I", Cond.fieldLink RX4 53 "BatteryCaches$State" "wentThrough" "I", Cond.fieldLink RX4 56 "BatteryCaches$State" "lost" "I", Cond.fieldLink RX4 59 "BatteryCaches$State" "cuts" "I", Cond.fieldLink RX4 62 "BatteryCaches$State" "cyclesEnded" "I", Cond.fieldLink RX4 65 "BatteryCaches$State" "laidInAll" "I", Cond.methodLink RX4 68 yX0_copyFrom, Cond.instanceMethod yX0_copyFrom, Cond.selects RX0 yX0_copyFrom yX0_copyFrom, Cond.initialized RX0, Cond.code yX0_copyFrom cX0_copyFrom 2 none, Cond.fieldLink RX0 9 "BatteryCaches$Battery" "charge" "I", Cond.fieldLink RX0 15 "BatteryCaches$Battery" "wear" "I", Cond.fieldLink RX0 18 "BatteryCaches$Battery" "cycle" "I", Cond.fieldLink RX0 21 "BatteryCaches$Battery" "lineCost" "I"]
def wsX6_tick_r3 : List Cond := [Cond.fieldLink RX0 24 "BatteryCaches$Battery" "cutCost" "I", Cond.fieldLink RX0 27 "BatteryCaches$Battery" "rise" "I", Cond.fieldLink RX0 30 "BatteryCaches$Battery" "fall" "I", Cond.static yX6_copyRow, Cond.code yX6_copyRow cX6_copyRow 2 none, Cond.methodLink RX6 253 Lib.Math.min.name, Cond.static Lib.Math.min.name, Cond.initialized "java/lang/Math", Cond.code Lib.Math.min.name Lib.Math.min.code 2 (some .int), Cond.methodLink RX6 256 arraycopyName, Cond.native arraycopyName, Cond.static arraycopyName, Cond.initialized "java/lang/System", Cond.methodLink RX6 80 yX4_passTicks, Cond.instanceMethod yX4_passTicks, Cond.selects RX4 yX4_passTicks yX4_passTicks, Cond.code yX4_passTicks cX4_passTicks 4 (some .int), Cond.methodLink RX4 117 yX0_passTick, Cond.instanceMethod yX0_passTick, Cond.selects RX0 yX0_passTick yX0_passTick, Cond.code yX0_passTick cX0_passTick 1 (some .boolean), Cond.methodLink RX0 37 Lib.Math.min.name, Cond.methodLink RX0 54 yX0_fallInCycle, Cond.instanceMethod yX0_fallInCycle]
def wsX6_tick_r4 : List Cond := [Cond.selects RX0 yX0_fallInCycle yX0_fallInCycle, Cond.code yX0_fallInCycle cX0_fallInCycle 1 none, Cond.methodLink RX0 50 yX0_useUp, Cond.instanceMethod yX0_useUp, Cond.selects RX0 yX0_useUp yX0_useUp, Cond.code yX0_useUp cX0_useUp 2 none, Cond.methodLink RX0 43 Lib.Math.max.name, Cond.static Lib.Math.max.name, Cond.code Lib.Math.max.name Lib.Math.max.code 2 (some .int), Cond.methodLink RX0 57 yX0_capacity, Cond.instanceMethod yX0_capacity, Cond.selects RX0 yX0_capacity yX0_capacity, Cond.code yX0_capacity cX0_capacity 1 (some .int), Cond.methodLink RX4 121 yX4_tooMany, Cond.instanceMethod yX4_tooMany, Cond.selects RX4 yX4_tooMany yX4_tooMany, Cond.code yX4_tooMany cX4_tooMany 1 (some .int), Cond.methodLink RX4 139 Lib.Math.max.name, Cond.methodLink RX4 84 yX4_numberOf, Cond.instanceMethod yX4_numberOf, Cond.selects RX4 yX4_numberOf yX4_numberOf, Cond.code yX4_numberOf cX4_numberOf 2 (some .int), Cond.methodLink RX4 154 yX4_setOf, Cond.instanceMethod yX4_setOf]
def wsX6_tick_r5 : List Cond := [Cond.selects RX4 yX4_setOf yX4_setOf, Cond.code yX4_setOf cX4_setOf 4 (some .int), Cond.methodLink RX4 157 yJ6_bitCount_0f7a4, Cond.static yJ6_bitCount_0f7a4, Cond.initialized RJ6, Cond.code yJ6_bitCount_0f7a4 cJ6_bitCount_0f7a4 1 (some .int), Cond.constant RJ6 265 (1431655765), Cond.constant RJ6 266 (858993459), Cond.constant RJ6 267 (252645135), Cond.methodLink RX4 87 yX0_allowance, Cond.instanceMethod yX0_allowance, Cond.selects RX0 yX0_allowance yX0_allowance, Cond.code yX0_allowance cX0_allowance 1 (some .int), Cond.methodLink RX0 33 yX0_savable, Cond.instanceMethod yX0_savable, Cond.selects RX0 yX0_savable yX0_savable, Cond.code yX0_savable cX0_savable 1 (some .int), Cond.methodLink RX4 124 yX4_flushLowest, Cond.instanceMethod yX4_flushLowest, Cond.selects RX4 yX4_flushLowest yX4_flushLowest, Cond.code yX4_flushLowest cX4_flushLowest 3 (some .int), Cond.methodLink RX4 111 yX4_lowestTurn, Cond.instanceMethod yX4_lowestTurn, Cond.selects RX4 yX4_lowestTurn yX4_lowestTurn]
def wsX6_tick_r6 : List Cond := [Cond.code yX4_lowestTurn cX4_lowestTurn 5 (some .int), Cond.methodLink RX4 101 yX4_flushLine, Cond.instanceMethod yX4_flushLine, Cond.selects RX4 yX4_flushLine yX4_flushLine, Cond.code yX4_flushLine cX4_flushLine 2 none, Cond.static yX6_isLine, Cond.code yX6_isLine cX6_isLine 1 (some .boolean), Cond.methodLink RX4 91 yX4_layOnDisk, Cond.instanceMethod yX4_layOnDisk, Cond.selects RX4 yX4_layOnDisk yX4_layOnDisk, Cond.code yX4_layOnDisk cX4_layOnDisk 3 none, Cond.static yX6_isPlace, Cond.code yX6_isPlace cX6_isPlace 1 (some .boolean)]
def wsX6_tick : List Cond := .code yX6_tick cX6_tick 2 (some .int) :: ((wsX6_tick_r1 ++ (wsX6_tick_r2 ++ (wsX6_tick_r3 ++ (wsX6_tick_r4 ++ (wsX6_tick_r5 ++ wsX6_tick_r6))))) ++ wsX60 ++ wsX10 ++ wsX40 ++ wsX00)
def wsX6_load_r1 : List Cond := [Cond.constant RX6 48 (-1000001), Cond.fieldLink RX6 19 "BatteryCaches" "history" "LBatteryCaches$History;", Cond.fieldLink RX6 10 "BatteryCaches" "now" "LBatteryCaches$State;", Cond.methodLink RX6 57 yX6_isWithin, Cond.static yX6_isWithin, Cond.initialized RX6, Cond.code yX6_isWithin cX6_isWithin 3 (some .boolean), Cond.methodLink RX6 49 yX1_keep, Cond.instanceMethod yX1_keep, Cond.selects RX1 yX1_keep yX1_keep, Cond.initialized RX1, Cond.code yX1_keep cX1_keep 2 none, Cond.fieldLink RX1 17 "BatteryCaches$History" "size" "I", Cond.fieldLink RX1 11 "BatteryCaches$History" "states" "[LBatteryCaches$State;", Cond.methodLink RX1 22 yX1_dropOldest, Cond.instanceMethod yX1_dropOldest, Cond.selects RX1 yX1_dropOldest yX1_dropOldest, Cond.code yX1_dropOldest cX1_dropOldest 3 none, Cond.methodLink RX1 29 yX4_copy, Cond.static yX4_copy, Cond.initialized RX4, Cond.code yX4_copy cX4_copy 2 none, Cond.fieldLink RX4 12 "BatteryCaches$State" "battery" "LBatteryCaches$Battery;", Cond.fieldLink RX4 18 "BatteryCaches$State" "disk" "[I"]
def wsX6_load_r2 : List Cond := [Cond.fieldLink RX4 22 "BatteryCaches$State" "laid" "[I", Cond.fieldLink RX4 25 "BatteryCaches$State" "kind" "[I", Cond.fieldLink RX4 28 "BatteryCaches$State" "place" "[I", Cond.fieldLink RX4 31 "BatteryCaches$State" "value" "[I", Cond.fieldLink RX4 34 "BatteryCaches$State" "turn" "[I", Cond.fieldLink RX4 37 "BatteryCaches$State" "lastTurn" "I", Cond.fieldLink RX4 41 "BatteryCaches$State" "ticks" "I", Cond.fieldLink RX4 44 "BatteryCaches$State" "hits" "I", Cond.fieldLink RX4 47 "BatteryCaches$State" "misses" "I", Cond.fieldLink RX4 50 "BatteryCaches$State" "flushed" "I", Cond.fieldLink RX4 53 "BatteryCaches$State" "wentThrough" "I", Cond.fieldLink RX4 56 "BatteryCaches$State" "lost" "I", Cond.fieldLink RX4 59 "BatteryCaches$State" "cuts" "I", Cond.fieldLink RX4 62 "BatteryCaches$State" "cyclesEnded" "I", Cond.fieldLink RX4 65 "BatteryCaches$State" "laidInAll" "I", Cond.methodLink RX4 68 yX0_copyFrom, Cond.instanceMethod yX0_copyFrom, Cond.selects RX0 yX0_copyFrom yX0_copyFrom, Cond.initialized RX0, Cond.code yX0_copyFrom cX0_copyFrom 2 none, Cond.fieldLink RX0 9 "BatteryCaches$Battery" "charge" "I", Cond.fieldLink RX0 15 "BatteryCaches$Battery" "wear" "I", Cond.fieldLink RX0 18 "BatteryCaches$Battery" "cycle" "I", Cond.fieldLink RX0 21 "BatteryCaches$Battery" "lineCost" "I"]
def wsX6_load_r3 : List Cond := [Cond.fieldLink RX0 24 "BatteryCaches$Battery" "cutCost" "I", Cond.fieldLink RX0 27 "BatteryCaches$Battery" "rise" "I", Cond.fieldLink RX0 30 "BatteryCaches$Battery" "fall" "I", Cond.static yX6_copyRow, Cond.code yX6_copyRow cX6_copyRow 2 none, Cond.methodLink RX6 253 Lib.Math.min.name, Cond.static Lib.Math.min.name, Cond.initialized "java/lang/Math", Cond.code Lib.Math.min.name Lib.Math.min.code 2 (some .int), Cond.methodLink RX6 256 arraycopyName, Cond.native arraycopyName, Cond.static arraycopyName, Cond.initialized "java/lang/System", Cond.methodLink RX6 83 yX4_putLoad, Cond.instanceMethod yX4_putLoad, Cond.selects RX4 yX4_putLoad yX4_putLoad, Cond.code yX4_putLoad cX4_putLoad 2 (some .int), Cond.methodLink RX4 127 yX0_useUp, Cond.instanceMethod yX0_useUp, Cond.selects RX0 yX0_useUp yX0_useUp, Cond.code yX0_useUp cX0_useUp 2 none, Cond.methodLink RX0 43 Lib.Math.max.name, Cond.static Lib.Math.max.name, Cond.code Lib.Math.max.name Lib.Math.max.code 2 (some .int)]
def wsX6_load_r4 : List Cond := [Cond.methodLink RX4 121 yX4_tooMany, Cond.instanceMethod yX4_tooMany, Cond.selects RX4 yX4_tooMany yX4_tooMany, Cond.code yX4_tooMany cX4_tooMany 1 (some .int), Cond.methodLink RX4 139 Lib.Math.max.name, Cond.methodLink RX4 84 yX4_numberOf, Cond.instanceMethod yX4_numberOf, Cond.selects RX4 yX4_numberOf yX4_numberOf, Cond.code yX4_numberOf cX4_numberOf 2 (some .int), Cond.methodLink RX4 154 yX4_setOf, Cond.instanceMethod yX4_setOf, Cond.selects RX4 yX4_setOf yX4_setOf, Cond.code yX4_setOf cX4_setOf 4 (some .int), Cond.methodLink RX4 157 yJ6_bitCount_0f7a4, Cond.static yJ6_bitCount_0f7a4, Cond.initialized RJ6, Cond.code yJ6_bitCount_0f7a4 cJ6_bitCount_0f7a4 1 (some .int), Cond.constant RJ6 265 (1431655765), Cond.constant RJ6 266 (858993459), Cond.constant RJ6 267 (252645135), Cond.methodLink RX4 87 yX0_allowance, Cond.instanceMethod yX0_allowance, Cond.selects RX0 yX0_allowance yX0_allowance, Cond.code yX0_allowance cX0_allowance 1 (some .int)]
def wsX6_load_r5 : List Cond := [Cond.methodLink RX0 33 yX0_savable, Cond.instanceMethod yX0_savable, Cond.selects RX0 yX0_savable yX0_savable, Cond.code yX0_savable cX0_savable 1 (some .int), Cond.methodLink RX0 37 Lib.Math.min.name, Cond.methodLink RX4 124 yX4_flushLowest, Cond.instanceMethod yX4_flushLowest, Cond.selects RX4 yX4_flushLowest yX4_flushLowest, Cond.code yX4_flushLowest cX4_flushLowest 3 (some .int), Cond.methodLink RX4 111 yX4_lowestTurn, Cond.instanceMethod yX4_lowestTurn, Cond.selects RX4 yX4_lowestTurn yX4_lowestTurn, Cond.code yX4_lowestTurn cX4_lowestTurn 5 (some .int), Cond.methodLink RX4 101 yX4_flushLine, Cond.instanceMethod yX4_flushLine, Cond.selects RX4 yX4_flushLine yX4_flushLine, Cond.code yX4_flushLine cX4_flushLine 2 none, Cond.static yX6_isLine, Cond.code yX6_isLine cX6_isLine 1 (some .boolean), Cond.methodLink RX4 91 yX4_layOnDisk, Cond.instanceMethod yX4_layOnDisk, Cond.selects RX4 yX4_layOnDisk yX4_layOnDisk, Cond.code yX4_layOnDisk cX4_layOnDisk 3 none, Cond.static yX6_isPlace]
def wsX6_load_r6 : List Cond := [Cond.code yX6_isPlace cX6_isPlace 1 (some .boolean)]
def wsX6_load : List Cond := .code yX6_load cX6_load 2 (some .int) :: ((wsX6_load_r1 ++ (wsX6_load_r2 ++ (wsX6_load_r3 ++ (wsX6_load_r4 ++ (wsX6_load_r5 ++ wsX6_load_r6))))) ++ wsX60 ++ wsX10 ++ wsX40 ++ wsX00)
def wsX6_learn_r1 : List Cond := [Cond.fieldLink RX6 10 "BatteryCaches" "now" "LBatteryCaches$State;", Cond.fieldLink RX6 86 "BatteryCaches$State" "battery" "LBatteryCaches$Battery;", Cond.fieldLink RX6 89 "BatteryCaches$Battery" "cycle" "I", Cond.constant RX6 72 (-1000002), Cond.fieldLink RX6 19 "BatteryCaches" "history" "LBatteryCaches$History;", Cond.methodLink RX6 49 yX1_keep, Cond.instanceMethod yX1_keep, Cond.selects RX1 yX1_keep yX1_keep, Cond.initialized RX1, Cond.code yX1_keep cX1_keep 2 none, Cond.fieldLink RX1 17 "BatteryCaches$History" "size" "I", Cond.fieldLink RX1 11 "BatteryCaches$History" "states" "[LBatteryCaches$State;", Cond.methodLink RX1 22 yX1_dropOldest, Cond.instanceMethod yX1_dropOldest, Cond.selects RX1 yX1_dropOldest yX1_dropOldest, Cond.code yX1_dropOldest cX1_dropOldest 3 none, Cond.static yX6_isWithin, Cond.initialized RX6, Cond.code yX6_isWithin cX6_isWithin 3 (some .boolean), Cond.methodLink RX1 29 yX4_copy, Cond.static yX4_copy, Cond.initialized RX4, Cond.code yX4_copy cX4_copy 2 none, Cond.fieldLink RX4 12 "BatteryCaches$State" "battery" "LBatteryCaches$Battery;"]
def wsX6_learn_r2 : List Cond := [Cond.fieldLink RX4 18 "BatteryCaches$State" "disk" "[I", Cond.fieldLink RX4 22 "BatteryCaches$State" "laid" "[I", Cond.fieldLink RX4 25 "BatteryCaches$State" "kind" "[I", Cond.fieldLink RX4 28 "BatteryCaches$State" "place" "[I", Cond.fieldLink RX4 31 "BatteryCaches$State" "value" "[I", Cond.fieldLink RX4 34 "BatteryCaches$State" "turn" "[I", Cond.fieldLink RX4 37 "BatteryCaches$State" "lastTurn" "I", Cond.fieldLink RX4 41 "BatteryCaches$State" "ticks" "I", Cond.fieldLink RX4 44 "BatteryCaches$State" "hits" "I", Cond.fieldLink RX4 47 "BatteryCaches$State" "misses" "I", Cond.fieldLink RX4 50 "BatteryCaches$State" "flushed" "I", Cond.fieldLink RX4 53 "BatteryCaches$State" "wentThrough" "I", Cond.fieldLink RX4 56 "BatteryCaches$State" "lost" "I", Cond.fieldLink RX4 59 "BatteryCaches$State" "cuts" "I", Cond.fieldLink RX4 62 "BatteryCaches$State" "cyclesEnded" "I", Cond.fieldLink RX4 65 "BatteryCaches$State" "laidInAll" "I", Cond.methodLink RX4 68 yX0_copyFrom, Cond.instanceMethod yX0_copyFrom, Cond.selects RX0 yX0_copyFrom yX0_copyFrom, Cond.initialized RX0, Cond.code yX0_copyFrom cX0_copyFrom 2 none, Cond.fieldLink RX0 9 "BatteryCaches$Battery" "charge" "I", Cond.fieldLink RX0 15 "BatteryCaches$Battery" "wear" "I", Cond.fieldLink RX0 18 "BatteryCaches$Battery" "cycle" "I"]
def wsX6_learn_r3 : List Cond := [Cond.fieldLink RX0 21 "BatteryCaches$Battery" "lineCost" "I", Cond.fieldLink RX0 24 "BatteryCaches$Battery" "cutCost" "I", Cond.fieldLink RX0 27 "BatteryCaches$Battery" "rise" "I", Cond.fieldLink RX0 30 "BatteryCaches$Battery" "fall" "I", Cond.static yX6_copyRow, Cond.code yX6_copyRow cX6_copyRow 2 none, Cond.methodLink RX6 253 Lib.Math.min.name, Cond.static Lib.Math.min.name, Cond.initialized "java/lang/Math", Cond.code Lib.Math.min.name Lib.Math.min.code 2 (some .int), Cond.methodLink RX6 256 arraycopyName, Cond.native arraycopyName, Cond.static arraycopyName, Cond.initialized "java/lang/System", Cond.methodLink RX6 93 yX4_beginCycle, Cond.instanceMethod yX4_beginCycle, Cond.selects RX4 yX4_beginCycle yX4_beginCycle, Cond.code yX4_beginCycle cX4_beginCycle 1 (some .int), Cond.fieldLink RX4 130 "BatteryCaches$Battery" "cycle" "I", Cond.methodLink RX4 121 yX4_tooMany, Cond.instanceMethod yX4_tooMany, Cond.selects RX4 yX4_tooMany yX4_tooMany, Cond.code yX4_tooMany cX4_tooMany 1 (some .int), Cond.methodLink RX4 139 Lib.Math.max.name]
def wsX6_learn_r4 : List Cond := [Cond.static Lib.Math.max.name, Cond.code Lib.Math.max.name Lib.Math.max.code 2 (some .int), Cond.methodLink RX4 84 yX4_numberOf, Cond.instanceMethod yX4_numberOf, Cond.selects RX4 yX4_numberOf yX4_numberOf, Cond.code yX4_numberOf cX4_numberOf 2 (some .int), Cond.methodLink RX4 154 yX4_setOf, Cond.instanceMethod yX4_setOf, Cond.selects RX4 yX4_setOf yX4_setOf, Cond.code yX4_setOf cX4_setOf 4 (some .int), Cond.methodLink RX4 157 yJ6_bitCount_0f7a4, Cond.static yJ6_bitCount_0f7a4, Cond.initialized RJ6, Cond.code yJ6_bitCount_0f7a4 cJ6_bitCount_0f7a4 1 (some .int), Cond.constant RJ6 265 (1431655765), Cond.constant RJ6 266 (858993459), Cond.constant RJ6 267 (252645135), Cond.methodLink RX4 87 yX0_allowance, Cond.instanceMethod yX0_allowance, Cond.selects RX0 yX0_allowance yX0_allowance, Cond.code yX0_allowance cX0_allowance 1 (some .int), Cond.methodLink RX0 33 yX0_savable, Cond.instanceMethod yX0_savable, Cond.selects RX0 yX0_savable yX0_savable]
def wsX6_learn_r5 : List Cond := [Cond.code yX0_savable cX0_savable 1 (some .int), Cond.methodLink RX0 37 Lib.Math.min.name, Cond.methodLink RX4 124 yX4_flushLowest, Cond.instanceMethod yX4_flushLowest, Cond.selects RX4 yX4_flushLowest yX4_flushLowest, Cond.code yX4_flushLowest cX4_flushLowest 3 (some .int), Cond.methodLink RX4 111 yX4_lowestTurn, Cond.instanceMethod yX4_lowestTurn, Cond.selects RX4 yX4_lowestTurn yX4_lowestTurn, Cond.code yX4_lowestTurn cX4_lowestTurn 5 (some .int), Cond.methodLink RX4 101 yX4_flushLine, Cond.instanceMethod yX4_flushLine, Cond.selects RX4 yX4_flushLine yX4_flushLine, Cond.code yX4_flushLine cX4_flushLine 2 none, Cond.static yX6_isLine, Cond.code yX6_isLine cX6_isLine 1 (some .boolean), Cond.methodLink RX4 91 yX4_layOnDisk, Cond.instanceMethod yX4_layOnDisk, Cond.selects RX4 yX4_layOnDisk yX4_layOnDisk, Cond.code yX4_layOnDisk cX4_layOnDisk 3 none, Cond.static yX6_isPlace, Cond.code yX6_isPlace cX6_isPlace 1 (some .boolean)]
def wsX6_learn : List Cond := .code yX6_learn cX6_learn 1 (some .int) :: ((wsX6_learn_r1 ++ (wsX6_learn_r2 ++ (wsX6_learn_r3 ++ (wsX6_learn_r4 ++ wsX6_learn_r5)))) ++ wsX60 ++ wsX40 ++ wsX00 ++ wsX10)
def wsX6_cut_r1 : List Cond := [Cond.fieldLink RX6 19 "BatteryCaches" "history" "LBatteryCaches$History;", Cond.fieldLink RX6 10 "BatteryCaches" "now" "LBatteryCaches$State;", Cond.methodLink RX6 49 yX1_keep, Cond.instanceMethod yX1_keep, Cond.selects RX1 yX1_keep yX1_keep, Cond.initialized RX1, Cond.code yX1_keep cX1_keep 2 none, Cond.fieldLink RX1 17 "BatteryCaches$History" "size" "I", Cond.fieldLink RX1 11 "BatteryCaches$History" "states" "[LBatteryCaches$State;", Cond.methodLink RX1 22 yX1_dropOldest, Cond.instanceMethod yX1_dropOldest, Cond.selects RX1 yX1_dropOldest yX1_dropOldest, Cond.code yX1_dropOldest cX1_dropOldest 3 none, Cond.static yX6_isWithin, Cond.initialized RX6, Cond.code yX6_isWithin cX6_isWithin 3 (some .boolean), Cond.methodLink RX1 29 yX4_copy, Cond.static yX4_copy, Cond.initialized RX4, Cond.code yX4_copy cX4_copy 2 none, Cond.fieldLink RX4 12 "BatteryCaches$State" "battery" "LBatteryCaches$Battery;", Cond.fieldLink RX4 18 "BatteryCaches$State" "disk" "[I", Cond.fieldLink RX4 22 "BatteryCaches$State" "laid" "[I", Cond.fieldLink RX4 25 "BatteryCaches$State" "kind" "[I"]
def wsX6_cut_r2 : List Cond := [Cond.fieldLink RX4 28 "BatteryCaches$State" "place" "[I", Cond.fieldLink RX4 31 "BatteryCaches$State" "value" "[I", Cond.fieldLink RX4 34 "BatteryCaches$State" "turn" "[I", Cond.fieldLink RX4 37 "BatteryCaches$State" "lastTurn" "I", Cond.fieldLink RX4 41 "BatteryCaches$State" "ticks" "I", Cond.fieldLink RX4 44 "BatteryCaches$State" "hits" "I", Cond.fieldLink RX4 47 "BatteryCaches$State" "misses" "I", Cond.fieldLink RX4 50 "BatteryCaches$State" "flushed" "I", Cond.fieldLink RX4 53 "BatteryCaches$State" "wentThrough" "I", Cond.fieldLink RX4 56 "BatteryCaches$State" "lost" "I", Cond.fieldLink RX4 59 "BatteryCaches$State" "cuts" "I", Cond.fieldLink RX4 62 "BatteryCaches$State" "cyclesEnded" "I", Cond.fieldLink RX4 65 "BatteryCaches$State" "laidInAll" "I", Cond.methodLink RX4 68 yX0_copyFrom, Cond.instanceMethod yX0_copyFrom, Cond.selects RX0 yX0_copyFrom yX0_copyFrom, Cond.initialized RX0, Cond.code yX0_copyFrom cX0_copyFrom 2 none, Cond.fieldLink RX0 9 "BatteryCaches$Battery" "charge" "I", Cond.fieldLink RX0 15 "BatteryCaches$Battery" "wear" "I", Cond.fieldLink RX0 18 "BatteryCaches$Battery" "cycle" "I", Cond.fieldLink RX0 21 "BatteryCaches$Battery" "lineCost" "I", Cond.fieldLink RX0 24 "BatteryCaches$Battery" "cutCost" "I", Cond.fieldLink RX0 27 "BatteryCaches$Battery" "rise" "I"]
def wsX6_cut_r3 : List Cond := [Cond.fieldLink RX0 30 "BatteryCaches$Battery" "fall" "I", Cond.static yX6_copyRow, Cond.code yX6_copyRow cX6_copyRow 2 none, Cond.methodLink RX6 253 Lib.Math.min.name, Cond.static Lib.Math.min.name, Cond.initialized "java/lang/Math", Cond.code Lib.Math.min.name Lib.Math.min.code 2 (some .int), Cond.methodLink RX6 256 arraycopyName, Cond.native arraycopyName, Cond.static arraycopyName, Cond.initialized "java/lang/System", Cond.methodLink RX6 97 yX4_cutPower, Cond.instanceMethod yX4_cutPower, Cond.selects RX4 yX4_cutPower yX4_cutPower, Cond.code yX4_cutPower cX4_cutPower 4 (some .int), Cond.methodLink RX4 133 yX4_savedByCut, Cond.instanceMethod yX4_savedByCut, Cond.selects RX4 yX4_savedByCut yX4_savedByCut, Cond.code yX4_savedByCut cX4_savedByCut 1 (some .int), Cond.methodLink RX4 148 Lib.Math.min.name, Cond.methodLink RX4 84 yX4_numberOf, Cond.instanceMethod yX4_numberOf, Cond.selects RX4 yX4_numberOf yX4_numberOf, Cond.code yX4_numberOf cX4_numberOf 2 (some .int)]
def wsX6_cut_r4 : List Cond := [Cond.methodLink RX4 154 yX4_setOf, Cond.instanceMethod yX4_setOf, Cond.selects RX4 yX4_setOf yX4_setOf, Cond.code yX4_setOf cX4_setOf 4 (some .int), Cond.methodLink RX4 157 yJ6_bitCount_0f7a4, Cond.static yJ6_bitCount_0f7a4, Cond.initialized RJ6, Cond.code yJ6_bitCount_0f7a4 cJ6_bitCount_0f7a4 1 (some .int), Cond.constant RJ6 265 (1431655765), Cond.constant RJ6 266 (858993459), Cond.constant RJ6 267 (252645135), Cond.methodLink RX4 145 yX0_savable, Cond.instanceMethod yX0_savable, Cond.selects RX0 yX0_savable yX0_savable, Cond.code yX0_savable cX0_savable 1 (some .int), Cond.methodLink RX0 37 Lib.Math.min.name, Cond.methodLink RX4 124 yX4_flushLowest, Cond.instanceMethod yX4_flushLowest, Cond.selects RX4 yX4_flushLowest yX4_flushLowest, Cond.code yX4_flushLowest cX4_flushLowest 3 (some .int), Cond.methodLink RX4 111 yX4_lowestTurn, Cond.instanceMethod yX4_lowestTurn, Cond.selects RX4 yX4_lowestTurn yX4_lowestTurn, Cond.code yX4_lowestTurn cX4_lowestTurn 5 (some .int)]
def wsX6_cut_r5 : List Cond := [Cond.methodLink RX4 101 yX4_flushLine, Cond.instanceMethod yX4_flushLine, Cond.selects RX4 yX4_flushLine yX4_flushLine, Cond.code yX4_flushLine cX4_flushLine 2 none, Cond.static yX6_isLine, Cond.code yX6_isLine cX6_isLine 1 (some .boolean), Cond.methodLink RX4 91 yX4_layOnDisk, Cond.instanceMethod yX4_layOnDisk, Cond.selects RX4 yX4_layOnDisk yX4_layOnDisk, Cond.code yX4_layOnDisk cX4_layOnDisk 3 none, Cond.static yX6_isPlace, Cond.code yX6_isPlace cX6_isPlace 1 (some .boolean), Cond.methodLink RX4 136 yX0_saveAtCut, Cond.instanceMethod yX0_saveAtCut, Cond.selects RX0 yX0_saveAtCut yX0_saveAtCut, Cond.code yX0_saveAtCut cX0_saveAtCut 2 none, Cond.methodLink RX0 46 yX0_costToSave, Cond.instanceMethod yX0_costToSave, Cond.selects RX0 yX0_costToSave yX0_costToSave, Cond.code yX0_costToSave cX0_costToSave 2 (some .int), Cond.methodLink RX0 50 yX0_useUp, Cond.instanceMethod yX0_useUp, Cond.selects RX0 yX0_useUp yX0_useUp, Cond.code yX0_useUp cX0_useUp 2 none]
def wsX6_cut_r6 : List Cond := [Cond.methodLink RX0 43 Lib.Math.max.name, Cond.static Lib.Math.max.name, Cond.code Lib.Math.max.name Lib.Math.max.code 2 (some .int)]
def wsX6_cut : List Cond := .code yX6_cut cX6_cut 1 (some .int) :: ((wsX6_cut_r1 ++ (wsX6_cut_r2 ++ (wsX6_cut_r3 ++ (wsX6_cut_r4 ++ (wsX6_cut_r5 ++ wsX6_cut_r6))))) ++ wsX60 ++ wsX10 ++ wsX40 ++ wsX00)
def wsX6_isSetting : List Cond := .code yX6_isSetting cX6_isSetting 1 (some .boolean) :: ([])
def wsX6_set_r1 : List Cond := [Cond.fieldLink RX6 103 "BatteryCaches" "LEAST_SETTING" "[I", Cond.fieldLink RX6 106 "BatteryCaches" "MOST_SETTING" "[I", Cond.constant RX6 48 (-1000001), Cond.fieldLink RX6 19 "BatteryCaches" "history" "LBatteryCaches$History;", Cond.fieldLink RX6 10 "BatteryCaches" "now" "LBatteryCaches$State;", Cond.fieldLink RX6 86 "BatteryCaches$State" "battery" "LBatteryCaches$Battery;", Cond.methodLink RX6 100 yX6_isSetting, Cond.static yX6_isSetting, Cond.initialized RX6, Cond.code yX6_isSetting cX6_isSetting 1 (some .boolean), Cond.methodLink RX6 57 yX6_isWithin, Cond.static yX6_isWithin, Cond.code yX6_isWithin cX6_isWithin 3 (some .boolean), Cond.methodLink RX6 49 yX1_keep, Cond.instanceMethod yX1_keep, Cond.selects RX1 yX1_keep yX1_keep, Cond.initialized RX1, Cond.code yX1_keep cX1_keep 2 none, Cond.fieldLink RX1 17 "BatteryCaches$History" "size" "I", Cond.fieldLink RX1 11 "BatteryCaches$History" "states" "[LBatteryCaches$State;", Cond.methodLink RX1 22 yX1_dropOldest, Cond.instanceMethod yX1_dropOldest, Cond.selects RX1 yX1_dropOldest yX1_dropOldest, Cond.code yX1_dropOldest cX1_dropOldest 3 none]
def wsX6_set_r2 : List Cond := [Cond.methodLink RX1 29 yX4_copy, Cond.static yX4_copy, Cond.initialized RX4, Cond.code yX4_copy cX4_copy 2 none, Cond.fieldLink RX4 12 "BatteryCaches$State" "battery" "LBatteryCaches$Battery;", Cond.fieldLink RX4 18 "BatteryCaches$State" "disk" "[I", Cond.fieldLink RX4 22 "BatteryCaches$State" "laid" "[I", Cond.fieldLink RX4 25 "BatteryCaches$State" "kind" "[I", Cond.fieldLink RX4 28 "BatteryCaches$State" "place" "[I", Cond.fieldLink RX4 31 "BatteryCaches$State" "value" "[I", Cond.fieldLink RX4 34 "BatteryCaches$State" "turn" "[I", Cond.fieldLink RX4 37 "BatteryCaches$State" "lastTurn" "I", Cond.fieldLink RX4 41 "BatteryCaches$State" "ticks" "I", Cond.fieldLink RX4 44 "BatteryCaches$State" "hits" "I", Cond.fieldLink RX4 47 "BatteryCaches$State" "misses" "I", Cond.fieldLink RX4 50 "BatteryCaches$State" "flushed" "I", Cond.fieldLink RX4 53 "BatteryCaches$State" "wentThrough" "I", Cond.fieldLink RX4 56 "BatteryCaches$State" "lost" "I", Cond.fieldLink RX4 59 "BatteryCaches$State" "cuts" "I", Cond.fieldLink RX4 62 "BatteryCaches$State" "cyclesEnded" "I", Cond.fieldLink RX4 65 "BatteryCaches$State" "laidInAll" "I", Cond.methodLink RX4 68 yX0_copyFrom, Cond.instanceMethod yX0_copyFrom, Cond.selects RX0 yX0_copyFrom yX0_copyFrom]
def wsX6_set_r3 : List Cond := [Cond.initialized RX0, Cond.code yX0_copyFrom cX0_copyFrom 2 none, Cond.fieldLink RX0 9 "BatteryCaches$Battery" "charge" "I", Cond.fieldLink RX0 15 "BatteryCaches$Battery" "wear" "I", Cond.fieldLink RX0 18 "BatteryCaches$Battery" "cycle" "I", Cond.fieldLink RX0 21 "BatteryCaches$Battery" "lineCost" "I", Cond.fieldLink RX0 24 "BatteryCaches$Battery" "cutCost" "I", Cond.fieldLink RX0 27 "BatteryCaches$Battery" "rise" "I", Cond.fieldLink RX0 30 "BatteryCaches$Battery" "fall" "I", Cond.static yX6_copyRow, Cond.code yX6_copyRow cX6_copyRow 2 none, Cond.methodLink RX6 253 Lib.Math.min.name, Cond.static Lib.Math.min.name, Cond.initialized "java/lang/Math", Cond.code Lib.Math.min.name Lib.Math.min.code 2 (some .int), Cond.methodLink RX6 256 arraycopyName, Cond.native arraycopyName, Cond.static arraycopyName, Cond.initialized "java/lang/System", Cond.methodLink RX6 109 yX0_setting, Cond.instanceMethod yX0_setting, Cond.selects RX0 yX0_setting yX0_setting, Cond.code yX0_setting cX0_setting 2 (some .int), Cond.methodLink RX6 112 yX0_changeSetting]
def wsX6_set_r4 : List Cond := [Cond.instanceMethod yX0_changeSetting, Cond.selects RX0 yX0_changeSetting yX0_changeSetting, Cond.code yX0_changeSetting cX0_changeSetting 3 none]
def wsX6_set : List Cond := .code yX6_set cX6_set 4 (some .int) :: ((wsX6_set_r1 ++ (wsX6_set_r2 ++ (wsX6_set_r3 ++ wsX6_set_r4))) ++ wsX60 ++ wsX40 ++ wsX10 ++ wsX00)
def wsX6_lineOf : List Cond := .code yX6_lineOf cX6_lineOf 3 (some .int) :: ([.constant RX6 48 (-1000001), .fieldLink RX6 10 "BatteryCaches" "now" "LBatteryCaches$State;", .fieldLink RX6 68 "BatteryCaches$State" "kind" "[I", .constant RX6 116 (-1000004), .fieldLink RX6 117 "BatteryCaches$State" "place" "[I", .fieldLink RX6 120 "BatteryCaches$State" "value" "[I", .fieldLink RX6 123 "BatteryCaches$State" "turn" "[I", .methodLink RX6 65 yX6_isLine, .static yX6_isLine, .initialized RX6, .code yX6_isLine cX6_isLine 1 (some .boolean), .methodLink RX6 57 yX6_isWithin, .static yX6_isWithin, .code yX6_isWithin cX6_isWithin 3 (some .boolean), .methodLink RX6 126 yX4_linesAhead, .instanceMethod yX4_linesAhead, .selects RX4 yX4_linesAhead yX4_linesAhead, .initialized RX4, .code yX4_linesAhead cX4_linesAhead 5 (some .int), .fieldLink RX4 25 "BatteryCaches$State" "kind" "[I", .fieldLink RX4 34 "BatteryCaches$State" "turn" "[I"] ++ wsX60 ++ wsX40)
def wsX6_placeOf : List Cond := .code yX6_placeOf cX6_placeOf 4 (some .int) :: ([.constant RX6 48 (-1000001), .fieldLink RX6 10 "BatteryCaches" "now" "LBatteryCaches$State;", .fieldLink RX6 132 "BatteryCaches$State" "disk" "[I", .fieldLink RX6 120 "BatteryCaches$State" "value" "[I", .constant RX6 116 (-1000004), .fieldLink RX6 135 "BatteryCaches$State" "laid" "[I", .methodLink RX6 44 yX6_isPlace, .static yX6_isPlace, .initialized RX6, .code yX6_isPlace cX6_isPlace 1 (some .boolean), .methodLink RX6 57 yX6_isWithin, .static yX6_isWithin, .code yX6_isWithin cX6_isWithin 3 (some .boolean), .methodLink RX6 129 yX4_holderOf, .instanceMethod yX4_holderOf, .selects RX4 yX4_holderOf yX4_holderOf, .initialized RX4, .code yX4_holderOf cX4_holderOf 3 (some .int), .fieldLink RX4 25 "BatteryCaches$State" "kind" "[I", .fieldLink RX4 28 "BatteryCaches$State" "place" "[I", .methodLink RX6 65 yX6_isLine, .static yX6_isLine, .code yX6_isLine cX6_isLine 1 (some .boolean)] ++ wsX60 ++ wsX40)
def wsX6_battery_r1 : List Cond := [Cond.fieldLink RX6 10 "BatteryCaches" "now" "LBatteryCaches$State;", Cond.fieldLink RX6 86 "BatteryCaches$State" "battery" "LBatteryCaches$Battery;", Cond.fieldLink RX6 138 "BatteryCaches$Battery" "charge" "I", Cond.fieldLink RX6 144 "BatteryCaches$Battery" "wear" "I", Cond.fieldLink RX6 89 "BatteryCaches$Battery" "cycle" "I", Cond.constant RX6 48 (-1000001), Cond.methodLink RX6 141 yX0_capacity, Cond.instanceMethod yX0_capacity, Cond.selects RX0 yX0_capacity yX0_capacity, Cond.initialized RX0, Cond.code yX0_capacity cX0_capacity 1 (some .int), Cond.fieldLink RX0 15 "BatteryCaches$Battery" "wear" "I", Cond.methodLink RX6 147 yX0_allowance, Cond.instanceMethod yX0_allowance, Cond.selects RX0 yX0_allowance yX0_allowance, Cond.code yX0_allowance cX0_allowance 1 (some .int), Cond.fieldLink RX0 18 "BatteryCaches$Battery" "cycle" "I", Cond.methodLink RX0 33 yX0_savable, Cond.instanceMethod yX0_savable, Cond.selects RX0 yX0_savable yX0_savable, Cond.code yX0_savable cX0_savable 1 (some .int), Cond.fieldLink RX0 9 "BatteryCaches$Battery" "charge" "I", Cond.fieldLink RX0 24 "BatteryCaches$Battery" "cutCost" "I", Cond.fieldLink RX0 21 "BatteryCaches$Battery" "lineCost" "I"]
def wsX6_battery_r2 : List Cond := [Cond.methodLink RX0 37 Lib.Math.min.name, Cond.static Lib.Math.min.name, Cond.initialized "java/lang/Math", Cond.code Lib.Math.min.name Lib.Math.min.code 2 (some .int), Cond.methodLink RX6 150 yX4_savedByCut, Cond.instanceMethod yX4_savedByCut, Cond.selects RX4 yX4_savedByCut yX4_savedByCut, Cond.initialized RX4, Cond.code yX4_savedByCut cX4_savedByCut 1 (some .int), Cond.fieldLink RX4 12 "BatteryCaches$State" "battery" "LBatteryCaches$Battery;", Cond.methodLink RX4 148 Lib.Math.min.name, Cond.methodLink RX4 84 yX4_numberOf, Cond.instanceMethod yX4_numberOf, Cond.selects RX4 yX4_numberOf yX4_numberOf, Cond.code yX4_numberOf cX4_numberOf 2 (some .int), Cond.methodLink RX4 154 yX4_setOf, Cond.instanceMethod yX4_setOf, Cond.selects RX4 yX4_setOf yX4_setOf, Cond.code yX4_setOf cX4_setOf 4 (some .int), Cond.fieldLink RX4 25 "BatteryCaches$State" "kind" "[I", Cond.methodLink RX4 157 yJ6_bitCount_0f7a4, Cond.static yJ6_bitCount_0f7a4, Cond.initialized RJ6, Cond.code yJ6_bitCount_0f7a4 cJ6_bitCount_0f7a4 1 (some .int)]
def wsX6_battery_r3 : List Cond := [Cond.constant RJ6 265 (1431655765), Cond.constant RJ6 266 (858993459), Cond.constant RJ6 267 (252645135), Cond.methodLink RX4 145 yX0_savable]
def wsX6_battery : List Cond := .code yX6_battery cX6_battery 2 (some .int) :: ((wsX6_battery_r1 ++ (wsX6_battery_r2 ++ wsX6_battery_r3)) ++ wsX60 ++ wsX40 ++ wsX00)
def wsX6_lines_r1 : List Cond := [Cond.fieldLink RX6 10 "BatteryCaches" "now" "LBatteryCaches$State;", Cond.constant RX6 48 (-1000001), Cond.methodLink RX6 153 yX4_setOf, Cond.instanceMethod yX4_setOf, Cond.selects RX4 yX4_setOf yX4_setOf, Cond.initialized RX4, Cond.code yX4_setOf cX4_setOf 4 (some .int), Cond.fieldLink RX4 25 "BatteryCaches$State" "kind" "[I", Cond.methodLink RX6 156 yX4_lostByCut, Cond.instanceMethod yX4_lostByCut, Cond.selects RX4 yX4_lostByCut yX4_lostByCut, Cond.code yX4_lostByCut cX4_lostByCut 4 (some .int), Cond.methodLink RX4 133 yX4_savedByCut, Cond.instanceMethod yX4_savedByCut, Cond.selects RX4 yX4_savedByCut yX4_savedByCut, Cond.code yX4_savedByCut cX4_savedByCut 1 (some .int), Cond.fieldLink RX4 12 "BatteryCaches$State" "battery" "LBatteryCaches$Battery;", Cond.methodLink RX4 148 Lib.Math.min.name, Cond.static Lib.Math.min.name, Cond.initialized "java/lang/Math", Cond.code Lib.Math.min.name Lib.Math.min.code 2 (some .int), Cond.methodLink RX4 84 yX4_numberOf, Cond.instanceMethod yX4_numberOf, Cond.selects RX4 yX4_numberOf yX4_numberOf]
def wsX6_lines_r2 : List Cond := [Cond.code yX4_numberOf cX4_numberOf 2 (some .int), Cond.methodLink RX4 154 yX4_setOf, Cond.methodLink RX4 157 yJ6_bitCount_0f7a4, Cond.static yJ6_bitCount_0f7a4, Cond.initialized RJ6, Cond.code yJ6_bitCount_0f7a4 cJ6_bitCount_0f7a4 1 (some .int), Cond.constant RJ6 265 (1431655765), Cond.constant RJ6 266 (858993459), Cond.constant RJ6 267 (252645135), Cond.methodLink RX4 145 yX0_savable, Cond.instanceMethod yX0_savable, Cond.selects RX0 yX0_savable yX0_savable, Cond.initialized RX0, Cond.code yX0_savable cX0_savable 1 (some .int), Cond.fieldLink RX0 9 "BatteryCaches$Battery" "charge" "I", Cond.fieldLink RX0 24 "BatteryCaches$Battery" "cutCost" "I", Cond.fieldLink RX0 21 "BatteryCaches$Battery" "lineCost" "I", Cond.methodLink RX0 37 Lib.Math.min.name, Cond.methodLink RX4 151 yX4_linesAhead, Cond.instanceMethod yX4_linesAhead, Cond.selects RX4 yX4_linesAhead yX4_linesAhead, Cond.code yX4_linesAhead cX4_linesAhead 5 (some .int), Cond.fieldLink RX4 34 "BatteryCaches$State" "turn" "[I", Cond.static yX6_isLine]
def wsX6_lines_r3 : List Cond := [Cond.initialized RX6, Cond.code yX6_isLine cX6_isLine 1 (some .boolean)]
def wsX6_lines : List Cond := .code yX6_lines cX6_lines 2 (some .int) :: ((wsX6_lines_r1 ++ (wsX6_lines_r2 ++ wsX6_lines_r3)) ++ wsX60 ++ wsX40 ++ wsX00)
def wsX6_wouldFlush_r1 : List Cond := [Cond.constant RX6 48 (-1000001), Cond.fieldLink RX6 40 "BatteryCaches" "trialBattery" "LBatteryCaches$Battery;", Cond.fieldLink RX6 10 "BatteryCaches" "now" "LBatteryCaches$State;", Cond.fieldLink RX6 86 "BatteryCaches$State" "battery" "LBatteryCaches$Battery;", Cond.methodLink RX6 166 Lib.Math.max.name, Cond.static Lib.Math.max.name, Cond.initialized "java/lang/Math", Cond.code Lib.Math.max.name Lib.Math.max.code 2 (some .int), Cond.methodLink RX6 57 yX6_isWithin, Cond.static yX6_isWithin, Cond.initialized RX6, Cond.code yX6_isWithin cX6_isWithin 3 (some .boolean), Cond.methodLink RX6 159 yX0_copyFrom, Cond.instanceMethod yX0_copyFrom, Cond.selects RX0 yX0_copyFrom yX0_copyFrom, Cond.initialized RX0, Cond.code yX0_copyFrom cX0_copyFrom 2 none, Cond.fieldLink RX0 9 "BatteryCaches$Battery" "charge" "I", Cond.fieldLink RX0 15 "BatteryCaches$Battery" "wear" "I", Cond.fieldLink RX0 18 "BatteryCaches$Battery" "cycle" "I", Cond.fieldLink RX0 21 "BatteryCaches$Battery" "lineCost" "I", Cond.fieldLink RX0 24 "BatteryCaches$Battery" "cutCost" "I", Cond.fieldLink RX0 27 "BatteryCaches$Battery" "rise" "I", Cond.fieldLink RX0 30 "BatteryCaches$Battery" "fall" "I"]
def wsX6_wouldFlush_r2 : List Cond := [Cond.methodLink RX6 163 yX0_useUp, Cond.instanceMethod yX0_useUp, Cond.selects RX0 yX0_useUp yX0_useUp, Cond.code yX0_useUp cX0_useUp 2 none, Cond.methodLink RX0 43 Lib.Math.max.name, Cond.methodLink RX6 77 yX4_numberOf, Cond.instanceMethod yX4_numberOf, Cond.selects RX4 yX4_numberOf yX4_numberOf, Cond.initialized RX4, Cond.code yX4_numberOf cX4_numberOf 2 (some .int), Cond.methodLink RX4 154 yX4_setOf, Cond.instanceMethod yX4_setOf, Cond.selects RX4 yX4_setOf yX4_setOf, Cond.code yX4_setOf cX4_setOf 4 (some .int), Cond.fieldLink RX4 25 "BatteryCaches$State" "kind" "[I", Cond.methodLink RX4 157 yJ6_bitCount_0f7a4, Cond.static yJ6_bitCount_0f7a4, Cond.initialized RJ6, Cond.code yJ6_bitCount_0f7a4 cJ6_bitCount_0f7a4 1 (some .int), Cond.constant RJ6 265 (1431655765), Cond.constant RJ6 266 (858993459), Cond.constant RJ6 267 (252645135), Cond.methodLink RX6 147 yX0_allowance, Cond.instanceMethod yX0_allowance]
def wsX6_wouldFlush_r3 : List Cond := [Cond.selects RX0 yX0_allowance yX0_allowance, Cond.code yX0_allowance cX0_allowance 1 (some .int), Cond.methodLink RX0 33 yX0_savable, Cond.instanceMethod yX0_savable, Cond.selects RX0 yX0_savable yX0_savable, Cond.code yX0_savable cX0_savable 1 (some .int), Cond.methodLink RX0 37 Lib.Math.min.name, Cond.static Lib.Math.min.name, Cond.code Lib.Math.min.name Lib.Math.min.code 2 (some .int)]
def wsX6_wouldFlush : List Cond := .code yX6_wouldFlush cX6_wouldFlush 2 (some .int) :: ((wsX6_wouldFlush_r1 ++ (wsX6_wouldFlush_r2 ++ wsX6_wouldFlush_r3)) ++ wsX60 ++ wsX40 ++ wsX00)
def wsX6_critical_r1 : List Cond := [Cond.fieldLink RX6 10 "BatteryCaches" "now" "LBatteryCaches$State;", Cond.fieldLink RX6 86 "BatteryCaches$State" "battery" "LBatteryCaches$Battery;", Cond.fieldLink RX6 138 "BatteryCaches$Battery" "charge" "I", Cond.methodLink RX6 166 Lib.Math.max.name, Cond.static Lib.Math.max.name, Cond.initialized "java/lang/Math", Cond.code Lib.Math.max.name Lib.Math.max.code 2 (some .int), Cond.constant RX6 116 (-1000004), Cond.methodLink RX6 77 yX4_numberOf, Cond.instanceMethod yX4_numberOf, Cond.selects RX4 yX4_numberOf yX4_numberOf, Cond.initialized RX4, Cond.code yX4_numberOf cX4_numberOf 2 (some .int), Cond.methodLink RX4 154 yX4_setOf, Cond.instanceMethod yX4_setOf, Cond.selects RX4 yX4_setOf yX4_setOf, Cond.code yX4_setOf cX4_setOf 4 (some .int), Cond.fieldLink RX4 25 "BatteryCaches$State" "kind" "[I", Cond.methodLink RX4 157 yJ6_bitCount_0f7a4, Cond.static yJ6_bitCount_0f7a4, Cond.initialized RJ6, Cond.code yJ6_bitCount_0f7a4 cJ6_bitCount_0f7a4 1 (some .int), Cond.constant RJ6 265 (1431655765), Cond.constant RJ6 266 (858993459)]
def wsX6_critical_r2 : List Cond := [Cond.constant RJ6 267 (252645135), Cond.methodLink RX6 171 yX0_costToSave, Cond.instanceMethod yX0_costToSave, Cond.selects RX0 yX0_costToSave yX0_costToSave, Cond.initialized RX0, Cond.code yX0_costToSave cX0_costToSave 2 (some .int), Cond.fieldLink RX0 24 "BatteryCaches$Battery" "cutCost" "I", Cond.fieldLink RX0 21 "BatteryCaches$Battery" "lineCost" "I"]
def wsX6_critical : List Cond := .code yX6_critical cX6_critical 3 (some .int) :: ((wsX6_critical_r1 ++ wsX6_critical_r2) ++ wsX60 ++ wsX40 ++ wsX00)
def wsX6_ticksUntil_r1 : List Cond := [Cond.constant RX6 48 (-1000001), Cond.fieldLink RX6 40 "BatteryCaches" "trialBattery" "LBatteryCaches$Battery;", Cond.fieldLink RX6 10 "BatteryCaches" "now" "LBatteryCaches$State;", Cond.fieldLink RX6 86 "BatteryCaches$State" "battery" "LBatteryCaches$Battery;", Cond.constant RX6 116 (-1000004), Cond.methodLink RX6 57 yX6_isWithin, Cond.static yX6_isWithin, Cond.initialized RX6, Cond.code yX6_isWithin cX6_isWithin 3 (some .boolean), Cond.methodLink RX6 159 yX0_copyFrom, Cond.instanceMethod yX0_copyFrom, Cond.selects RX0 yX0_copyFrom yX0_copyFrom, Cond.initialized RX0, Cond.code yX0_copyFrom cX0_copyFrom 2 none, Cond.fieldLink RX0 9 "BatteryCaches$Battery" "charge" "I", Cond.fieldLink RX0 15 "BatteryCaches$Battery" "wear" "I", Cond.fieldLink RX0 18 "BatteryCaches$Battery" "cycle" "I", Cond.fieldLink RX0 21 "BatteryCaches$Battery" "lineCost" "I", Cond.fieldLink RX0 24 "BatteryCaches$Battery" "cutCost" "I", Cond.fieldLink RX0 27 "BatteryCaches$Battery" "rise" "I", Cond.fieldLink RX0 30 "BatteryCaches$Battery" "fall" "I", Cond.methodLink RX6 147 yX0_allowance, Cond.instanceMethod yX0_allowance, Cond.selects RX0 yX0_allowance yX0_allowance]
def wsX6_ticksUntil_r2 : List Cond := [Cond.code yX0_allowance cX0_allowance 1 (some .int), Cond.methodLink RX0 33 yX0_savable, Cond.instanceMethod yX0_savable, Cond.selects RX0 yX0_savable yX0_savable, Cond.code yX0_savable cX0_savable 1 (some .int), Cond.methodLink RX0 37 Lib.Math.min.name, Cond.static Lib.Math.min.name, Cond.initialized "java/lang/Math", Cond.code Lib.Math.min.name Lib.Math.min.code 2 (some .int), Cond.methodLink RX6 174 yX0_passTick, Cond.instanceMethod yX0_passTick, Cond.selects RX0 yX0_passTick yX0_passTick, Cond.code yX0_passTick cX0_passTick 1 (some .boolean), Cond.methodLink RX0 54 yX0_fallInCycle, Cond.instanceMethod yX0_fallInCycle, Cond.selects RX0 yX0_fallInCycle yX0_fallInCycle, Cond.code yX0_fallInCycle cX0_fallInCycle 1 none, Cond.methodLink RX0 50 yX0_useUp, Cond.instanceMethod yX0_useUp, Cond.selects RX0 yX0_useUp yX0_useUp, Cond.code yX0_useUp cX0_useUp 2 none, Cond.methodLink RX0 43 Lib.Math.max.name, Cond.static Lib.Math.max.name, Cond.code Lib.Math.max.name Lib.Math.max.code 2 (some .int)]
def wsX6_ticksUntil_r3 : List Cond := [Cond.methodLink RX0 57 yX0_capacity, Cond.instanceMethod yX0_capacity, Cond.selects RX0 yX0_capacity yX0_capacity, Cond.code yX0_capacity cX0_capacity 1 (some .int)]
def wsX6_ticksUntil : List Cond := .code yX6_ticksUntil cX6_ticksUntil 3 (some .int) :: ((wsX6_ticksUntil_r1 ++ (wsX6_ticksUntil_r2 ++ wsX6_ticksUntil_r3)) ++ wsX60 ++ wsX40 ++ wsX00)
def wsX6_pair_r1 : List Cond := [Cond.constant RX6 48 (-1000001), Cond.fieldLink RX6 10 "BatteryCaches" "now" "LBatteryCaches$State;", Cond.constant RX6 116 (-1000004), Cond.methodLink RX6 57 yX6_isWithin, Cond.static yX6_isWithin, Cond.initialized RX6, Cond.code yX6_isWithin cX6_isWithin 3 (some .boolean), Cond.methodLink RX6 178 yX4_nearestPair, Cond.instanceMethod yX4_nearestPair, Cond.selects RX4 yX4_nearestPair yX4_nearestPair, Cond.initialized RX4, Cond.code yX4_nearestPair cX4_nearestPair 6 (some .int), Cond.fieldLink RX4 25 "BatteryCaches$State" "kind" "[I", Cond.fieldLink RX4 34 "BatteryCaches$State" "turn" "[I", Cond.methodLink RX4 162 yX4_distanceToDirty, Cond.instanceMethod yX4_distanceToDirty, Cond.selects RX4 yX4_distanceToDirty yX4_distanceToDirty, Cond.code yX4_distanceToDirty cX4_distanceToDirty 4 (some .int), Cond.fieldLink RX4 28 "BatteryCaches$State" "place" "[I", Cond.methodLink RX4 165 Lib.Math.abs.name, Cond.static Lib.Math.abs.name, Cond.initialized "java/lang/Math", Cond.code Lib.Math.abs.name Lib.Math.abs.code 1 (some .int), Cond.methodLink RX4 148 Lib.Math.min.name]
def wsX6_pair_r2 : List Cond := [Cond.static Lib.Math.min.name, Cond.code Lib.Math.min.name Lib.Math.min.code 2 (some .int), Cond.static yX6_isLine, Cond.code yX6_isLine cX6_isLine 1 (some .boolean), Cond.methodLink RX6 65 yX6_isLine, Cond.methodLink RX6 181 yX4_distanceToDirty]
def wsX6_pair : List Cond := .code yX6_pair cX6_pair 3 (some .int) :: ((wsX6_pair_r1 ++ wsX6_pair_r2) ++ wsX60 ++ wsX40)
def wsX6_count_r1 : List Cond := [Cond.fieldLink RX6 10 "BatteryCaches" "now" "LBatteryCaches$State;", Cond.fieldLink RX6 184 "BatteryCaches$State" "ticks" "I", Cond.fieldLink RX6 187 "BatteryCaches$State" "hits" "I", Cond.fieldLink RX6 190 "BatteryCaches$State" "misses" "I", Cond.fieldLink RX6 193 "BatteryCaches$State" "flushed" "I", Cond.fieldLink RX6 196 "BatteryCaches$State" "wentThrough" "I", Cond.fieldLink RX6 199 "BatteryCaches$State" "lost" "I", Cond.fieldLink RX6 202 "BatteryCaches$State" "cuts" "I", Cond.fieldLink RX6 205 "BatteryCaches$State" "cyclesEnded" "I", Cond.fieldLink RX6 208 "BatteryCaches$State" "laidInAll" "I", Cond.fieldLink RX6 19 "BatteryCaches" "history" "LBatteryCaches$History;", Cond.fieldLink RX6 211 "BatteryCaches$History" "size" "I", Cond.fieldLink RX6 26 "BatteryCaches" "text" "LBatteryCaches$Text;", Cond.fieldLink RX6 214 "BatteryCaches$Text" "length" "I", Cond.fieldLink RX6 86 "BatteryCaches$State" "battery" "LBatteryCaches$Battery;", Cond.constant RX6 48 (-1000001), Cond.methodLink RX6 100 yX6_isSetting, Cond.static yX6_isSetting, Cond.initialized RX6, Cond.code yX6_isSetting cX6_isSetting 1 (some .boolean), Cond.methodLink RX6 109 yX0_setting, Cond.instanceMethod yX0_setting, Cond.selects RX0 yX0_setting yX0_setting, Cond.initialized RX0]
def wsX6_count_r2 : List Cond := [Cond.code yX0_setting cX0_setting 2 (some .int), Cond.fieldLink RX0 21 "BatteryCaches$Battery" "lineCost" "I", Cond.fieldLink RX0 24 "BatteryCaches$Battery" "cutCost" "I", Cond.fieldLink RX0 27 "BatteryCaches$Battery" "rise" "I", Cond.fieldLink RX0 30 "BatteryCaches$Battery" "fall" "I"]
def wsX6_count : List Cond := .code yX6_count cX6_count 2 (some .int) :: ((wsX6_count_r1 ++ wsX6_count_r2) ++ wsX60 ++ wsX40 ++ wsX10 ++ wsX50 ++ wsX00)
def wsX6_undo_r1 : List Cond := [Cond.fieldLink RX6 19 "BatteryCaches" "history" "LBatteryCaches$History;", Cond.fieldLink RX6 211 "BatteryCaches$History" "size" "I", Cond.constant RX6 72 (-1000002), Cond.fieldLink RX6 10 "BatteryCaches" "now" "LBatteryCaches$State;", Cond.methodLink RX6 217 yX1_restore, Cond.instanceMethod yX1_restore, Cond.selects RX1 yX1_restore yX1_restore, Cond.initialized RX1, Cond.code yX1_restore cX1_restore 2 none, Cond.fieldLink RX1 17 "BatteryCaches$History" "size" "I", Cond.fieldLink RX1 11 "BatteryCaches$History" "states" "[LBatteryCaches$State;", Cond.static yX6_isWithin, Cond.initialized RX6, Cond.code yX6_isWithin cX6_isWithin 3 (some .boolean), Cond.methodLink RX1 29 yX4_copy, Cond.static yX4_copy, Cond.initialized RX4, Cond.code yX4_copy cX4_copy 2 none, Cond.fieldLink RX4 12 "BatteryCaches$State" "battery" "LBatteryCaches$Battery;", Cond.fieldLink RX4 18 "BatteryCaches$State" "disk" "[I", Cond.fieldLink RX4 22 "BatteryCaches$State" "laid" "[I", Cond.fieldLink RX4 25 "BatteryCaches$State" "kind" "[I", Cond.fieldLink RX4 28 "BatteryCaches$State" "place" "[I", Cond.fieldLink RX4 31 "BatteryCaches$State" "value" "[I"]
def wsX6_undo_r2 : List Cond := [Cond.fieldLink RX4 34 "BatteryCaches$State" "turn" "[I", Cond.fieldLink RX4 37 "BatteryCaches$State" "lastTurn" "I", Cond.fieldLink RX4 41 "BatteryCaches$State" "ticks" "I", Cond.fieldLink RX4 44 "BatteryCaches$State" "hits" "I", Cond.fieldLink RX4 47 "BatteryCaches$State" "misses" "I", Cond.fieldLink RX4 50 "BatteryCaches$State" "flushed" "I", Cond.fieldLink RX4 53 "BatteryCaches$State" "wentThrough" "I", Cond.fieldLink RX4 56 "BatteryCaches$State" "lost" "I", Cond.fieldLink RX4 59 "BatteryCaches$State" "cuts" "I", Cond.fieldLink RX4 62 "BatteryCaches$State" "cyclesEnded" "I", Cond.fieldLink RX4 65 "BatteryCaches$State" "laidInAll" "I", Cond.methodLink RX4 68 yX0_copyFrom, Cond.instanceMethod yX0_copyFrom, Cond.selects RX0 yX0_copyFrom yX0_copyFrom, Cond.initialized RX0, Cond.code yX0_copyFrom cX0_copyFrom 2 none, Cond.fieldLink RX0 9 "BatteryCaches$Battery" "charge" "I", Cond.fieldLink RX0 15 "BatteryCaches$Battery" "wear" "I", Cond.fieldLink RX0 18 "BatteryCaches$Battery" "cycle" "I", Cond.fieldLink RX0 21 "BatteryCaches$Battery" "lineCost" "I", Cond.fieldLink RX0 24 "BatteryCaches$Battery" "cutCost" "I", Cond.fieldLink RX0 27 "BatteryCaches$Battery" "rise" "I", Cond.fieldLink RX0 30 "BatteryCaches$Battery" "fall" "I", Cond.static yX6_copyRow]
def wsX6_undo_r3 : List Cond := [Cond.code yX6_copyRow cX6_copyRow 2 none, Cond.methodLink RX6 253 Lib.Math.min.name, Cond.static Lib.Math.min.name, Cond.initialized "java/lang/Math", Cond.code Lib.Math.min.name Lib.Math.min.code 2 (some .int), Cond.methodLink RX6 256 arraycopyName, Cond.native arraycopyName, Cond.static arraycopyName, Cond.initialized "java/lang/System"]
def wsX6_undo : List Cond := .code yX6_undo cX6_undo 1 (some .int) :: ((wsX6_undo_r1 ++ (wsX6_undo_r2 ++ wsX6_undo_r3)) ++ wsX60 ++ wsX10 ++ wsX40 ++ wsX00)
def wsX6_type : List Cond := .code yX6_type cX6_type 2 (some .int) :: ([.constant RX6 48 (-1000001), .fieldLink RX6 26 "BatteryCaches" "text" "LBatteryCaches$Text;", .fieldLink RX6 214 "BatteryCaches$Text" "length" "I", .constant RX6 220 (-1000003), .methodLink RX6 57 yX6_isWithin, .static yX6_isWithin, .initialized RX6, .code yX6_isWithin cX6_isWithin 3 (some .boolean), .methodLink RX6 221 yX5_append, .instanceMethod yX5_append, .selects RX5 yX5_append yX5_append, .initialized RX5, .code yX5_append cX5_append 2 none, .fieldLink RX5 15 "BatteryCaches$Text" "length" "I", .fieldLink RX5 9 "BatteryCaches$Text" "characters" "[I"] ++ wsX60 ++ wsX50)
def wsX6_clearText : List Cond := .code yX6_clearText cX6_clearText 2 (some .int) :: ([.fieldLink RX6 26 "BatteryCaches" "text" "LBatteryCaches$Text;", .fieldLink RX6 214 "BatteryCaches$Text" "length" "I"] ++ wsX60 ++ wsX50)
def wsX6_fault_r1 : List Cond := [Cond.constant RX6 48 (-1000001), Cond.fieldLink RX6 33 "BatteryCaches" "rehearsal" "LBatteryCaches$Rehearsal;", Cond.fieldLink RX6 26 "BatteryCaches" "text" "LBatteryCaches$Text;", Cond.fieldLink RX6 10 "BatteryCaches" "now" "LBatteryCaches$State;", Cond.fieldLink RX6 228 "BatteryCaches$Rehearsal" "order" "LBatteryCaches$Order;", Cond.fieldLink RX6 232 "BatteryCaches$Order" "reason" "I", Cond.constant RX6 116 (-1000004), Cond.fieldLink RX6 237 "BatteryCaches$Order" "start" "I", Cond.fieldLink RX6 240 "BatteryCaches$Order" "cause" "I", Cond.methodLink RX6 57 yX6_isWithin, Cond.static yX6_isWithin, Cond.initialized RX6, Cond.code yX6_isWithin cX6_isWithin 3 (some .boolean), Cond.methodLink RX6 224 yX3_run, Cond.instanceMethod yX3_run, Cond.selects RX3 yX3_run yX3_run, Cond.initialized RX3, Cond.code yX3_run cX3_run 4 none, Cond.fieldLink RX3 12 "BatteryCaches$Rehearsal" "trial" "LBatteryCaches$State;", Cond.fieldLink RX3 21 "BatteryCaches$Rehearsal" "order" "LBatteryCaches$Order;", Cond.fieldLink RX3 25 "BatteryCaches$Rehearsal" "done" "I", Cond.fieldLink RX3 36 "BatteryCaches$Order" "next" "I", Cond.fieldLink RX3 39 "BatteryCaches$Text" "length" "I", Cond.fieldLink RX3 48 "BatteryCaches$Order" "reason" "I"]
def wsX6_fault_r2 : List Cond := [Cond.methodLink RX3 29 yX4_copy, Cond.static yX4_copy, Cond.initialized RX4, Cond.code yX4_copy cX4_copy 2 none, Cond.fieldLink RX4 12 "BatteryCaches$State" "battery" "LBatteryCaches$Battery;", Cond.fieldLink RX4 18 "BatteryCaches$State" "disk" "[I", Cond.fieldLink RX4 22 "BatteryCaches$State" "laid" "[I", Cond.fieldLink RX4 25 "BatteryCaches$State" "kind" "[I", Cond.fieldLink RX4 28 "BatteryCaches$State" "place" "[I", Cond.fieldLink RX4 31 "BatteryCaches$State" "value" "[I", Cond.fieldLink RX4 34 "BatteryCaches$State" "turn" "[I", Cond.fieldLink RX4 37 "BatteryCaches$State" "lastTurn" "I", Cond.fieldLink RX4 41 "BatteryCaches$State" "ticks" "I", Cond.fieldLink RX4 44 "BatteryCaches$State" "hits" "I", Cond.fieldLink RX4 47 "BatteryCaches$State" "misses" "I", Cond.fieldLink RX4 50 "BatteryCaches$State" "flushed" "I", Cond.fieldLink RX4 53 "BatteryCaches$State" "wentThrough" "I", Cond.fieldLink RX4 56 "BatteryCaches$State" "lost" "I", Cond.fieldLink RX4 59 "BatteryCaches$State" "cuts" "I", Cond.fieldLink RX4 62 "BatteryCaches$State" "cyclesEnded" "I", Cond.fieldLink RX4 65 "BatteryCaches$State" "laidInAll" "I", Cond.methodLink RX4 68 yX0_copyFrom, Cond.instanceMethod yX0_copyFrom, Cond.selects RX0 yX0_copyFrom yX0_copyFrom]
def wsX6_fault_r3 : List Cond := [Cond.initialized RX0, Cond.code yX0_copyFrom cX0_copyFrom 2 none, Cond.fieldLink RX0 9 "BatteryCaches$Battery" "charge" "I", Cond.fieldLink RX0 15 "BatteryCaches$Battery" "wear" "I", Cond.fieldLink RX0 18 "BatteryCaches$Battery" "cycle" "I", Cond.fieldLink RX0 21 "BatteryCaches$Battery" "lineCost" "I", Cond.fieldLink RX0 24 "BatteryCaches$Battery" "cutCost" "I", Cond.fieldLink RX0 27 "BatteryCaches$Battery" "rise" "I", Cond.fieldLink RX0 30 "BatteryCaches$Battery" "fall" "I", Cond.static yX6_copyRow, Cond.code yX6_copyRow cX6_copyRow 2 none, Cond.methodLink RX6 253 Lib.Math.min.name, Cond.static Lib.Math.min.name, Cond.initialized "java/lang/Math", Cond.code Lib.Math.min.name Lib.Math.min.code 2 (some .int), Cond.methodLink RX6 256 arraycopyName, Cond.native arraycopyName, Cond.static arraycopyName, Cond.initialized "java/lang/System", Cond.methodLink RX3 33 yX2_beginText, Cond.instanceMethod yX2_beginText, Cond.selects RX2 yX2_beginText yX2_beginText, Cond.initialized RX2, Cond.code yX2_beginText cX2_beginText 1 none]
def wsX6_fault_r4 : List Cond := [Cond.fieldLink RX2 15 "BatteryCaches$Order" "next" "I", Cond.fieldLink RX2 27 "BatteryCaches$Order" "reason" "I", Cond.methodLink RX3 44 yX2_readNext, Cond.instanceMethod yX2_readNext, Cond.selects RX2 yX2_readNext yX2_readNext, Cond.code yX2_readNext cX2_readNext 2 none, Cond.fieldLink RX2 9 "BatteryCaches$Order" "start" "I", Cond.fieldLink RX2 30 "BatteryCaches$Order" "cause" "I", Cond.fieldLink RX2 21 "BatteryCaches$Order" "number" "I", Cond.methodLink RX2 33 yX2_hasForm, Cond.instanceMethod yX2_hasForm, Cond.selects RX2 yX2_hasForm yX2_hasForm, Cond.code yX2_hasForm cX2_hasForm 2 (some .boolean), Cond.fieldLink RX2 18 "BatteryCaches$Order" "letter" "I", Cond.methodLink RX2 41 yX5_at, Cond.instanceMethod yX5_at, Cond.selects RX5 yX5_at yX5_at, Cond.initialized RX5, Cond.code yX5_at cX5_at 3 (some .int), Cond.fieldLink RX5 15 "BatteryCaches$Text" "length" "I", Cond.fieldLink RX5 9 "BatteryCaches$Text" "characters" "[I", Cond.methodLink RX2 47 yX2_readNumber, Cond.instanceMethod yX2_readNumber, Cond.selects RX2 yX2_readNumber yX2_readNumber]
def wsX6_fault_r5 : List Cond := [Cond.code yX2_readNumber cX2_readNumber 4 (some .int), Cond.methodLink RX2 51 yX2_readSign, Cond.instanceMethod yX2_readSign, Cond.selects RX2 yX2_readSign yX2_readSign, Cond.code yX2_readSign cX2_readSign 3 (some .boolean), Cond.methodLink RX2 55 yX2_hasFormOfWrite, Cond.instanceMethod yX2_hasFormOfWrite, Cond.selects RX2 yX2_hasFormOfWrite yX2_hasFormOfWrite, Cond.code yX2_hasFormOfWrite cX2_hasFormOfWrite 2 (some .boolean), Cond.fieldLink RX2 24 "BatteryCaches$Order" "newValue" "I", Cond.methodLink RX2 37 yX2_isInRange, Cond.instanceMethod yX2_isInRange, Cond.selects RX2 yX2_isInRange yX2_isInRange, Cond.code yX2_isInRange cX2_isInRange 1 (some .boolean), Cond.static yX6_isPlace, Cond.code yX6_isPlace cX6_isPlace 1 (some .boolean), Cond.methodLink RX3 51 yX3_isPossible, Cond.instanceMethod yX3_isPossible, Cond.selects RX3 yX3_isPossible yX3_isPossible, Cond.code yX3_isPossible cX3_isPossible 1 (some .boolean), Cond.fieldLink RX3 58 "BatteryCaches$Order" "letter" "I", Cond.fieldLink RX3 61 "BatteryCaches$State" "battery" "LBatteryCaches$Battery;", Cond.fieldLink RX3 65 "BatteryCaches$Battery" "cycle" "I", Cond.methodLink RX3 55 yX3_perform]
def wsX6_fault_r6 : List Cond := [Cond.instanceMethod yX3_perform, Cond.selects RX3 yX3_perform yX3_perform, Cond.code yX3_perform cX3_perform 1 none, Cond.fieldLink RX3 70 "BatteryCaches$Order" "number" "I", Cond.fieldLink RX3 77 "BatteryCaches$Order" "newValue" "I", Cond.methodLink RX3 73 yX4_readPlace, Cond.instanceMethod yX4_readPlace, Cond.selects RX4 yX4_readPlace yX4_readPlace, Cond.code yX4_readPlace cX4_readPlace 3 (some .int), Cond.methodLink RX4 76 yX4_lineFor, Cond.instanceMethod yX4_lineFor, Cond.selects RX4 yX4_lineFor yX4_lineFor, Cond.code yX4_lineFor cX4_lineFor 3 (some .int), Cond.methodLink RX4 95 yX4_holderOf, Cond.instanceMethod yX4_holderOf, Cond.selects RX4 yX4_holderOf yX4_holderOf, Cond.code yX4_holderOf cX4_holderOf 3 (some .int), Cond.static yX6_isLine, Cond.code yX6_isLine cX6_isLine 1 (some .boolean), Cond.methodLink RX4 98 yX4_lineToTake, Cond.instanceMethod yX4_lineToTake, Cond.selects RX4 yX4_lineToTake yX4_lineToTake, Cond.code yX4_lineToTake cX4_lineToTake 2 (some .int), Cond.methodLink RX4 108 yX4_lowestEmpty]
def wsX6_fault_r7 : List Cond := [Cond.instanceMethod yX4_lowestEmpty, Cond.selects RX4 yX4_lowestEmpty yX4_lowestEmpty, Cond.code yX4_lowestEmpty cX4_lowestEmpty 2 (some .int), Cond.methodLink RX4 111 yX4_lowestTurn, Cond.instanceMethod yX4_lowestTurn, Cond.selects RX4 yX4_lowestTurn yX4_lowestTurn, Cond.code yX4_lowestTurn cX4_lowestTurn 5 (some .int), Cond.methodLink RX4 101 yX4_flushLine, Cond.instanceMethod yX4_flushLine, Cond.selects RX4 yX4_flushLine yX4_flushLine, Cond.code yX4_flushLine cX4_flushLine 2 none, Cond.methodLink RX4 91 yX4_layOnDisk, Cond.instanceMethod yX4_layOnDisk, Cond.selects RX4 yX4_layOnDisk yX4_layOnDisk, Cond.code yX4_layOnDisk cX4_layOnDisk 3 none, Cond.methodLink RX4 105 yX4_layIntoLine, Cond.instanceMethod yX4_layIntoLine, Cond.selects RX4 yX4_layIntoLine yX4_layIntoLine, Cond.code yX4_layIntoLine cX4_layIntoLine 3 none, Cond.methodLink RX3 80 yX4_writePlace, Cond.instanceMethod yX4_writePlace, Cond.selects RX4 yX4_writePlace yX4_writePlace, Cond.code yX4_writePlace cX4_writePlace 4 (some .int), Cond.methodLink RX4 84 yX4_numberOf]
def wsX6_fault_r8 : List Cond := [Cond.instanceMethod yX4_numberOf, Cond.selects RX4 yX4_numberOf yX4_numberOf, Cond.code yX4_numberOf cX4_numberOf 2 (some .int), Cond.methodLink RX4 154 yX4_setOf, Cond.instanceMethod yX4_setOf, Cond.selects RX4 yX4_setOf yX4_setOf, Cond.code yX4_setOf cX4_setOf 4 (some .int), Cond.methodLink RX4 157 yJ6_bitCount_0f7a4, Cond.static yJ6_bitCount_0f7a4, Cond.initialized RJ6, Cond.code yJ6_bitCount_0f7a4 cJ6_bitCount_0f7a4 1 (some .int), Cond.constant RJ6 265 (1431655765), Cond.constant RJ6 266 (858993459), Cond.constant RJ6 267 (252645135), Cond.methodLink RX4 87 yX0_allowance, Cond.instanceMethod yX0_allowance, Cond.selects RX0 yX0_allowance yX0_allowance, Cond.code yX0_allowance cX0_allowance 1 (some .int), Cond.methodLink RX0 33 yX0_savable, Cond.instanceMethod yX0_savable, Cond.selects RX0 yX0_savable yX0_savable, Cond.code yX0_savable cX0_savable 1 (some .int), Cond.methodLink RX0 37 Lib.Math.min.name, Cond.methodLink RX3 84 yX4_passTicks]
def wsX6_fault_r9 : List Cond := [Cond.instanceMethod yX4_passTicks, Cond.selects RX4 yX4_passTicks yX4_passTicks, Cond.code yX4_passTicks cX4_passTicks 4 (some .int), Cond.methodLink RX4 117 yX0_passTick, Cond.instanceMethod yX0_passTick, Cond.selects RX0 yX0_passTick yX0_passTick, Cond.code yX0_passTick cX0_passTick 1 (some .boolean), Cond.methodLink RX0 54 yX0_fallInCycle, Cond.instanceMethod yX0_fallInCycle, Cond.selects RX0 yX0_fallInCycle yX0_fallInCycle, Cond.code yX0_fallInCycle cX0_fallInCycle 1 none, Cond.methodLink RX0 50 yX0_useUp, Cond.instanceMethod yX0_useUp, Cond.selects RX0 yX0_useUp yX0_useUp, Cond.code yX0_useUp cX0_useUp 2 none, Cond.methodLink RX0 43 Lib.Math.max.name, Cond.static Lib.Math.max.name, Cond.code Lib.Math.max.name Lib.Math.max.code 2 (some .int), Cond.methodLink RX0 57 yX0_capacity, Cond.instanceMethod yX0_capacity, Cond.selects RX0 yX0_capacity yX0_capacity, Cond.code yX0_capacity cX0_capacity 1 (some .int), Cond.methodLink RX4 121 yX4_tooMany, Cond.instanceMethod yX4_tooMany]
def wsX6_fault_r10 : List Cond := [Cond.selects RX4 yX4_tooMany yX4_tooMany, Cond.code yX4_tooMany cX4_tooMany 1 (some .int), Cond.methodLink RX4 139 Lib.Math.max.name, Cond.methodLink RX4 124 yX4_flushLowest, Cond.instanceMethod yX4_flushLowest, Cond.selects RX4 yX4_flushLowest yX4_flushLowest, Cond.code yX4_flushLowest cX4_flushLowest 3 (some .int), Cond.methodLink RX3 87 yX4_putLoad, Cond.instanceMethod yX4_putLoad, Cond.selects RX4 yX4_putLoad yX4_putLoad, Cond.code yX4_putLoad cX4_putLoad 2 (some .int), Cond.methodLink RX4 127 yX0_useUp, Cond.methodLink RX3 90 yX4_cutPower, Cond.instanceMethod yX4_cutPower, Cond.selects RX4 yX4_cutPower yX4_cutPower, Cond.code yX4_cutPower cX4_cutPower 4 (some .int), Cond.methodLink RX4 133 yX4_savedByCut, Cond.instanceMethod yX4_savedByCut, Cond.selects RX4 yX4_savedByCut yX4_savedByCut, Cond.code yX4_savedByCut cX4_savedByCut 1 (some .int), Cond.methodLink RX4 148 Lib.Math.min.name, Cond.methodLink RX4 145 yX0_savable, Cond.methodLink RX4 136 yX0_saveAtCut, Cond.instanceMethod yX0_saveAtCut]
def wsX6_fault_r11 : List Cond := [Cond.selects RX0 yX0_saveAtCut yX0_saveAtCut, Cond.code yX0_saveAtCut cX0_saveAtCut 2 none, Cond.methodLink RX0 46 yX0_costToSave, Cond.instanceMethod yX0_costToSave, Cond.selects RX0 yX0_costToSave yX0_costToSave, Cond.code yX0_costToSave cX0_costToSave 2 (some .int), Cond.methodLink RX3 94 yX4_beginCycle, Cond.instanceMethod yX4_beginCycle, Cond.selects RX4 yX4_beginCycle yX4_beginCycle, Cond.code yX4_beginCycle cX4_beginCycle 1 (some .int), Cond.fieldLink RX4 130 "BatteryCaches$Battery" "cycle" "I"]
def wsX6_fault : List Cond := .code yX6_fault cX6_fault 3 (some .int) :: ((wsX6_fault_r1 ++ (wsX6_fault_r2 ++ (wsX6_fault_r3 ++ (wsX6_fault_r4 ++ (wsX6_fault_r5 ++ (wsX6_fault_r6 ++ (wsX6_fault_r7 ++ (wsX6_fault_r8 ++ (wsX6_fault_r9 ++ (wsX6_fault_r10 ++ wsX6_fault_r11)))))))))) ++ wsX60 ++ wsX30 ++ wsX20 ++ wsX50 ++ wsX40 ++ wsX00)
def wsX6_play_r1 : List Cond := [Cond.fieldLink RX6 33 "BatteryCaches" "rehearsal" "LBatteryCaches$Rehearsal;", Cond.fieldLink RX6 26 "BatteryCaches" "text" "LBatteryCaches$Text;", Cond.fieldLink RX6 10 "BatteryCaches" "now" "LBatteryCaches$State;", Cond.fieldLink RX6 228 "BatteryCaches$Rehearsal" "order" "LBatteryCaches$Order;", Cond.fieldLink RX6 232 "BatteryCaches$Order" "reason" "I", Cond.constant RX6 72 (-1000002), Cond.fieldLink RX6 19 "BatteryCaches" "history" "LBatteryCaches$History;", Cond.fieldLink RX6 243 "BatteryCaches$Rehearsal" "trial" "LBatteryCaches$State;", Cond.fieldLink RX6 250 "BatteryCaches$Rehearsal" "done" "I", Cond.methodLink RX6 224 yX3_run, Cond.instanceMethod yX3_run, Cond.selects RX3 yX3_run yX3_run, Cond.initialized RX3, Cond.code yX3_run cX3_run 4 none, Cond.fieldLink RX3 12 "BatteryCaches$Rehearsal" "trial" "LBatteryCaches$State;", Cond.fieldLink RX3 21 "BatteryCaches$Rehearsal" "order" "LBatteryCaches$Order;", Cond.fieldLink RX3 25 "BatteryCaches$Rehearsal" "done" "I", Cond.fieldLink RX3 36 "BatteryCaches$Order" "next" "I", Cond.fieldLink RX3 39 "BatteryCaches$Text" "length" "I", Cond.fieldLink RX3 48 "BatteryCaches$Order" "reason" "I", Cond.methodLink RX3 29 yX4_copy, Cond.static yX4_copy, Cond.initialized RX4, Cond.code yX4_copy cX4_copy 2 none]
def wsX6_play_r2 : List Cond := [Cond.fieldLink RX4 12 "BatteryCaches$State" "battery" "LBatteryCaches$Battery;", Cond.fieldLink RX4 18 "BatteryCaches$State" "disk" "[I", Cond.fieldLink RX4 22 "BatteryCaches$State" "laid" "[I", Cond.fieldLink RX4 25 "BatteryCaches$State" "kind" "[I", Cond.fieldLink RX4 28 "BatteryCaches$State" "place" "[I", Cond.fieldLink RX4 31 "BatteryCaches$State" "value" "[I", Cond.fieldLink RX4 34 "BatteryCaches$State" "turn" "[I", Cond.fieldLink RX4 37 "BatteryCaches$State" "lastTurn" "I", Cond.fieldLink RX4 41 "BatteryCaches$State" "ticks" "I", Cond.fieldLink RX4 44 "BatteryCaches$State" "hits" "I", Cond.fieldLink RX4 47 "BatteryCaches$State" "misses" "I", Cond.fieldLink RX4 50 "BatteryCaches$State" "flushed" "I", Cond.fieldLink RX4 53 "BatteryCaches$State" "wentThrough" "I", Cond.fieldLink RX4 56 "BatteryCaches$State" "lost" "I", Cond.fieldLink RX4 59 "BatteryCaches$State" "cuts" "I", Cond.fieldLink RX4 62 "BatteryCaches$State" "cyclesEnded" "I", Cond.fieldLink RX4 65 "BatteryCaches$State" "laidInAll" "I", Cond.methodLink RX4 68 yX0_copyFrom, Cond.instanceMethod yX0_copyFrom, Cond.selects RX0 yX0_copyFrom yX0_copyFrom, Cond.initialized RX0, Cond.code yX0_copyFrom cX0_copyFrom 2 none, Cond.fieldLink RX0 9 "BatteryCaches$Battery" "charge" "I", Cond.fieldLink RX0 15 "BatteryCaches$Battery" "wear" "I"]
def wsX6_play_r3 : List Cond := [Cond.fieldLink RX0 18 "BatteryCaches$Battery" "cycle" "I", Cond.fieldLink RX0 21 "BatteryCaches$Battery" "lineCost" "I", Cond.fieldLink RX0 24 "BatteryCaches$Battery" "cutCost" "I", Cond.fieldLink RX0 27 "BatteryCaches$Battery" "rise" "I", Cond.fieldLink RX0 30 "BatteryCaches$Battery" "fall" "I", Cond.static yX6_copyRow, Cond.initialized RX6, Cond.code yX6_copyRow cX6_copyRow 2 none, Cond.methodLink RX6 253 Lib.Math.min.name, Cond.static Lib.Math.min.name, Cond.initialized "java/lang/Math", Cond.code Lib.Math.min.name Lib.Math.min.code 2 (some .int), Cond.methodLink RX6 256 arraycopyName, Cond.native arraycopyName, Cond.static arraycopyName, Cond.initialized "java/lang/System", Cond.methodLink RX3 33 yX2_beginText, Cond.instanceMethod yX2_beginText, Cond.selects RX2 yX2_beginText yX2_beginText, Cond.initialized RX2, Cond.code yX2_beginText cX2_beginText 1 none, Cond.fieldLink RX2 15 "BatteryCaches$Order" "next" "I", Cond.fieldLink RX2 27 "BatteryCaches$Order" "reason" "I", Cond.methodLink RX3 44 yX2_readNext]
def wsX6_play_r4 : List Cond := [Cond.instanceMethod yX2_readNext, Cond.selects RX2 yX2_readNext yX2_readNext, Cond.code yX2_readNext cX2_readNext 2 none, Cond.fieldLink RX2 9 "BatteryCaches$Order" "start" "I", Cond.fieldLink RX2 30 "BatteryCaches$Order" "cause" "I", Cond.fieldLink RX2 21 "BatteryCaches$Order" "number" "I", Cond.methodLink RX2 33 yX2_hasForm, Cond.instanceMethod yX2_hasForm, Cond.selects RX2 yX2_hasForm yX2_hasForm, Cond.code yX2_hasForm cX2_hasForm 2 (some .boolean), Cond.fieldLink RX2 18 "BatteryCaches$Order" "letter" "I", Cond.methodLink RX2 41 yX5_at, Cond.instanceMethod yX5_at, Cond.selects RX5 yX5_at yX5_at, Cond.initialized RX5, Cond.code yX5_at cX5_at 3 (some .int), Cond.fieldLink RX5 15 "BatteryCaches$Text" "length" "I", Cond.fieldLink RX5 9 "BatteryCaches$Text" "characters" "[I", Cond.methodLink RX2 47 yX2_readNumber, Cond.instanceMethod yX2_readNumber, Cond.selects RX2 yX2_readNumber yX2_readNumber, Cond.code yX2_readNumber cX2_readNumber 4 (some .int), Cond.static yX6_isWithin, Cond.code yX6_isWithin cX6_isWithin 3 (some .boolean)]
def wsX6_play_r5 : List Cond := [Cond.methodLink RX2 51 yX2_readSign, Cond.instanceMethod yX2_readSign, Cond.selects RX2 yX2_readSign yX2_readSign, Cond.code yX2_readSign cX2_readSign 3 (some .boolean), Cond.methodLink RX2 55 yX2_hasFormOfWrite, Cond.instanceMethod yX2_hasFormOfWrite, Cond.selects RX2 yX2_hasFormOfWrite yX2_hasFormOfWrite, Cond.code yX2_hasFormOfWrite cX2_hasFormOfWrite 2 (some .boolean), Cond.fieldLink RX2 24 "BatteryCaches$Order" "newValue" "I", Cond.methodLink RX2 37 yX2_isInRange, Cond.instanceMethod yX2_isInRange, Cond.selects RX2 yX2_isInRange yX2_isInRange, Cond.code yX2_isInRange cX2_isInRange 1 (some .boolean), Cond.static yX6_isPlace, Cond.code yX6_isPlace cX6_isPlace 1 (some .boolean), Cond.methodLink RX3 51 yX3_isPossible, Cond.instanceMethod yX3_isPossible, Cond.selects RX3 yX3_isPossible yX3_isPossible, Cond.code yX3_isPossible cX3_isPossible 1 (some .boolean), Cond.fieldLink RX3 58 "BatteryCaches$Order" "letter" "I", Cond.fieldLink RX3 61 "BatteryCaches$State" "battery" "LBatteryCaches$Battery;", Cond.fieldLink RX3 65 "BatteryCaches$Battery" "cycle" "I", Cond.methodLink RX3 55 yX3_perform, Cond.instanceMethod yX3_perform]
def wsX6_play_r6 : List Cond := [Cond.selects RX3 yX3_perform yX3_perform, Cond.code yX3_perform cX3_perform 1 none, Cond.fieldLink RX3 70 "BatteryCaches$Order" "number" "I", Cond.fieldLink RX3 77 "BatteryCaches$Order" "newValue" "I", Cond.methodLink RX3 73 yX4_readPlace, Cond.instanceMethod yX4_readPlace, Cond.selects RX4 yX4_readPlace yX4_readPlace, Cond.code yX4_readPlace cX4_readPlace 3 (some .int), Cond.methodLink RX4 76 yX4_lineFor, Cond.instanceMethod yX4_lineFor, Cond.selects RX4 yX4_lineFor yX4_lineFor, Cond.code yX4_lineFor cX4_lineFor 3 (some .int), Cond.methodLink RX4 95 yX4_holderOf, Cond.instanceMethod yX4_holderOf, Cond.selects RX4 yX4_holderOf yX4_holderOf, Cond.code yX4_holderOf cX4_holderOf 3 (some .int), Cond.static yX6_isLine, Cond.code yX6_isLine cX6_isLine 1 (some .boolean), Cond.methodLink RX4 98 yX4_lineToTake, Cond.instanceMethod yX4_lineToTake, Cond.selects RX4 yX4_lineToTake yX4_lineToTake, Cond.code yX4_lineToTake cX4_lineToTake 2 (some .int), Cond.methodLink RX4 108 yX4_lowestEmpty, Cond.instanceMethod yX4_lowestEmpty]
def wsX6_play_r7 : List Cond := [Cond.selects RX4 yX4_lowestEmpty yX4_lowestEmpty, Cond.code yX4_lowestEmpty cX4_lowestEmpty 2 (some .int), Cond.methodLink RX4 111 yX4_lowestTurn, Cond.instanceMethod yX4_lowestTurn, Cond.selects RX4 yX4_lowestTurn yX4_lowestTurn, Cond.code yX4_lowestTurn cX4_lowestTurn 5 (some .int), Cond.methodLink RX4 101 yX4_flushLine, Cond.instanceMethod yX4_flushLine, Cond.selects RX4 yX4_flushLine yX4_flushLine, Cond.code yX4_flushLine cX4_flushLine 2 none, Cond.methodLink RX4 91 yX4_layOnDisk, Cond.instanceMethod yX4_layOnDisk, Cond.selects RX4 yX4_layOnDisk yX4_layOnDisk, Cond.code yX4_layOnDisk cX4_layOnDisk 3 none, Cond.methodLink RX4 105 yX4_layIntoLine, Cond.instanceMethod yX4_layIntoLine, Cond.selects RX4 yX4_layIntoLine yX4_layIntoLine, Cond.code yX4_layIntoLine cX4_layIntoLine 3 none, Cond.methodLink RX3 80 yX4_writePlace, Cond.instanceMethod yX4_writePlace, Cond.selects RX4 yX4_writePlace yX4_writePlace, Cond.code yX4_writePlace cX4_writePlace 4 (some .int), Cond.methodLink RX4 84 yX4_numberOf, Cond.instanceMethod yX4_numberOf]
def wsX6_play_r8 : List Cond := [Cond.selects RX4 yX4_numberOf yX4_numberOf, Cond.code yX4_numberOf cX4_numberOf 2 (some .int), Cond.methodLink RX4 154 yX4_setOf, Cond.instanceMethod yX4_setOf, Cond.selects RX4 yX4_setOf yX4_setOf, Cond.code yX4_setOf cX4_setOf 4 (some .int), Cond.methodLink RX4 157 yJ6_bitCount_0f7a4, Cond.static yJ6_bitCount_0f7a4, Cond.initialized RJ6, Cond.code yJ6_bitCount_0f7a4 cJ6_bitCount_0f7a4 1 (some .int), Cond.constant RJ6 265 (1431655765), Cond.constant RJ6 266 (858993459), Cond.constant RJ6 267 (252645135), Cond.methodLink RX4 87 yX0_allowance, Cond.instanceMethod yX0_allowance, Cond.selects RX0 yX0_allowance yX0_allowance, Cond.code yX0_allowance cX0_allowance 1 (some .int), Cond.methodLink RX0 33 yX0_savable, Cond.instanceMethod yX0_savable, Cond.selects RX0 yX0_savable yX0_savable, Cond.code yX0_savable cX0_savable 1 (some .int), Cond.methodLink RX0 37 Lib.Math.min.name, Cond.methodLink RX3 84 yX4_passTicks, Cond.instanceMethod yX4_passTicks]
def wsX6_play_r9 : List Cond := [Cond.selects RX4 yX4_passTicks yX4_passTicks, Cond.code yX4_passTicks cX4_passTicks 4 (some .int), Cond.methodLink RX4 117 yX0_passTick, Cond.instanceMethod yX0_passTick, Cond.selects RX0 yX0_passTick yX0_passTick, Cond.code yX0_passTick cX0_passTick 1 (some .boolean), Cond.methodLink RX0 54 yX0_fallInCycle, Cond.instanceMethod yX0_fallInCycle, Cond.selects RX0 yX0_fallInCycle yX0_fallInCycle, Cond.code yX0_fallInCycle cX0_fallInCycle 1 none, Cond.methodLink RX0 50 yX0_useUp, Cond.instanceMethod yX0_useUp, Cond.selects RX0 yX0_useUp yX0_useUp, Cond.code yX0_useUp cX0_useUp 2 none, Cond.methodLink RX0 43 Lib.Math.max.name, Cond.static Lib.Math.max.name, Cond.code Lib.Math.max.name Lib.Math.max.code 2 (some .int), Cond.methodLink RX0 57 yX0_capacity, Cond.instanceMethod yX0_capacity, Cond.selects RX0 yX0_capacity yX0_capacity, Cond.code yX0_capacity cX0_capacity 1 (some .int), Cond.methodLink RX4 121 yX4_tooMany, Cond.instanceMethod yX4_tooMany, Cond.selects RX4 yX4_tooMany yX4_tooMany]
def wsX6_play_r10 : List Cond := [Cond.code yX4_tooMany cX4_tooMany 1 (some .int), Cond.methodLink RX4 139 Lib.Math.max.name, Cond.methodLink RX4 124 yX4_flushLowest, Cond.instanceMethod yX4_flushLowest, Cond.selects RX4 yX4_flushLowest yX4_flushLowest, Cond.code yX4_flushLowest cX4_flushLowest 3 (some .int), Cond.methodLink RX3 87 yX4_putLoad, Cond.instanceMethod yX4_putLoad, Cond.selects RX4 yX4_putLoad yX4_putLoad, Cond.code yX4_putLoad cX4_putLoad 2 (some .int), Cond.methodLink RX4 127 yX0_useUp, Cond.methodLink RX3 90 yX4_cutPower, Cond.instanceMethod yX4_cutPower, Cond.selects RX4 yX4_cutPower yX4_cutPower, Cond.code yX4_cutPower cX4_cutPower 4 (some .int), Cond.methodLink RX4 133 yX4_savedByCut, Cond.instanceMethod yX4_savedByCut, Cond.selects RX4 yX4_savedByCut yX4_savedByCut, Cond.code yX4_savedByCut cX4_savedByCut 1 (some .int), Cond.methodLink RX4 148 Lib.Math.min.name, Cond.methodLink RX4 145 yX0_savable, Cond.methodLink RX4 136 yX0_saveAtCut, Cond.instanceMethod yX0_saveAtCut, Cond.selects RX0 yX0_saveAtCut yX0_saveAtCut]
def wsX6_play_r11 : List Cond := [Cond.code yX0_saveAtCut cX0_saveAtCut 2 none, Cond.methodLink RX0 46 yX0_costToSave, Cond.instanceMethod yX0_costToSave, Cond.selects RX0 yX0_costToSave yX0_costToSave, Cond.code yX0_costToSave cX0_costToSave 2 (some .int), Cond.methodLink RX3 94 yX4_beginCycle, Cond.instanceMethod yX4_beginCycle, Cond.selects RX4 yX4_beginCycle yX4_beginCycle, Cond.code yX4_beginCycle cX4_beginCycle 1 (some .int), Cond.fieldLink RX4 130 "BatteryCaches$Battery" "cycle" "I", Cond.methodLink RX6 49 yX1_keep, Cond.instanceMethod yX1_keep, Cond.selects RX1 yX1_keep yX1_keep, Cond.initialized RX1, Cond.code yX1_keep cX1_keep 2 none, Cond.fieldLink RX1 17 "BatteryCaches$History" "size" "I", Cond.fieldLink RX1 11 "BatteryCaches$History" "states" "[LBatteryCaches$State;", Cond.methodLink RX1 22 yX1_dropOldest, Cond.instanceMethod yX1_dropOldest, Cond.selects RX1 yX1_dropOldest yX1_dropOldest, Cond.code yX1_dropOldest cX1_dropOldest 3 none, Cond.methodLink RX1 29 yX4_copy, Cond.methodLink RX6 246 yX4_copy]
def wsX6_play : List Cond := .code yX6_play cX6_play 1 (some .int) :: ((wsX6_play_r1 ++ (wsX6_play_r2 ++ (wsX6_play_r3 ++ (wsX6_play_r4 ++ (wsX6_play_r5 ++ (wsX6_play_r6 ++ (wsX6_play_r7 ++ (wsX6_play_r8 ++ (wsX6_play_r9 ++ (wsX6_play_r10 ++ wsX6_play_r11)))))))))) ++ wsX60 ++ wsX30 ++ wsX20 ++ wsX50 ++ wsX40 ++ wsX00 ++ wsX10)
def wsX7_init : List Cond := .code yX7_init cX7_init 1 none :: ([.methodLink RX7 1 objectInit, .instanceMethod objectInit, .code objectInit ⟨#[0xb1]⟩ 1 none, .arrayClass .int, .fieldLink RX7 7 "BatteryCachesModel" "all" "[I", .fieldLink RX7 13 "BatteryCachesModel" "kept" "[I", .fieldLink RX7 16 "BatteryCachesModel" "history" "[I", .fieldLink RX7 19 "BatteryCachesModel" "text" "[I"] ++ wsX70)
def wsX7_in : List Cond := .code yX7_in cX7_in 6 (some .boolean) :: ([])
def wsX7_keep : List Cond := .code yX7_keep cX7_keep 2 none :: ([.fieldLink RX7 13 "BatteryCachesModel" "kept" "[I", .fieldLink RX7 7 "BatteryCachesModel" "all" "[I"] ++ wsX70)
def wsX7_giveBack : List Cond := .code yX7_giveBack cX7_giveBack 2 none :: ([.fieldLink RX7 7 "BatteryCachesModel" "all" "[I", .fieldLink RX7 13 "BatteryCachesModel" "kept" "[I"] ++ wsX70)
def wsX7_changed : List Cond := .code yX7_changed cX7_changed 3 (some .int) :: ([.constant RX7 22 (-1000000), .fieldLink RX7 23 "BatteryCachesModel" "historyLong" "I", .fieldLink RX7 16 "BatteryCachesModel" "history" "[I", .fieldLink RX7 13 "BatteryCachesModel" "kept" "[I"] ++ wsX70)
def wsX7_counts : List Cond := .code yX7_counts cX7_counts 2 none :: ([.fieldLink RX7 7 "BatteryCachesModel" "all" "[I"] ++ wsX70)
def wsX7_setting : List Cond := .code yX7_setting cX7_setting 2 (some .int) :: ([.fieldLink RX7 7 "BatteryCachesModel" "all" "[I"] ++ wsX70)
def wsX7_isPlace : List Cond := .code yX7_isPlace cX7_isPlace 1 (some .boolean) :: ([.constantLong RX7 27 (63), .methodLink RX7 29 yX7_in, .static yX7_in, .initialized RX7, .code yX7_in cX7_in 6 (some .boolean)])
def wsX7_isLine : List Cond := .code yX7_isLine cX7_isLine 1 (some .boolean) :: ([.constantLong RX7 33 (7), .methodLink RX7 29 yX7_in, .static yX7_in, .initialized RX7, .code yX7_in cX7_in 6 (some .boolean)])
def wsX7_many : List Cond := .code yX7_many cX7_many 4 (some .int) :: ([.fieldLink RX7 7 "BatteryCachesModel" "all" "[I"] ++ wsX70)
def wsX7_oldest : List Cond := .code yX7_oldest cX7_oldest 4 (some .int) :: ([.fieldLink RX7 7 "BatteryCachesModel" "all" "[I"] ++ wsX70)
def wsX7_holder : List Cond := .code yX7_holder cX7_holder 3 (some .int) :: ([.fieldLink RX7 7 "BatteryCachesModel" "all" "[I"] ++ wsX70)
def wsX7_lays : List Cond := .code yX7_lays cX7_lays 3 none :: ([.fieldLink RX7 7 "BatteryCachesModel" "all" "[I", .methodLink RX7 35 yX7_counts, .instanceMethod yX7_counts, .selects RX7 yX7_counts yX7_counts, .initialized RX7, .code yX7_counts cX7_counts 2 none] ++ wsX70)
def wsX7_flushes : List Cond := .code yX7_flushes cX7_flushes 2 none :: ([.fieldLink RX7 7 "BatteryCachesModel" "all" "[I", .methodLink RX7 39 yX7_lays, .instanceMethod yX7_lays, .selects RX7 yX7_lays yX7_lays, .initialized RX7, .code yX7_lays cX7_lays 3 none, .methodLink RX7 35 yX7_counts, .instanceMethod yX7_counts, .selects RX7 yX7_counts yX7_counts, .code yX7_counts cX7_counts 2 none] ++ wsX70)
def wsX7_allowance : List Cond := .code yX7_allowance cX7_allowance 2 (some .int) :: ([.fieldLink RX7 7 "BatteryCachesModel" "all" "[I", .methodLink RX7 43 yX7_setting, .instanceMethod yX7_setting, .selects RX7 yX7_setting yX7_setting, .initialized RX7, .code yX7_setting cX7_setting 2 (some .int)] ++ wsX70)
def wsX7_flushesToo_r1 : List Cond := [Cond.methodLink RX7 47 yX7_many, Cond.instanceMethod yX7_many, Cond.selects RX7 yX7_many yX7_many, Cond.initialized RX7, Cond.code yX7_many cX7_many 4 (some .int), Cond.fieldLink RX7 7 "BatteryCachesModel" "all" "[I", Cond.methodLink RX7 50 yX7_allowance, Cond.instanceMethod yX7_allowance, Cond.selects RX7 yX7_allowance yX7_allowance, Cond.code yX7_allowance cX7_allowance 2 (some .int), Cond.methodLink RX7 43 yX7_setting, Cond.instanceMethod yX7_setting, Cond.selects RX7 yX7_setting yX7_setting, Cond.code yX7_setting cX7_setting 2 (some .int), Cond.methodLink RX7 54 yX7_oldest, Cond.instanceMethod yX7_oldest, Cond.selects RX7 yX7_oldest yX7_oldest, Cond.code yX7_oldest cX7_oldest 4 (some .int), Cond.methodLink RX7 57 yX7_flushes, Cond.instanceMethod yX7_flushes, Cond.selects RX7 yX7_flushes yX7_flushes, Cond.code yX7_flushes cX7_flushes 2 none, Cond.methodLink RX7 39 yX7_lays, Cond.instanceMethod yX7_lays]
def wsX7_flushesToo_r2 : List Cond := [Cond.selects RX7 yX7_lays yX7_lays, Cond.code yX7_lays cX7_lays 3 none, Cond.methodLink RX7 35 yX7_counts, Cond.instanceMethod yX7_counts, Cond.selects RX7 yX7_counts yX7_counts, Cond.code yX7_counts cX7_counts 2 none]
def wsX7_flushesToo : List Cond := .code yX7_flushesToo cX7_flushesToo 2 (some .int) :: ((wsX7_flushesToo_r1 ++ wsX7_flushesToo_r2) ++ wsX70)
def wsX7_turns : List Cond := .code yX7_turns cX7_turns 2 none :: ([.fieldLink RX7 7 "BatteryCachesModel" "all" "[I"] ++ wsX70)
def wsX7_touches_r1 : List Cond := [Cond.fieldLink RX7 7 "BatteryCachesModel" "all" "[I", Cond.methodLink RX7 60 yX7_holder, Cond.instanceMethod yX7_holder, Cond.selects RX7 yX7_holder yX7_holder, Cond.initialized RX7, Cond.code yX7_holder cX7_holder 3 (some .int), Cond.methodLink RX7 35 yX7_counts, Cond.instanceMethod yX7_counts, Cond.selects RX7 yX7_counts yX7_counts, Cond.code yX7_counts cX7_counts 2 none, Cond.methodLink RX7 54 yX7_oldest, Cond.instanceMethod yX7_oldest, Cond.selects RX7 yX7_oldest yX7_oldest, Cond.code yX7_oldest cX7_oldest 4 (some .int), Cond.methodLink RX7 57 yX7_flushes, Cond.instanceMethod yX7_flushes, Cond.selects RX7 yX7_flushes yX7_flushes, Cond.code yX7_flushes cX7_flushes 2 none, Cond.methodLink RX7 39 yX7_lays, Cond.instanceMethod yX7_lays, Cond.selects RX7 yX7_lays yX7_lays, Cond.code yX7_lays cX7_lays 3 none, Cond.methodLink RX7 63 yX7_turns, Cond.instanceMethod yX7_turns]
def wsX7_touches_r2 : List Cond := [Cond.selects RX7 yX7_turns yX7_turns, Cond.code yX7_turns cX7_turns 2 none]
def wsX7_touches : List Cond := .code yX7_touches cX7_touches 3 (some .int) :: ((wsX7_touches_r1 ++ wsX7_touches_r2) ++ wsX70)
def wsX7_doRead_r1 : List Cond := [Cond.fieldLink RX7 7 "BatteryCachesModel" "all" "[I", Cond.constant RX7 73 (-1000001), Cond.methodLink RX7 66 yX7_isPlace, Cond.static yX7_isPlace, Cond.initialized RX7, Cond.code yX7_isPlace cX7_isPlace 1 (some .boolean), Cond.constantLong RX7 27 (63), Cond.methodLink RX7 29 yX7_in, Cond.static yX7_in, Cond.code yX7_in cX7_in 6 (some .boolean), Cond.methodLink RX7 70 yX7_touches, Cond.instanceMethod yX7_touches, Cond.selects RX7 yX7_touches yX7_touches, Cond.code yX7_touches cX7_touches 3 (some .int), Cond.methodLink RX7 60 yX7_holder, Cond.instanceMethod yX7_holder, Cond.selects RX7 yX7_holder yX7_holder, Cond.code yX7_holder cX7_holder 3 (some .int), Cond.methodLink RX7 35 yX7_counts, Cond.instanceMethod yX7_counts, Cond.selects RX7 yX7_counts yX7_counts, Cond.code yX7_counts cX7_counts 2 none, Cond.methodLink RX7 54 yX7_oldest, Cond.instanceMethod yX7_oldest]
def wsX7_doRead_r2 : List Cond := [Cond.selects RX7 yX7_oldest yX7_oldest, Cond.code yX7_oldest cX7_oldest 4 (some .int), Cond.methodLink RX7 57 yX7_flushes, Cond.instanceMethod yX7_flushes, Cond.selects RX7 yX7_flushes yX7_flushes, Cond.code yX7_flushes cX7_flushes 2 none, Cond.methodLink RX7 39 yX7_lays, Cond.instanceMethod yX7_lays, Cond.selects RX7 yX7_lays yX7_lays, Cond.code yX7_lays cX7_lays 3 none, Cond.methodLink RX7 63 yX7_turns, Cond.instanceMethod yX7_turns, Cond.selects RX7 yX7_turns yX7_turns, Cond.code yX7_turns cX7_turns 2 none]
def wsX7_doRead : List Cond := .code yX7_doRead cX7_doRead 2 (some .int) :: ((wsX7_doRead_r1 ++ wsX7_doRead_r2) ++ wsX70)
def wsX7_doWrite_r1 : List Cond := [Cond.constantLong RX7 74 (999), Cond.constant RX7 73 (-1000001), Cond.fieldLink RX7 7 "BatteryCachesModel" "all" "[I", Cond.methodLink RX7 66 yX7_isPlace, Cond.static yX7_isPlace, Cond.initialized RX7, Cond.code yX7_isPlace cX7_isPlace 1 (some .boolean), Cond.constantLong RX7 27 (63), Cond.methodLink RX7 29 yX7_in, Cond.static yX7_in, Cond.code yX7_in cX7_in 6 (some .boolean), Cond.methodLink RX7 70 yX7_touches, Cond.instanceMethod yX7_touches, Cond.selects RX7 yX7_touches yX7_touches, Cond.code yX7_touches cX7_touches 3 (some .int), Cond.methodLink RX7 60 yX7_holder, Cond.instanceMethod yX7_holder, Cond.selects RX7 yX7_holder yX7_holder, Cond.code yX7_holder cX7_holder 3 (some .int), Cond.methodLink RX7 35 yX7_counts, Cond.instanceMethod yX7_counts, Cond.selects RX7 yX7_counts yX7_counts, Cond.code yX7_counts cX7_counts 2 none, Cond.methodLink RX7 54 yX7_oldest]
def wsX7_doWrite_r2 : List Cond := [Cond.instanceMethod yX7_oldest, Cond.selects RX7 yX7_oldest yX7_oldest, Cond.code yX7_oldest cX7_oldest 4 (some .int), Cond.methodLink RX7 57 yX7_flushes, Cond.instanceMethod yX7_flushes, Cond.selects RX7 yX7_flushes yX7_flushes, Cond.code yX7_flushes cX7_flushes 2 none, Cond.methodLink RX7 39 yX7_lays, Cond.instanceMethod yX7_lays, Cond.selects RX7 yX7_lays yX7_lays, Cond.code yX7_lays cX7_lays 3 none, Cond.methodLink RX7 63 yX7_turns, Cond.instanceMethod yX7_turns, Cond.selects RX7 yX7_turns yX7_turns, Cond.code yX7_turns cX7_turns 2 none, Cond.methodLink RX7 47 yX7_many, Cond.instanceMethod yX7_many, Cond.selects RX7 yX7_many yX7_many, Cond.code yX7_many cX7_many 4 (some .int), Cond.methodLink RX7 50 yX7_allowance, Cond.instanceMethod yX7_allowance, Cond.selects RX7 yX7_allowance yX7_allowance, Cond.code yX7_allowance cX7_allowance 2 (some .int), Cond.methodLink RX7 43 yX7_setting]
def wsX7_doWrite_r3 : List Cond := [Cond.instanceMethod yX7_setting, Cond.selects RX7 yX7_setting yX7_setting, Cond.code yX7_setting cX7_setting 2 (some .int)]
def wsX7_doWrite : List Cond := .code yX7_doWrite cX7_doWrite 4 (some .int) :: ((wsX7_doWrite_r1 ++ (wsX7_doWrite_r2 ++ wsX7_doWrite_r3)) ++ wsX70)
def wsX7_capacity : List Cond := .code yX7_capacity cX7_capacity 1 (some .int) :: ([.fieldLink RX7 7 "BatteryCachesModel" "all" "[I"] ++ wsX70)
def wsX7_charges : List Cond := .code yX7_charges cX7_charges 2 none :: ([.fieldLink RX7 7 "BatteryCachesModel" "all" "[I", .methodLink RX7 43 yX7_setting, .instanceMethod yX7_setting, .selects RX7 yX7_setting yX7_setting, .initialized RX7, .code yX7_setting cX7_setting 2 (some .int), .methodLink RX7 76 yX7_capacity, .instanceMethod yX7_capacity, .selects RX7 yX7_capacity yX7_capacity, .code yX7_capacity cX7_capacity 1 (some .int)] ++ wsX70)
def wsX7_drains : List Cond := .code yX7_drains cX7_drains 2 none :: ([.fieldLink RX7 7 "BatteryCachesModel" "all" "[I"] ++ wsX70)
def wsX7_learnsOn : List Cond := .code yX7_learnsOn cX7_learnsOn 1 none :: ([.fieldLink RX7 7 "BatteryCachesModel" "all" "[I", .methodLink RX7 43 yX7_setting, .instanceMethod yX7_setting, .selects RX7 yX7_setting yX7_setting, .initialized RX7, .code yX7_setting cX7_setting 2 (some .int), .methodLink RX7 79 yX7_drains, .instanceMethod yX7_drains, .selects RX7 yX7_drains yX7_drains, .code yX7_drains cX7_drains 2 none, .methodLink RX7 82 yX7_charges, .instanceMethod yX7_charges, .selects RX7 yX7_charges yX7_charges, .code yX7_charges cX7_charges 2 none, .methodLink RX7 76 yX7_capacity, .instanceMethod yX7_capacity, .selects RX7 yX7_capacity yX7_capacity, .code yX7_capacity cX7_capacity 1 (some .int), .methodLink RX7 35 yX7_counts, .instanceMethod yX7_counts, .selects RX7 yX7_counts yX7_counts, .code yX7_counts cX7_counts 2 none] ++ wsX70)
def wsX7_ticksOn_r1 : List Cond := [Cond.fieldLink RX7 7 "BatteryCachesModel" "all" "[I", Cond.methodLink RX7 35 yX7_counts, Cond.instanceMethod yX7_counts, Cond.selects RX7 yX7_counts yX7_counts, Cond.initialized RX7, Cond.code yX7_counts cX7_counts 2 none, Cond.methodLink RX7 85 yX7_learnsOn, Cond.instanceMethod yX7_learnsOn, Cond.selects RX7 yX7_learnsOn yX7_learnsOn, Cond.code yX7_learnsOn cX7_learnsOn 1 none, Cond.methodLink RX7 43 yX7_setting, Cond.instanceMethod yX7_setting, Cond.selects RX7 yX7_setting yX7_setting, Cond.code yX7_setting cX7_setting 2 (some .int), Cond.methodLink RX7 79 yX7_drains, Cond.instanceMethod yX7_drains, Cond.selects RX7 yX7_drains yX7_drains, Cond.code yX7_drains cX7_drains 2 none, Cond.methodLink RX7 82 yX7_charges, Cond.instanceMethod yX7_charges, Cond.selects RX7 yX7_charges yX7_charges, Cond.code yX7_charges cX7_charges 2 none, Cond.methodLink RX7 76 yX7_capacity, Cond.instanceMethod yX7_capacity]
def wsX7_ticksOn_r2 : List Cond := [Cond.selects RX7 yX7_capacity yX7_capacity, Cond.code yX7_capacity cX7_capacity 1 (some .int), Cond.methodLink RX7 88 yX7_flushesToo, Cond.instanceMethod yX7_flushesToo, Cond.selects RX7 yX7_flushesToo yX7_flushesToo, Cond.code yX7_flushesToo cX7_flushesToo 2 (some .int), Cond.methodLink RX7 47 yX7_many, Cond.instanceMethod yX7_many, Cond.selects RX7 yX7_many yX7_many, Cond.code yX7_many cX7_many 4 (some .int), Cond.methodLink RX7 50 yX7_allowance, Cond.instanceMethod yX7_allowance, Cond.selects RX7 yX7_allowance yX7_allowance, Cond.code yX7_allowance cX7_allowance 2 (some .int), Cond.methodLink RX7 54 yX7_oldest, Cond.instanceMethod yX7_oldest, Cond.selects RX7 yX7_oldest yX7_oldest, Cond.code yX7_oldest cX7_oldest 4 (some .int), Cond.methodLink RX7 57 yX7_flushes, Cond.instanceMethod yX7_flushes, Cond.selects RX7 yX7_flushes yX7_flushes, Cond.code yX7_flushes cX7_flushes 2 none, Cond.methodLink RX7 39 yX7_lays, Cond.instanceMethod yX7_lays]
def wsX7_ticksOn_r3 : List Cond := [Cond.selects RX7 yX7_lays yX7_lays, Cond.code yX7_lays cX7_lays 3 none]
def wsX7_ticksOn : List Cond := .code yX7_ticksOn cX7_ticksOn 1 (some .int) :: ((wsX7_ticksOn_r1 ++ (wsX7_ticksOn_r2 ++ wsX7_ticksOn_r3)) ++ wsX70)
def wsX7_doTick_r1 : List Cond := [Cond.constantLong RX7 91 (99), Cond.constant RX7 73 (-1000001), Cond.methodLink RX7 29 yX7_in, Cond.static yX7_in, Cond.initialized RX7, Cond.code yX7_in cX7_in 6 (some .boolean), Cond.methodLink RX7 93 yX7_ticksOn, Cond.instanceMethod yX7_ticksOn, Cond.selects RX7 yX7_ticksOn yX7_ticksOn, Cond.code yX7_ticksOn cX7_ticksOn 1 (some .int), Cond.fieldLink RX7 7 "BatteryCachesModel" "all" "[I", Cond.methodLink RX7 35 yX7_counts, Cond.instanceMethod yX7_counts, Cond.selects RX7 yX7_counts yX7_counts, Cond.code yX7_counts cX7_counts 2 none, Cond.methodLink RX7 85 yX7_learnsOn, Cond.instanceMethod yX7_learnsOn, Cond.selects RX7 yX7_learnsOn yX7_learnsOn, Cond.code yX7_learnsOn cX7_learnsOn 1 none, Cond.methodLink RX7 43 yX7_setting, Cond.instanceMethod yX7_setting, Cond.selects RX7 yX7_setting yX7_setting, Cond.code yX7_setting cX7_setting 2 (some .int), Cond.methodLink RX7 79 yX7_drains]
def wsX7_doTick_r2 : List Cond := [Cond.instanceMethod yX7_drains, Cond.selects RX7 yX7_drains yX7_drains, Cond.code yX7_drains cX7_drains 2 none, Cond.methodLink RX7 82 yX7_charges, Cond.instanceMethod yX7_charges, Cond.selects RX7 yX7_charges yX7_charges, Cond.code yX7_charges cX7_charges 2 none, Cond.methodLink RX7 76 yX7_capacity, Cond.instanceMethod yX7_capacity, Cond.selects RX7 yX7_capacity yX7_capacity, Cond.code yX7_capacity cX7_capacity 1 (some .int), Cond.methodLink RX7 88 yX7_flushesToo, Cond.instanceMethod yX7_flushesToo, Cond.selects RX7 yX7_flushesToo yX7_flushesToo, Cond.code yX7_flushesToo cX7_flushesToo 2 (some .int), Cond.methodLink RX7 47 yX7_many, Cond.instanceMethod yX7_many, Cond.selects RX7 yX7_many yX7_many, Cond.code yX7_many cX7_many 4 (some .int), Cond.methodLink RX7 50 yX7_allowance, Cond.instanceMethod yX7_allowance, Cond.selects RX7 yX7_allowance yX7_allowance, Cond.code yX7_allowance cX7_allowance 2 (some .int), Cond.methodLink RX7 54 yX7_oldest]
def wsX7_doTick_r3 : List Cond := [Cond.instanceMethod yX7_oldest, Cond.selects RX7 yX7_oldest yX7_oldest, Cond.code yX7_oldest cX7_oldest 4 (some .int), Cond.methodLink RX7 57 yX7_flushes, Cond.instanceMethod yX7_flushes, Cond.selects RX7 yX7_flushes yX7_flushes, Cond.code yX7_flushes cX7_flushes 2 none, Cond.methodLink RX7 39 yX7_lays, Cond.instanceMethod yX7_lays, Cond.selects RX7 yX7_lays yX7_lays, Cond.code yX7_lays cX7_lays 3 none]
def wsX7_doTick : List Cond := .code yX7_doTick cX7_doTick 4 (some .int) :: ((wsX7_doTick_r1 ++ (wsX7_doTick_r2 ++ wsX7_doTick_r3)) ++ wsX70)
def wsX7_doLoad_r1 : List Cond := [Cond.constantLong RX7 74 (999), Cond.constant RX7 73 (-1000001), Cond.methodLink RX7 29 yX7_in, Cond.static yX7_in, Cond.initialized RX7, Cond.code yX7_in cX7_in 6 (some .boolean), Cond.methodLink RX7 79 yX7_drains, Cond.instanceMethod yX7_drains, Cond.selects RX7 yX7_drains yX7_drains, Cond.code yX7_drains cX7_drains 2 none, Cond.fieldLink RX7 7 "BatteryCachesModel" "all" "[I", Cond.methodLink RX7 88 yX7_flushesToo, Cond.instanceMethod yX7_flushesToo, Cond.selects RX7 yX7_flushesToo yX7_flushesToo, Cond.code yX7_flushesToo cX7_flushesToo 2 (some .int), Cond.methodLink RX7 47 yX7_many, Cond.instanceMethod yX7_many, Cond.selects RX7 yX7_many yX7_many, Cond.code yX7_many cX7_many 4 (some .int), Cond.methodLink RX7 50 yX7_allowance, Cond.instanceMethod yX7_allowance, Cond.selects RX7 yX7_allowance yX7_allowance, Cond.code yX7_allowance cX7_allowance 2 (some .int), Cond.methodLink RX7 43 yX7_setting]
def wsX7_doLoad_r2 : List Cond := [Cond.instanceMethod yX7_setting, Cond.selects RX7 yX7_setting yX7_setting, Cond.code yX7_setting cX7_setting 2 (some .int), Cond.methodLink RX7 54 yX7_oldest, Cond.instanceMethod yX7_oldest, Cond.selects RX7 yX7_oldest yX7_oldest, Cond.code yX7_oldest cX7_oldest 4 (some .int), Cond.methodLink RX7 57 yX7_flushes, Cond.instanceMethod yX7_flushes, Cond.selects RX7 yX7_flushes yX7_flushes, Cond.code yX7_flushes cX7_flushes 2 none, Cond.methodLink RX7 39 yX7_lays, Cond.instanceMethod yX7_lays, Cond.selects RX7 yX7_lays yX7_lays, Cond.code yX7_lays cX7_lays 3 none, Cond.methodLink RX7 35 yX7_counts, Cond.instanceMethod yX7_counts, Cond.selects RX7 yX7_counts yX7_counts, Cond.code yX7_counts cX7_counts 2 none]
def wsX7_doLoad : List Cond := .code yX7_doLoad cX7_doLoad 2 (some .int) :: ((wsX7_doLoad_r1 ++ wsX7_doLoad_r2) ++ wsX70)
def wsX7_doLearn_r1 : List Cond := [Cond.fieldLink RX7 7 "BatteryCachesModel" "all" "[I", Cond.constant RX7 96 (-1000002), Cond.methodLink RX7 88 yX7_flushesToo, Cond.instanceMethod yX7_flushesToo, Cond.selects RX7 yX7_flushesToo yX7_flushesToo, Cond.initialized RX7, Cond.code yX7_flushesToo cX7_flushesToo 2 (some .int), Cond.methodLink RX7 47 yX7_many, Cond.instanceMethod yX7_many, Cond.selects RX7 yX7_many yX7_many, Cond.code yX7_many cX7_many 4 (some .int), Cond.methodLink RX7 50 yX7_allowance, Cond.instanceMethod yX7_allowance, Cond.selects RX7 yX7_allowance yX7_allowance, Cond.code yX7_allowance cX7_allowance 2 (some .int), Cond.methodLink RX7 43 yX7_setting, Cond.instanceMethod yX7_setting, Cond.selects RX7 yX7_setting yX7_setting, Cond.code yX7_setting cX7_setting 2 (some .int), Cond.methodLink RX7 54 yX7_oldest, Cond.instanceMethod yX7_oldest, Cond.selects RX7 yX7_oldest yX7_oldest, Cond.code yX7_oldest cX7_oldest 4 (some .int), Cond.methodLink RX7 57 yX7_flushes]
def wsX7_doLearn_r2 : List Cond := [Cond.instanceMethod yX7_flushes, Cond.selects RX7 yX7_flushes yX7_flushes, Cond.code yX7_flushes cX7_flushes 2 none, Cond.methodLink RX7 39 yX7_lays, Cond.instanceMethod yX7_lays, Cond.selects RX7 yX7_lays yX7_lays, Cond.code yX7_lays cX7_lays 3 none, Cond.methodLink RX7 35 yX7_counts, Cond.instanceMethod yX7_counts, Cond.selects RX7 yX7_counts yX7_counts, Cond.code yX7_counts cX7_counts 2 none]
def wsX7_doLearn : List Cond := .code yX7_doLearn cX7_doLearn 1 (some .int) :: ((wsX7_doLearn_r1 ++ wsX7_doLearn_r2) ++ wsX70)
def wsX7_doCut_r1 : List Cond := [Cond.fieldLink RX7 7 "BatteryCachesModel" "all" "[I", Cond.methodLink RX7 43 yX7_setting, Cond.instanceMethod yX7_setting, Cond.selects RX7 yX7_setting yX7_setting, Cond.initialized RX7, Cond.code yX7_setting cX7_setting 2 (some .int), Cond.methodLink RX7 47 yX7_many, Cond.instanceMethod yX7_many, Cond.selects RX7 yX7_many yX7_many, Cond.code yX7_many cX7_many 4 (some .int), Cond.methodLink RX7 54 yX7_oldest, Cond.instanceMethod yX7_oldest, Cond.selects RX7 yX7_oldest yX7_oldest, Cond.code yX7_oldest cX7_oldest 4 (some .int), Cond.methodLink RX7 57 yX7_flushes, Cond.instanceMethod yX7_flushes, Cond.selects RX7 yX7_flushes yX7_flushes, Cond.code yX7_flushes cX7_flushes 2 none, Cond.methodLink RX7 39 yX7_lays, Cond.instanceMethod yX7_lays, Cond.selects RX7 yX7_lays yX7_lays, Cond.code yX7_lays cX7_lays 3 none, Cond.methodLink RX7 35 yX7_counts, Cond.instanceMethod yX7_counts]
def wsX7_doCut_r2 : List Cond := [Cond.selects RX7 yX7_counts yX7_counts, Cond.code yX7_counts cX7_counts 2 none]
def wsX7_doCut : List Cond := .code yX7_doCut cX7_doCut 3 (some .int) :: ((wsX7_doCut_r1 ++ wsX7_doCut_r2) ++ wsX70)
def wsX7_doFlush_r1 : List Cond := [Cond.constant RX7 73 (-1000001), Cond.fieldLink RX7 7 "BatteryCachesModel" "all" "[I", Cond.constant RX7 96 (-1000002), Cond.methodLink RX7 97 yX7_isLine, Cond.static yX7_isLine, Cond.initialized RX7, Cond.code yX7_isLine cX7_isLine 1 (some .boolean), Cond.constantLong RX7 33 (7), Cond.methodLink RX7 29 yX7_in, Cond.static yX7_in, Cond.code yX7_in cX7_in 6 (some .boolean), Cond.methodLink RX7 57 yX7_flushes, Cond.instanceMethod yX7_flushes, Cond.selects RX7 yX7_flushes yX7_flushes, Cond.code yX7_flushes cX7_flushes 2 none, Cond.methodLink RX7 39 yX7_lays, Cond.instanceMethod yX7_lays, Cond.selects RX7 yX7_lays yX7_lays, Cond.code yX7_lays cX7_lays 3 none, Cond.methodLink RX7 35 yX7_counts, Cond.instanceMethod yX7_counts, Cond.selects RX7 yX7_counts yX7_counts, Cond.code yX7_counts cX7_counts 2 none, Cond.methodLink RX7 47 yX7_many]
def wsX7_doFlush_r2 : List Cond := [Cond.instanceMethod yX7_many, Cond.selects RX7 yX7_many yX7_many, Cond.code yX7_many cX7_many 4 (some .int)]
def wsX7_doFlush : List Cond := .code yX7_doFlush cX7_doFlush 2 (some .int) :: ((wsX7_doFlush_r1 ++ wsX7_doFlush_r2) ++ wsX70)
def wsX7_doSet : List Cond := .code yX7_doSet cX7_doSet 5 (some .int) :: ([.constantLong RX7 100 (500), .constantLong RX7 102 (200), .constant RX7 73 (-1000001), .fieldLink RX7 7 "BatteryCachesModel" "all" "[I", .methodLink RX7 29 yX7_in, .static yX7_in, .initialized RX7, .code yX7_in cX7_in 6 (some .boolean)] ++ wsX70)
def wsX7_read_r1 : List Cond := [Cond.methodLink RX7 104 yX7_keep, Cond.instanceMethod yX7_keep, Cond.selects RX7 yX7_keep yX7_keep, Cond.initialized RX7, Cond.code yX7_keep cX7_keep 2 none, Cond.fieldLink RX7 13 "BatteryCachesModel" "kept" "[I", Cond.fieldLink RX7 7 "BatteryCachesModel" "all" "[I", Cond.methodLink RX7 107 yX7_doRead, Cond.instanceMethod yX7_doRead, Cond.selects RX7 yX7_doRead yX7_doRead, Cond.code yX7_doRead cX7_doRead 2 (some .int), Cond.constant RX7 73 (-1000001), Cond.methodLink RX7 66 yX7_isPlace, Cond.static yX7_isPlace, Cond.code yX7_isPlace cX7_isPlace 1 (some .boolean), Cond.constantLong RX7 27 (63), Cond.methodLink RX7 29 yX7_in, Cond.static yX7_in, Cond.code yX7_in cX7_in 6 (some .boolean), Cond.methodLink RX7 70 yX7_touches, Cond.instanceMethod yX7_touches, Cond.selects RX7 yX7_touches yX7_touches, Cond.code yX7_touches cX7_touches 3 (some .int), Cond.methodLink RX7 60 yX7_holder]
def wsX7_read_r2 : List Cond := [Cond.instanceMethod yX7_holder, Cond.selects RX7 yX7_holder yX7_holder, Cond.code yX7_holder cX7_holder 3 (some .int), Cond.methodLink RX7 35 yX7_counts, Cond.instanceMethod yX7_counts, Cond.selects RX7 yX7_counts yX7_counts, Cond.code yX7_counts cX7_counts 2 none, Cond.methodLink RX7 54 yX7_oldest, Cond.instanceMethod yX7_oldest, Cond.selects RX7 yX7_oldest yX7_oldest, Cond.code yX7_oldest cX7_oldest 4 (some .int), Cond.methodLink RX7 57 yX7_flushes, Cond.instanceMethod yX7_flushes, Cond.selects RX7 yX7_flushes yX7_flushes, Cond.code yX7_flushes cX7_flushes 2 none, Cond.methodLink RX7 39 yX7_lays, Cond.instanceMethod yX7_lays, Cond.selects RX7 yX7_lays yX7_lays, Cond.code yX7_lays cX7_lays 3 none, Cond.methodLink RX7 63 yX7_turns, Cond.instanceMethod yX7_turns, Cond.selects RX7 yX7_turns yX7_turns, Cond.code yX7_turns cX7_turns 2 none, Cond.methodLink RX7 110 yX7_changed]
def wsX7_read_r3 : List Cond := [Cond.instanceMethod yX7_changed, Cond.selects RX7 yX7_changed yX7_changed, Cond.code yX7_changed cX7_changed 3 (some .int), Cond.constant RX7 22 (-1000000), Cond.fieldLink RX7 23 "BatteryCachesModel" "historyLong" "I", Cond.fieldLink RX7 16 "BatteryCachesModel" "history" "[I"]
def wsX7_read : List Cond := .code yX7_read cX7_read 2 (some .int) :: ((wsX7_read_r1 ++ (wsX7_read_r2 ++ wsX7_read_r3)) ++ wsX70)
def wsX7_write_r1 : List Cond := [Cond.methodLink RX7 104 yX7_keep, Cond.instanceMethod yX7_keep, Cond.selects RX7 yX7_keep yX7_keep, Cond.initialized RX7, Cond.code yX7_keep cX7_keep 2 none, Cond.fieldLink RX7 13 "BatteryCachesModel" "kept" "[I", Cond.fieldLink RX7 7 "BatteryCachesModel" "all" "[I", Cond.methodLink RX7 113 yX7_doWrite, Cond.instanceMethod yX7_doWrite, Cond.selects RX7 yX7_doWrite yX7_doWrite, Cond.code yX7_doWrite cX7_doWrite 4 (some .int), Cond.constantLong RX7 74 (999), Cond.constant RX7 73 (-1000001), Cond.methodLink RX7 66 yX7_isPlace, Cond.static yX7_isPlace, Cond.code yX7_isPlace cX7_isPlace 1 (some .boolean), Cond.constantLong RX7 27 (63), Cond.methodLink RX7 29 yX7_in, Cond.static yX7_in, Cond.code yX7_in cX7_in 6 (some .boolean), Cond.methodLink RX7 70 yX7_touches, Cond.instanceMethod yX7_touches, Cond.selects RX7 yX7_touches yX7_touches, Cond.code yX7_touches cX7_touches 3 (some .int)]
def wsX7_write_r2 : List Cond := [Cond.methodLink RX7 60 yX7_holder, Cond.instanceMethod yX7_holder, Cond.selects RX7 yX7_holder yX7_holder, Cond.code yX7_holder cX7_holder 3 (some .int), Cond.methodLink RX7 35 yX7_counts, Cond.instanceMethod yX7_counts, Cond.selects RX7 yX7_counts yX7_counts, Cond.code yX7_counts cX7_counts 2 none, Cond.methodLink RX7 54 yX7_oldest, Cond.instanceMethod yX7_oldest, Cond.selects RX7 yX7_oldest yX7_oldest, Cond.code yX7_oldest cX7_oldest 4 (some .int), Cond.methodLink RX7 57 yX7_flushes, Cond.instanceMethod yX7_flushes, Cond.selects RX7 yX7_flushes yX7_flushes, Cond.code yX7_flushes cX7_flushes 2 none, Cond.methodLink RX7 39 yX7_lays, Cond.instanceMethod yX7_lays, Cond.selects RX7 yX7_lays yX7_lays, Cond.code yX7_lays cX7_lays 3 none, Cond.methodLink RX7 63 yX7_turns, Cond.instanceMethod yX7_turns, Cond.selects RX7 yX7_turns yX7_turns, Cond.code yX7_turns cX7_turns 2 none]
def wsX7_write_r3 : List Cond := [Cond.methodLink RX7 47 yX7_many, Cond.instanceMethod yX7_many, Cond.selects RX7 yX7_many yX7_many, Cond.code yX7_many cX7_many 4 (some .int), Cond.methodLink RX7 50 yX7_allowance, Cond.instanceMethod yX7_allowance, Cond.selects RX7 yX7_allowance yX7_allowance, Cond.code yX7_allowance cX7_allowance 2 (some .int), Cond.methodLink RX7 43 yX7_setting, Cond.instanceMethod yX7_setting, Cond.selects RX7 yX7_setting yX7_setting, Cond.code yX7_setting cX7_setting 2 (some .int), Cond.methodLink RX7 110 yX7_changed, Cond.instanceMethod yX7_changed, Cond.selects RX7 yX7_changed yX7_changed, Cond.code yX7_changed cX7_changed 3 (some .int), Cond.constant RX7 22 (-1000000), Cond.fieldLink RX7 23 "BatteryCachesModel" "historyLong" "I", Cond.fieldLink RX7 16 "BatteryCachesModel" "history" "[I"]
def wsX7_write : List Cond := .code yX7_write cX7_write 3 (some .int) :: ((wsX7_write_r1 ++ (wsX7_write_r2 ++ wsX7_write_r3)) ++ wsX70)
def wsX7_flush_r1 : List Cond := [Cond.methodLink RX7 104 yX7_keep, Cond.instanceMethod yX7_keep, Cond.selects RX7 yX7_keep yX7_keep, Cond.initialized RX7, Cond.code yX7_keep cX7_keep 2 none, Cond.fieldLink RX7 13 "BatteryCachesModel" "kept" "[I", Cond.fieldLink RX7 7 "BatteryCachesModel" "all" "[I", Cond.methodLink RX7 117 yX7_doFlush, Cond.instanceMethod yX7_doFlush, Cond.selects RX7 yX7_doFlush yX7_doFlush, Cond.code yX7_doFlush cX7_doFlush 2 (some .int), Cond.constant RX7 73 (-1000001), Cond.constant RX7 96 (-1000002), Cond.methodLink RX7 97 yX7_isLine, Cond.static yX7_isLine, Cond.code yX7_isLine cX7_isLine 1 (some .boolean), Cond.constantLong RX7 33 (7), Cond.methodLink RX7 29 yX7_in, Cond.static yX7_in, Cond.code yX7_in cX7_in 6 (some .boolean), Cond.methodLink RX7 57 yX7_flushes, Cond.instanceMethod yX7_flushes, Cond.selects RX7 yX7_flushes yX7_flushes, Cond.code yX7_flushes cX7_flushes 2 none]
def wsX7_flush_r2 : List Cond := [Cond.methodLink RX7 39 yX7_lays, Cond.instanceMethod yX7_lays, Cond.selects RX7 yX7_lays yX7_lays, Cond.code yX7_lays cX7_lays 3 none, Cond.methodLink RX7 35 yX7_counts, Cond.instanceMethod yX7_counts, Cond.selects RX7 yX7_counts yX7_counts, Cond.code yX7_counts cX7_counts 2 none, Cond.methodLink RX7 47 yX7_many, Cond.instanceMethod yX7_many, Cond.selects RX7 yX7_many yX7_many, Cond.code yX7_many cX7_many 4 (some .int), Cond.methodLink RX7 110 yX7_changed, Cond.instanceMethod yX7_changed, Cond.selects RX7 yX7_changed yX7_changed, Cond.code yX7_changed cX7_changed 3 (some .int), Cond.constant RX7 22 (-1000000), Cond.fieldLink RX7 23 "BatteryCachesModel" "historyLong" "I", Cond.fieldLink RX7 16 "BatteryCachesModel" "history" "[I"]
def wsX7_flush : List Cond := .code yX7_flush cX7_flush 2 (some .int) :: ((wsX7_flush_r1 ++ wsX7_flush_r2) ++ wsX70)
def wsX7_tick_r1 : List Cond := [Cond.methodLink RX7 104 yX7_keep, Cond.instanceMethod yX7_keep, Cond.selects RX7 yX7_keep yX7_keep, Cond.initialized RX7, Cond.code yX7_keep cX7_keep 2 none, Cond.fieldLink RX7 13 "BatteryCachesModel" "kept" "[I", Cond.fieldLink RX7 7 "BatteryCachesModel" "all" "[I", Cond.methodLink RX7 120 yX7_doTick, Cond.instanceMethod yX7_doTick, Cond.selects RX7 yX7_doTick yX7_doTick, Cond.code yX7_doTick cX7_doTick 4 (some .int), Cond.constantLong RX7 91 (99), Cond.constant RX7 73 (-1000001), Cond.methodLink RX7 29 yX7_in, Cond.static yX7_in, Cond.code yX7_in cX7_in 6 (some .boolean), Cond.methodLink RX7 93 yX7_ticksOn, Cond.instanceMethod yX7_ticksOn, Cond.selects RX7 yX7_ticksOn yX7_ticksOn, Cond.code yX7_ticksOn cX7_ticksOn 1 (some .int), Cond.methodLink RX7 35 yX7_counts, Cond.instanceMethod yX7_counts, Cond.selects RX7 yX7_counts yX7_counts, Cond.code yX7_counts cX7_counts 2 none]
def wsX7_tick_r2 : List Cond := [Cond.methodLink RX7 85 yX7_learnsOn, Cond.instanceMethod yX7_learnsOn, Cond.selects RX7 yX7_learnsOn yX7_learnsOn, Cond.code yX7_learnsOn cX7_learnsOn 1 none, Cond.methodLink RX7 43 yX7_setting, Cond.instanceMethod yX7_setting, Cond.selects RX7 yX7_setting yX7_setting, Cond.code yX7_setting cX7_setting 2 (some .int), Cond.methodLink RX7 79 yX7_drains, Cond.instanceMethod yX7_drains, Cond.selects RX7 yX7_drains yX7_drains, Cond.code yX7_drains cX7_drains 2 none, Cond.methodLink RX7 82 yX7_charges, Cond.instanceMethod yX7_charges, Cond.selects RX7 yX7_charges yX7_charges, Cond.code yX7_charges cX7_charges 2 none, Cond.methodLink RX7 76 yX7_capacity, Cond.instanceMethod yX7_capacity, Cond.selects RX7 yX7_capacity yX7_capacity, Cond.code yX7_capacity cX7_capacity 1 (some .int), Cond.methodLink RX7 88 yX7_flushesToo, Cond.instanceMethod yX7_flushesToo, Cond.selects RX7 yX7_flushesToo yX7_flushesToo, Cond.code yX7_flushesToo cX7_flushesToo 2 (some .int)]
def wsX7_tick_r3 : List Cond := [Cond.methodLink RX7 47 yX7_many, Cond.instanceMethod yX7_many, Cond.selects RX7 yX7_many yX7_many, Cond.code yX7_many cX7_many 4 (some .int), Cond.methodLink RX7 50 yX7_allowance, Cond.instanceMethod yX7_allowance, Cond.selects RX7 yX7_allowance yX7_allowance, Cond.code yX7_allowance cX7_allowance 2 (some .int), Cond.methodLink RX7 54 yX7_oldest, Cond.instanceMethod yX7_oldest, Cond.selects RX7 yX7_oldest yX7_oldest, Cond.code yX7_oldest cX7_oldest 4 (some .int), Cond.methodLink RX7 57 yX7_flushes, Cond.instanceMethod yX7_flushes, Cond.selects RX7 yX7_flushes yX7_flushes, Cond.code yX7_flushes cX7_flushes 2 none, Cond.methodLink RX7 39 yX7_lays, Cond.instanceMethod yX7_lays, Cond.selects RX7 yX7_lays yX7_lays, Cond.code yX7_lays cX7_lays 3 none, Cond.methodLink RX7 110 yX7_changed, Cond.instanceMethod yX7_changed, Cond.selects RX7 yX7_changed yX7_changed, Cond.code yX7_changed cX7_changed 3 (some .int)]
def wsX7_tick_r4 : List Cond := [Cond.constant RX7 22 (-1000000), Cond.fieldLink RX7 23 "BatteryCachesModel" "historyLong" "I", Cond.fieldLink RX7 16 "BatteryCachesModel" "history" "[I"]
def wsX7_tick : List Cond := .code yX7_tick cX7_tick 2 (some .int) :: ((wsX7_tick_r1 ++ (wsX7_tick_r2 ++ (wsX7_tick_r3 ++ wsX7_tick_r4))) ++ wsX70)
def wsX7_load_r1 : List Cond := [Cond.methodLink RX7 104 yX7_keep, Cond.instanceMethod yX7_keep, Cond.selects RX7 yX7_keep yX7_keep, Cond.initialized RX7, Cond.code yX7_keep cX7_keep 2 none, Cond.fieldLink RX7 13 "BatteryCachesModel" "kept" "[I", Cond.fieldLink RX7 7 "BatteryCachesModel" "all" "[I", Cond.methodLink RX7 123 yX7_doLoad, Cond.instanceMethod yX7_doLoad, Cond.selects RX7 yX7_doLoad yX7_doLoad, Cond.code yX7_doLoad cX7_doLoad 2 (some .int), Cond.constantLong RX7 74 (999), Cond.constant RX7 73 (-1000001), Cond.methodLink RX7 29 yX7_in, Cond.static yX7_in, Cond.code yX7_in cX7_in 6 (some .boolean), Cond.methodLink RX7 79 yX7_drains, Cond.instanceMethod yX7_drains, Cond.selects RX7 yX7_drains yX7_drains, Cond.code yX7_drains cX7_drains 2 none, Cond.methodLink RX7 88 yX7_flushesToo, Cond.instanceMethod yX7_flushesToo, Cond.selects RX7 yX7_flushesToo yX7_flushesToo, Cond.code yX7_flushesToo cX7_flushesToo 2 (some .int)]
def wsX7_load_r2 : List Cond := [Cond.methodLink RX7 47 yX7_many, Cond.instanceMethod yX7_many, Cond.selects RX7 yX7_many yX7_many, Cond.code yX7_many cX7_many 4 (some .int), Cond.methodLink RX7 50 yX7_allowance, Cond.instanceMethod yX7_allowance, Cond.selects RX7 yX7_allowance yX7_allowance, Cond.code yX7_allowance cX7_allowance 2 (some .int), Cond.methodLink RX7 43 yX7_setting, Cond.instanceMethod yX7_setting, Cond.selects RX7 yX7_setting yX7_setting, Cond.code yX7_setting cX7_setting 2 (some .int), Cond.methodLink RX7 54 yX7_oldest, Cond.instanceMethod yX7_oldest, Cond.selects RX7 yX7_oldest yX7_oldest, Cond.code yX7_oldest cX7_oldest 4 (some .int), Cond.methodLink RX7 57 yX7_flushes, Cond.instanceMethod yX7_flushes, Cond.selects RX7 yX7_flushes yX7_flushes, Cond.code yX7_flushes cX7_flushes 2 none, Cond.methodLink RX7 39 yX7_lays, Cond.instanceMethod yX7_lays, Cond.selects RX7 yX7_lays yX7_lays, Cond.code yX7_lays cX7_lays 3 none]
def wsX7_load_r3 : List Cond := [Cond.methodLink RX7 35 yX7_counts, Cond.instanceMethod yX7_counts, Cond.selects RX7 yX7_counts yX7_counts, Cond.code yX7_counts cX7_counts 2 none, Cond.methodLink RX7 110 yX7_changed, Cond.instanceMethod yX7_changed, Cond.selects RX7 yX7_changed yX7_changed, Cond.code yX7_changed cX7_changed 3 (some .int), Cond.constant RX7 22 (-1000000), Cond.fieldLink RX7 23 "BatteryCachesModel" "historyLong" "I", Cond.fieldLink RX7 16 "BatteryCachesModel" "history" "[I"]
def wsX7_load : List Cond := .code yX7_load cX7_load 2 (some .int) :: ((wsX7_load_r1 ++ (wsX7_load_r2 ++ wsX7_load_r3)) ++ wsX70)
def wsX7_learn_r1 : List Cond := [Cond.methodLink RX7 104 yX7_keep, Cond.instanceMethod yX7_keep, Cond.selects RX7 yX7_keep yX7_keep, Cond.initialized RX7, Cond.code yX7_keep cX7_keep 2 none, Cond.fieldLink RX7 13 "BatteryCachesModel" "kept" "[I", Cond.fieldLink RX7 7 "BatteryCachesModel" "all" "[I", Cond.methodLink RX7 126 yX7_doLearn, Cond.instanceMethod yX7_doLearn, Cond.selects RX7 yX7_doLearn yX7_doLearn, Cond.code yX7_doLearn cX7_doLearn 1 (some .int), Cond.constant RX7 96 (-1000002), Cond.methodLink RX7 88 yX7_flushesToo, Cond.instanceMethod yX7_flushesToo, Cond.selects RX7 yX7_flushesToo yX7_flushesToo, Cond.code yX7_flushesToo cX7_flushesToo 2 (some .int), Cond.methodLink RX7 47 yX7_many, Cond.instanceMethod yX7_many, Cond.selects RX7 yX7_many yX7_many, Cond.code yX7_many cX7_many 4 (some .int), Cond.methodLink RX7 50 yX7_allowance, Cond.instanceMethod yX7_allowance, Cond.selects RX7 yX7_allowance yX7_allowance, Cond.code yX7_allowance cX7_allowance 2 (some .int)]
def wsX7_learn_r2 : List Cond := [Cond.methodLink RX7 43 yX7_setting, Cond.instanceMethod yX7_setting, Cond.selects RX7 yX7_setting yX7_setting, Cond.code yX7_setting cX7_setting 2 (some .int), Cond.methodLink RX7 54 yX7_oldest, Cond.instanceMethod yX7_oldest, Cond.selects RX7 yX7_oldest yX7_oldest, Cond.code yX7_oldest cX7_oldest 4 (some .int), Cond.methodLink RX7 57 yX7_flushes, Cond.instanceMethod yX7_flushes, Cond.selects RX7 yX7_flushes yX7_flushes, Cond.code yX7_flushes cX7_flushes 2 none, Cond.methodLink RX7 39 yX7_lays, Cond.instanceMethod yX7_lays, Cond.selects RX7 yX7_lays yX7_lays, Cond.code yX7_lays cX7_lays 3 none, Cond.methodLink RX7 35 yX7_counts, Cond.instanceMethod yX7_counts, Cond.selects RX7 yX7_counts yX7_counts, Cond.code yX7_counts cX7_counts 2 none, Cond.methodLink RX7 110 yX7_changed, Cond.instanceMethod yX7_changed, Cond.selects RX7 yX7_changed yX7_changed, Cond.code yX7_changed cX7_changed 3 (some .int)]
def wsX7_learn_r3 : List Cond := [Cond.constant RX7 22 (-1000000), Cond.fieldLink RX7 23 "BatteryCachesModel" "historyLong" "I", Cond.fieldLink RX7 16 "BatteryCachesModel" "history" "[I"]
def wsX7_learn : List Cond := .code yX7_learn cX7_learn 1 (some .int) :: ((wsX7_learn_r1 ++ (wsX7_learn_r2 ++ wsX7_learn_r3)) ++ wsX70)
def wsX7_cut_r1 : List Cond := [Cond.methodLink RX7 104 yX7_keep, Cond.instanceMethod yX7_keep, Cond.selects RX7 yX7_keep yX7_keep, Cond.initialized RX7, Cond.code yX7_keep cX7_keep 2 none, Cond.fieldLink RX7 13 "BatteryCachesModel" "kept" "[I", Cond.fieldLink RX7 7 "BatteryCachesModel" "all" "[I", Cond.methodLink RX7 129 yX7_doCut, Cond.instanceMethod yX7_doCut, Cond.selects RX7 yX7_doCut yX7_doCut, Cond.code yX7_doCut cX7_doCut 3 (some .int), Cond.methodLink RX7 43 yX7_setting, Cond.instanceMethod yX7_setting, Cond.selects RX7 yX7_setting yX7_setting, Cond.code yX7_setting cX7_setting 2 (some .int), Cond.methodLink RX7 47 yX7_many, Cond.instanceMethod yX7_many, Cond.selects RX7 yX7_many yX7_many, Cond.code yX7_many cX7_many 4 (some .int), Cond.methodLink RX7 54 yX7_oldest, Cond.instanceMethod yX7_oldest, Cond.selects RX7 yX7_oldest yX7_oldest, Cond.code yX7_oldest cX7_oldest 4 (some .int), Cond.methodLink RX7 57 yX7_flushes]
def wsX7_cut_r2 : List Cond := [Cond.instanceMethod yX7_flushes, Cond.selects RX7 yX7_flushes yX7_flushes, Cond.code yX7_flushes cX7_flushes 2 none, Cond.methodLink RX7 39 yX7_lays, Cond.instanceMethod yX7_lays, Cond.selects RX7 yX7_lays yX7_lays, Cond.code yX7_lays cX7_lays 3 none, Cond.methodLink RX7 35 yX7_counts, Cond.instanceMethod yX7_counts, Cond.selects RX7 yX7_counts yX7_counts, Cond.code yX7_counts cX7_counts 2 none, Cond.methodLink RX7 110 yX7_changed, Cond.instanceMethod yX7_changed, Cond.selects RX7 yX7_changed yX7_changed, Cond.code yX7_changed cX7_changed 3 (some .int), Cond.constant RX7 22 (-1000000), Cond.fieldLink RX7 23 "BatteryCachesModel" "historyLong" "I", Cond.fieldLink RX7 16 "BatteryCachesModel" "history" "[I"]
def wsX7_cut : List Cond := .code yX7_cut cX7_cut 1 (some .int) :: ((wsX7_cut_r1 ++ wsX7_cut_r2) ++ wsX70)
def wsX7_set : List Cond := .code yX7_set cX7_set 3 (some .int) :: ([.methodLink RX7 104 yX7_keep, .instanceMethod yX7_keep, .selects RX7 yX7_keep yX7_keep, .initialized RX7, .code yX7_keep cX7_keep 2 none, .fieldLink RX7 13 "BatteryCachesModel" "kept" "[I", .fieldLink RX7 7 "BatteryCachesModel" "all" "[I", .methodLink RX7 132 yX7_doSet, .instanceMethod yX7_doSet, .selects RX7 yX7_doSet yX7_doSet, .code yX7_doSet cX7_doSet 5 (some .int), .constantLong RX7 100 (500), .constantLong RX7 102 (200), .constant RX7 73 (-1000001), .methodLink RX7 29 yX7_in, .static yX7_in, .code yX7_in cX7_in 6 (some .boolean), .methodLink RX7 110 yX7_changed, .instanceMethod yX7_changed, .selects RX7 yX7_changed yX7_changed, .code yX7_changed cX7_changed 3 (some .int), .constant RX7 22 (-1000000), .fieldLink RX7 23 "BatteryCachesModel" "historyLong" "I", .fieldLink RX7 16 "BatteryCachesModel" "history" "[I"] ++ wsX70)
def wsX7_lowerTurns : List Cond := .code yX7_lowerTurns cX7_lowerTurns 4 (some .int) :: ([.fieldLink RX7 7 "BatteryCachesModel" "all" "[I"] ++ wsX70)
def wsX7_lineOf : List Cond := .code yX7_lineOf cX7_lineOf 3 (some .int) :: ([.constantLong RX7 135 (4), .constant RX7 73 (-1000001), .fieldLink RX7 7 "BatteryCachesModel" "all" "[I", .constant RX7 137 (-1000004), .methodLink RX7 97 yX7_isLine, .static yX7_isLine, .initialized RX7, .code yX7_isLine cX7_isLine 1 (some .boolean), .constantLong RX7 33 (7), .methodLink RX7 29 yX7_in, .static yX7_in, .code yX7_in cX7_in 6 (some .boolean), .methodLink RX7 138 yX7_lowerTurns, .instanceMethod yX7_lowerTurns, .selects RX7 yX7_lowerTurns yX7_lowerTurns, .code yX7_lowerTurns cX7_lowerTurns 4 (some .int)] ++ wsX70)
def wsX7_placeOf : List Cond := .code yX7_placeOf cX7_placeOf 4 (some .int) :: ([.constantLong RX7 141 (3), .constant RX7 73 (-1000001), .fieldLink RX7 7 "BatteryCachesModel" "all" "[I", .constant RX7 137 (-1000004), .methodLink RX7 66 yX7_isPlace, .static yX7_isPlace, .initialized RX7, .code yX7_isPlace cX7_isPlace 1 (some .boolean), .constantLong RX7 27 (63), .methodLink RX7 29 yX7_in, .static yX7_in, .code yX7_in cX7_in 6 (some .boolean), .methodLink RX7 60 yX7_holder, .instanceMethod yX7_holder, .selects RX7 yX7_holder yX7_holder, .code yX7_holder cX7_holder 3 (some .int)] ++ wsX70)
def wsX7_saved : List Cond := .code yX7_saved cX7_saved 2 (some .int) :: ([.fieldLink RX7 7 "BatteryCachesModel" "all" "[I", .methodLink RX7 43 yX7_setting, .instanceMethod yX7_setting, .selects RX7 yX7_setting yX7_setting, .initialized RX7, .code yX7_setting cX7_setting 2 (some .int), .methodLink RX7 47 yX7_many, .instanceMethod yX7_many, .selects RX7 yX7_many yX7_many, .code yX7_many cX7_many 4 (some .int)] ++ wsX70)
def wsX7_battery : List Cond := .code yX7_battery cX7_battery 2 (some .int) :: ([.fieldLink RX7 7 "BatteryCachesModel" "all" "[I", .constant RX7 73 (-1000001), .methodLink RX7 76 yX7_capacity, .instanceMethod yX7_capacity, .selects RX7 yX7_capacity yX7_capacity, .initialized RX7, .code yX7_capacity cX7_capacity 1 (some .int), .methodLink RX7 50 yX7_allowance, .instanceMethod yX7_allowance, .selects RX7 yX7_allowance yX7_allowance, .code yX7_allowance cX7_allowance 2 (some .int), .methodLink RX7 43 yX7_setting, .instanceMethod yX7_setting, .selects RX7 yX7_setting yX7_setting, .code yX7_setting cX7_setting 2 (some .int), .methodLink RX7 143 yX7_saved, .instanceMethod yX7_saved, .selects RX7 yX7_saved yX7_saved, .code yX7_saved cX7_saved 2 (some .int), .methodLink RX7 47 yX7_many, .instanceMethod yX7_many, .selects RX7 yX7_many yX7_many, .code yX7_many cX7_many 4 (some .int)] ++ wsX70)
def wsX7_setOf : List Cond := .code yX7_setOf cX7_setOf 4 (some .int) :: ([.fieldLink RX7 7 "BatteryCachesModel" "all" "[I"] ++ wsX70)
def wsX7_dirtyBefore : List Cond := .code yX7_dirtyBefore cX7_dirtyBefore 4 (some .int) :: ([.fieldLink RX7 7 "BatteryCachesModel" "all" "[I"] ++ wsX70)
def wsX7_losable : List Cond := .code yX7_losable cX7_losable 3 (some .int) :: ([.fieldLink RX7 7 "BatteryCachesModel" "all" "[I", .methodLink RX7 146 yX7_dirtyBefore, .instanceMethod yX7_dirtyBefore, .selects RX7 yX7_dirtyBefore yX7_dirtyBefore, .initialized RX7, .code yX7_dirtyBefore cX7_dirtyBefore 4 (some .int), .methodLink RX7 143 yX7_saved, .instanceMethod yX7_saved, .selects RX7 yX7_saved yX7_saved, .code yX7_saved cX7_saved 2 (some .int), .methodLink RX7 43 yX7_setting, .instanceMethod yX7_setting, .selects RX7 yX7_setting yX7_setting, .code yX7_setting cX7_setting 2 (some .int), .methodLink RX7 47 yX7_many, .instanceMethod yX7_many, .selects RX7 yX7_many yX7_many, .code yX7_many cX7_many 4 (some .int)] ++ wsX70)
def wsX7_lines_r1 : List Cond := [Cond.constantLong RX7 141 (3), Cond.constant RX7 73 (-1000001), Cond.methodLink RX7 29 yX7_in, Cond.static yX7_in, Cond.initialized RX7, Cond.code yX7_in cX7_in 6 (some .boolean), Cond.methodLink RX7 149 yX7_losable, Cond.instanceMethod yX7_losable, Cond.selects RX7 yX7_losable yX7_losable, Cond.code yX7_losable cX7_losable 3 (some .int), Cond.fieldLink RX7 7 "BatteryCachesModel" "all" "[I", Cond.methodLink RX7 146 yX7_dirtyBefore, Cond.instanceMethod yX7_dirtyBefore, Cond.selects RX7 yX7_dirtyBefore yX7_dirtyBefore, Cond.code yX7_dirtyBefore cX7_dirtyBefore 4 (some .int), Cond.methodLink RX7 143 yX7_saved, Cond.instanceMethod yX7_saved, Cond.selects RX7 yX7_saved yX7_saved, Cond.code yX7_saved cX7_saved 2 (some .int), Cond.methodLink RX7 43 yX7_setting, Cond.instanceMethod yX7_setting, Cond.selects RX7 yX7_setting yX7_setting, Cond.code yX7_setting cX7_setting 2 (some .int), Cond.methodLink RX7 47 yX7_many]
def wsX7_lines_r2 : List Cond := [Cond.instanceMethod yX7_many, Cond.selects RX7 yX7_many yX7_many, Cond.code yX7_many cX7_many 4 (some .int), Cond.methodLink RX7 152 yX7_setOf, Cond.instanceMethod yX7_setOf, Cond.selects RX7 yX7_setOf yX7_setOf, Cond.code yX7_setOf cX7_setOf 4 (some .int)]
def wsX7_lines : List Cond := .code yX7_lines cX7_lines 2 (some .int) :: ((wsX7_lines_r1 ++ wsX7_lines_r2) ++ wsX70)
def wsX7_wouldFlush_r1 : List Cond := [Cond.methodLink RX7 104 yX7_keep, Cond.instanceMethod yX7_keep, Cond.selects RX7 yX7_keep yX7_keep, Cond.initialized RX7, Cond.code yX7_keep cX7_keep 2 none, Cond.fieldLink RX7 13 "BatteryCachesModel" "kept" "[I", Cond.fieldLink RX7 7 "BatteryCachesModel" "all" "[I", Cond.methodLink RX7 123 yX7_doLoad, Cond.instanceMethod yX7_doLoad, Cond.selects RX7 yX7_doLoad yX7_doLoad, Cond.code yX7_doLoad cX7_doLoad 2 (some .int), Cond.constantLong RX7 74 (999), Cond.constant RX7 73 (-1000001), Cond.methodLink RX7 29 yX7_in, Cond.static yX7_in, Cond.code yX7_in cX7_in 6 (some .boolean), Cond.methodLink RX7 79 yX7_drains, Cond.instanceMethod yX7_drains, Cond.selects RX7 yX7_drains yX7_drains, Cond.code yX7_drains cX7_drains 2 none, Cond.methodLink RX7 88 yX7_flushesToo, Cond.instanceMethod yX7_flushesToo, Cond.selects RX7 yX7_flushesToo yX7_flushesToo, Cond.code yX7_flushesToo cX7_flushesToo 2 (some .int)]
def wsX7_wouldFlush_r2 : List Cond := [Cond.methodLink RX7 47 yX7_many, Cond.instanceMethod yX7_many, Cond.selects RX7 yX7_many yX7_many, Cond.code yX7_many cX7_many 4 (some .int), Cond.methodLink RX7 50 yX7_allowance, Cond.instanceMethod yX7_allowance, Cond.selects RX7 yX7_allowance yX7_allowance, Cond.code yX7_allowance cX7_allowance 2 (some .int), Cond.methodLink RX7 43 yX7_setting, Cond.instanceMethod yX7_setting, Cond.selects RX7 yX7_setting yX7_setting, Cond.code yX7_setting cX7_setting 2 (some .int), Cond.methodLink RX7 54 yX7_oldest, Cond.instanceMethod yX7_oldest, Cond.selects RX7 yX7_oldest yX7_oldest, Cond.code yX7_oldest cX7_oldest 4 (some .int), Cond.methodLink RX7 57 yX7_flushes, Cond.instanceMethod yX7_flushes, Cond.selects RX7 yX7_flushes yX7_flushes, Cond.code yX7_flushes cX7_flushes 2 none, Cond.methodLink RX7 39 yX7_lays, Cond.instanceMethod yX7_lays, Cond.selects RX7 yX7_lays yX7_lays, Cond.code yX7_lays cX7_lays 3 none]
def wsX7_wouldFlush_r3 : List Cond := [Cond.methodLink RX7 35 yX7_counts, Cond.instanceMethod yX7_counts, Cond.selects RX7 yX7_counts yX7_counts, Cond.code yX7_counts cX7_counts 2 none, Cond.methodLink RX7 155 yX7_giveBack, Cond.instanceMethod yX7_giveBack, Cond.selects RX7 yX7_giveBack yX7_giveBack, Cond.code yX7_giveBack cX7_giveBack 2 none]
def wsX7_wouldFlush : List Cond := .code yX7_wouldFlush cX7_wouldFlush 3 (some .int) :: ((wsX7_wouldFlush_r1 ++ (wsX7_wouldFlush_r2 ++ wsX7_wouldFlush_r3)) ++ wsX70)
def wsX7_critical_r1 : List Cond := [Cond.constant RX7 137 (-1000004), Cond.methodLink RX7 158 yX7_wouldFlush, Cond.instanceMethod yX7_wouldFlush, Cond.selects RX7 yX7_wouldFlush yX7_wouldFlush, Cond.initialized RX7, Cond.code yX7_wouldFlush cX7_wouldFlush 3 (some .int), Cond.methodLink RX7 104 yX7_keep, Cond.instanceMethod yX7_keep, Cond.selects RX7 yX7_keep yX7_keep, Cond.code yX7_keep cX7_keep 2 none, Cond.fieldLink RX7 13 "BatteryCachesModel" "kept" "[I", Cond.fieldLink RX7 7 "BatteryCachesModel" "all" "[I", Cond.methodLink RX7 123 yX7_doLoad, Cond.instanceMethod yX7_doLoad, Cond.selects RX7 yX7_doLoad yX7_doLoad, Cond.code yX7_doLoad cX7_doLoad 2 (some .int), Cond.constantLong RX7 74 (999), Cond.constant RX7 73 (-1000001), Cond.methodLink RX7 29 yX7_in, Cond.static yX7_in, Cond.code yX7_in cX7_in 6 (some .boolean), Cond.methodLink RX7 79 yX7_drains, Cond.instanceMethod yX7_drains, Cond.selects RX7 yX7_drains yX7_drains]
def wsX7_critical_r2 : List Cond := [Cond.code yX7_drains cX7_drains 2 none, Cond.methodLink RX7 88 yX7_flushesToo, Cond.instanceMethod yX7_flushesToo, Cond.selects RX7 yX7_flushesToo yX7_flushesToo, Cond.code yX7_flushesToo cX7_flushesToo 2 (some .int), Cond.methodLink RX7 47 yX7_many, Cond.instanceMethod yX7_many, Cond.selects RX7 yX7_many yX7_many, Cond.code yX7_many cX7_many 4 (some .int), Cond.methodLink RX7 50 yX7_allowance, Cond.instanceMethod yX7_allowance, Cond.selects RX7 yX7_allowance yX7_allowance, Cond.code yX7_allowance cX7_allowance 2 (some .int), Cond.methodLink RX7 43 yX7_setting, Cond.instanceMethod yX7_setting, Cond.selects RX7 yX7_setting yX7_setting, Cond.code yX7_setting cX7_setting 2 (some .int), Cond.methodLink RX7 54 yX7_oldest, Cond.instanceMethod yX7_oldest, Cond.selects RX7 yX7_oldest yX7_oldest, Cond.code yX7_oldest cX7_oldest 4 (some .int), Cond.methodLink RX7 57 yX7_flushes, Cond.instanceMethod yX7_flushes, Cond.selects RX7 yX7_flushes yX7_flushes]
def wsX7_critical_r3 : List Cond := [Cond.code yX7_flushes cX7_flushes 2 none, Cond.methodLink RX7 39 yX7_lays, Cond.instanceMethod yX7_lays, Cond.selects RX7 yX7_lays yX7_lays, Cond.code yX7_lays cX7_lays 3 none, Cond.methodLink RX7 35 yX7_counts, Cond.instanceMethod yX7_counts, Cond.selects RX7 yX7_counts yX7_counts, Cond.code yX7_counts cX7_counts 2 none, Cond.methodLink RX7 155 yX7_giveBack, Cond.instanceMethod yX7_giveBack, Cond.selects RX7 yX7_giveBack yX7_giveBack, Cond.code yX7_giveBack cX7_giveBack 2 none]
def wsX7_critical : List Cond := .code yX7_critical cX7_critical 2 (some .int) :: ((wsX7_critical_r1 ++ (wsX7_critical_r2 ++ wsX7_critical_r3)) ++ wsX70)
def wsX7_ticksUntil_r1 : List Cond := [Cond.constantLong RX7 161 (8), Cond.constant RX7 73 (-1000001), Cond.constant RX7 137 (-1000004), Cond.methodLink RX7 29 yX7_in, Cond.static yX7_in, Cond.initialized RX7, Cond.code yX7_in cX7_in 6 (some .boolean), Cond.methodLink RX7 104 yX7_keep, Cond.instanceMethod yX7_keep, Cond.selects RX7 yX7_keep yX7_keep, Cond.code yX7_keep cX7_keep 2 none, Cond.fieldLink RX7 13 "BatteryCachesModel" "kept" "[I", Cond.fieldLink RX7 7 "BatteryCachesModel" "all" "[I", Cond.methodLink RX7 50 yX7_allowance, Cond.instanceMethod yX7_allowance, Cond.selects RX7 yX7_allowance yX7_allowance, Cond.code yX7_allowance cX7_allowance 2 (some .int), Cond.methodLink RX7 43 yX7_setting, Cond.instanceMethod yX7_setting, Cond.selects RX7 yX7_setting yX7_setting, Cond.code yX7_setting cX7_setting 2 (some .int), Cond.methodLink RX7 93 yX7_ticksOn, Cond.instanceMethod yX7_ticksOn, Cond.selects RX7 yX7_ticksOn yX7_ticksOn]
def wsX7_ticksUntil_r2 : List Cond := [Cond.code yX7_ticksOn cX7_ticksOn 1 (some .int), Cond.methodLink RX7 35 yX7_counts, Cond.instanceMethod yX7_counts, Cond.selects RX7 yX7_counts yX7_counts, Cond.code yX7_counts cX7_counts 2 none, Cond.methodLink RX7 85 yX7_learnsOn, Cond.instanceMethod yX7_learnsOn, Cond.selects RX7 yX7_learnsOn yX7_learnsOn, Cond.code yX7_learnsOn cX7_learnsOn 1 none, Cond.methodLink RX7 79 yX7_drains, Cond.instanceMethod yX7_drains, Cond.selects RX7 yX7_drains yX7_drains, Cond.code yX7_drains cX7_drains 2 none, Cond.methodLink RX7 82 yX7_charges, Cond.instanceMethod yX7_charges, Cond.selects RX7 yX7_charges yX7_charges, Cond.code yX7_charges cX7_charges 2 none, Cond.methodLink RX7 76 yX7_capacity, Cond.instanceMethod yX7_capacity, Cond.selects RX7 yX7_capacity yX7_capacity, Cond.code yX7_capacity cX7_capacity 1 (some .int), Cond.methodLink RX7 88 yX7_flushesToo, Cond.instanceMethod yX7_flushesToo, Cond.selects RX7 yX7_flushesToo yX7_flushesToo]
def wsX7_ticksUntil_r3 : List Cond := [Cond.code yX7_flushesToo cX7_flushesToo 2 (some .int), Cond.methodLink RX7 47 yX7_many, Cond.instanceMethod yX7_many, Cond.selects RX7 yX7_many yX7_many, Cond.code yX7_many cX7_many 4 (some .int), Cond.methodLink RX7 54 yX7_oldest, Cond.instanceMethod yX7_oldest, Cond.selects RX7 yX7_oldest yX7_oldest, Cond.code yX7_oldest cX7_oldest 4 (some .int), Cond.methodLink RX7 57 yX7_flushes, Cond.instanceMethod yX7_flushes, Cond.selects RX7 yX7_flushes yX7_flushes, Cond.code yX7_flushes cX7_flushes 2 none, Cond.methodLink RX7 39 yX7_lays, Cond.instanceMethod yX7_lays, Cond.selects RX7 yX7_lays yX7_lays, Cond.code yX7_lays cX7_lays 3 none, Cond.methodLink RX7 155 yX7_giveBack, Cond.instanceMethod yX7_giveBack, Cond.selects RX7 yX7_giveBack yX7_giveBack, Cond.code yX7_giveBack cX7_giveBack 2 none]
def wsX7_ticksUntil : List Cond := .code yX7_ticksUntil cX7_ticksUntil 4 (some .int) :: ((wsX7_ticksUntil_r1 ++ (wsX7_ticksUntil_r2 ++ wsX7_ticksUntil_r3)) ++ wsX70)
def wsX7_apart : List Cond := .code yX7_apart cX7_apart 4 (some .int) :: ([.fieldLink RX7 7 "BatteryCachesModel" "all" "[I"] ++ wsX70)
def wsX7_nearest : List Cond := .code yX7_nearest cX7_nearest 4 (some .int) :: ([.fieldLink RX7 7 "BatteryCachesModel" "all" "[I", .methodLink RX7 163 yX7_apart, .instanceMethod yX7_apart, .selects RX7 yX7_apart yX7_apart, .initialized RX7, .code yX7_apart cX7_apart 4 (some .int)] ++ wsX70)
def wsX7_pair : List Cond := .code yX7_pair cX7_pair 5 (some .int) :: ([.constant RX7 73 (-1000001), .constant RX7 137 (-1000004), .fieldLink RX7 7 "BatteryCachesModel" "all" "[I", .methodLink RX7 29 yX7_in, .static yX7_in, .initialized RX7, .code yX7_in cX7_in 6 (some .boolean), .methodLink RX7 47 yX7_many, .instanceMethod yX7_many, .selects RX7 yX7_many yX7_many, .code yX7_many cX7_many 4 (some .int), .methodLink RX7 166 yX7_nearest, .instanceMethod yX7_nearest, .selects RX7 yX7_nearest yX7_nearest, .code yX7_nearest cX7_nearest 4 (some .int), .methodLink RX7 163 yX7_apart, .instanceMethod yX7_apart, .selects RX7 yX7_apart yX7_apart, .code yX7_apart cX7_apart 4 (some .int)] ++ wsX70)
def wsX7_count : List Cond := .code yX7_count cX7_count 2 (some .int) :: ([.constantLong RX7 161 (8), .fieldLink RX7 7 "BatteryCachesModel" "all" "[I", .fieldLink RX7 23 "BatteryCachesModel" "historyLong" "I", .fieldLink RX7 169 "BatteryCachesModel" "textLong" "I", .constantLong RX7 172 (20), .constantLong RX7 174 (23), .constant RX7 73 (-1000001), .methodLink RX7 29 yX7_in, .static yX7_in, .initialized RX7, .code yX7_in cX7_in 6 (some .boolean)] ++ wsX70)
def wsX7_undo : List Cond := .code yX7_undo cX7_undo 2 (some .int) :: ([.fieldLink RX7 23 "BatteryCachesModel" "historyLong" "I", .constant RX7 96 (-1000002), .fieldLink RX7 7 "BatteryCachesModel" "all" "[I", .fieldLink RX7 16 "BatteryCachesModel" "history" "[I"] ++ wsX70)
def wsX7_type : List Cond := .code yX7_type cX7_type 2 (some .int) :: ([.constantLong RX7 176 (32), .constantLong RX7 178 (126), .constant RX7 73 (-1000001), .fieldLink RX7 169 "BatteryCachesModel" "textLong" "I", .constant RX7 180 (-1000003), .fieldLink RX7 19 "BatteryCachesModel" "text" "[I", .methodLink RX7 29 yX7_in, .static yX7_in, .initialized RX7, .code yX7_in cX7_in 6 (some .boolean)] ++ wsX70)
def wsX7_clearText : List Cond := .code yX7_clearText cX7_clearText 2 (some .int) :: ([.fieldLink RX7 169 "BatteryCachesModel" "textLong" "I"] ++ wsX70)
def wsX7_isHere : List Cond := .code yX7_isHere cX7_isHere 3 (some .boolean) :: ([.fieldLink RX7 181 "BatteryCachesModel" "at" "I", .fieldLink RX7 169 "BatteryCachesModel" "textLong" "I", .fieldLink RX7 19 "BatteryCachesModel" "text" "[I", .methodLink RX7 29 yX7_in, .static yX7_in, .initialized RX7, .code yX7_in cX7_in 6 (some .boolean)] ++ wsX70)
def wsX7_takes : List Cond := .code yX7_takes cX7_takes 3 (some .boolean) :: ([.fieldLink RX7 181 "BatteryCachesModel" "at" "I", .methodLink RX7 184 yX7_isHere, .instanceMethod yX7_isHere, .selects RX7 yX7_isHere yX7_isHere, .initialized RX7, .code yX7_isHere cX7_isHere 3 (some .boolean), .fieldLink RX7 169 "BatteryCachesModel" "textLong" "I", .fieldLink RX7 19 "BatteryCachesModel" "text" "[I", .methodLink RX7 29 yX7_in, .static yX7_in, .code yX7_in cX7_in 6 (some .boolean)] ++ wsX70)
def wsX7_takesNumber : List Cond := .code yX7_takesNumber cX7_takesNumber 2 (some .boolean) :: ([.fieldLink RX7 181 "BatteryCachesModel" "at" "I", .fieldLink RX7 188 "BatteryCachesModel" "number" "I", .fieldLink RX7 19 "BatteryCachesModel" "text" "[I", .methodLink RX7 184 yX7_isHere, .instanceMethod yX7_isHere, .selects RX7 yX7_isHere yX7_isHere, .initialized RX7, .code yX7_isHere cX7_isHere 3 (some .boolean), .fieldLink RX7 169 "BatteryCachesModel" "textLong" "I", .methodLink RX7 29 yX7_in, .static yX7_in, .code yX7_in cX7_in 6 (some .boolean)] ++ wsX70)
def wsX7_isOrder : List Cond := .code yX7_isOrder cX7_isOrder 1 (some .boolean) :: ([])
def wsX7_readsOrder_r1 : List Cond := [Cond.fieldLink RX7 191 "BatteryCachesModel" "from" "I", Cond.fieldLink RX7 181 "BatteryCachesModel" "at" "I", Cond.fieldLink RX7 19 "BatteryCachesModel" "text" "[I", Cond.fieldLink RX7 188 "BatteryCachesModel" "number" "I", Cond.fieldLink RX7 201 "BatteryCachesModel" "first" "I", Cond.fieldLink RX7 207 "BatteryCachesModel" "second" "I", Cond.methodLink RX7 194 yX7_isOrder, Cond.static yX7_isOrder, Cond.initialized RX7, Cond.code yX7_isOrder cX7_isOrder 1 (some .boolean), Cond.methodLink RX7 197 yX7_takesNumber, Cond.instanceMethod yX7_takesNumber, Cond.selects RX7 yX7_takesNumber yX7_takesNumber, Cond.code yX7_takesNumber cX7_takesNumber 2 (some .boolean), Cond.methodLink RX7 184 yX7_isHere, Cond.instanceMethod yX7_isHere, Cond.selects RX7 yX7_isHere yX7_isHere, Cond.code yX7_isHere cX7_isHere 3 (some .boolean), Cond.fieldLink RX7 169 "BatteryCachesModel" "textLong" "I", Cond.methodLink RX7 29 yX7_in, Cond.static yX7_in, Cond.code yX7_in cX7_in 6 (some .boolean), Cond.methodLink RX7 204 yX7_takes, Cond.instanceMethod yX7_takes]
def wsX7_readsOrder_r2 : List Cond := [Cond.selects RX7 yX7_takes yX7_takes, Cond.code yX7_takes cX7_takes 3 (some .boolean)]
def wsX7_readsOrder : List Cond := .code yX7_readsOrder cX7_readsOrder 2 (some .boolean) :: ((wsX7_readsOrder_r1 ++ wsX7_readsOrder_r2) ++ wsX70)
def wsX7_isInRange : List Cond := .code yX7_isInRange cX7_isInRange 2 (some .boolean) :: ([.fieldLink RX7 19 "BatteryCachesModel" "text" "[I", .fieldLink RX7 191 "BatteryCachesModel" "from" "I", .fieldLink RX7 201 "BatteryCachesModel" "first" "I", .constantLong RX7 91 (99), .constantLong RX7 74 (999), .methodLink RX7 66 yX7_isPlace, .static yX7_isPlace, .initialized RX7, .code yX7_isPlace cX7_isPlace 1 (some .boolean), .constantLong RX7 27 (63), .methodLink RX7 29 yX7_in, .static yX7_in, .code yX7_in cX7_in 6 (some .boolean)] ++ wsX70)
def wsX7_doOrder_r1 : List Cond := [Cond.fieldLink RX7 19 "BatteryCachesModel" "text" "[I", Cond.fieldLink RX7 191 "BatteryCachesModel" "from" "I", Cond.fieldLink RX7 201 "BatteryCachesModel" "first" "I", Cond.fieldLink RX7 207 "BatteryCachesModel" "second" "I", Cond.methodLink RX7 107 yX7_doRead, Cond.instanceMethod yX7_doRead, Cond.selects RX7 yX7_doRead yX7_doRead, Cond.initialized RX7, Cond.code yX7_doRead cX7_doRead 2 (some .int), Cond.fieldLink RX7 7 "BatteryCachesModel" "all" "[I", Cond.constant RX7 73 (-1000001), Cond.methodLink RX7 66 yX7_isPlace, Cond.static yX7_isPlace, Cond.code yX7_isPlace cX7_isPlace 1 (some .boolean), Cond.constantLong RX7 27 (63), Cond.methodLink RX7 29 yX7_in, Cond.static yX7_in, Cond.code yX7_in cX7_in 6 (some .boolean), Cond.methodLink RX7 70 yX7_touches, Cond.instanceMethod yX7_touches, Cond.selects RX7 yX7_touches yX7_touches, Cond.code yX7_touches cX7_touches 3 (some .int), Cond.methodLink RX7 60 yX7_holder, Cond.instanceMethod yX7_holder]
def wsX7_doOrder_r2 : List Cond := [Cond.selects RX7 yX7_holder yX7_holder, Cond.code yX7_holder cX7_holder 3 (some .int), Cond.methodLink RX7 35 yX7_counts, Cond.instanceMethod yX7_counts, Cond.selects RX7 yX7_counts yX7_counts, Cond.code yX7_counts cX7_counts 2 none, Cond.methodLink RX7 54 yX7_oldest, Cond.instanceMethod yX7_oldest, Cond.selects RX7 yX7_oldest yX7_oldest, Cond.code yX7_oldest cX7_oldest 4 (some .int), Cond.methodLink RX7 57 yX7_flushes, Cond.instanceMethod yX7_flushes, Cond.selects RX7 yX7_flushes yX7_flushes, Cond.code yX7_flushes cX7_flushes 2 none, Cond.methodLink RX7 39 yX7_lays, Cond.instanceMethod yX7_lays, Cond.selects RX7 yX7_lays yX7_lays, Cond.code yX7_lays cX7_lays 3 none, Cond.methodLink RX7 63 yX7_turns, Cond.instanceMethod yX7_turns, Cond.selects RX7 yX7_turns yX7_turns, Cond.code yX7_turns cX7_turns 2 none, Cond.methodLink RX7 113 yX7_doWrite, Cond.instanceMethod yX7_doWrite]
def wsX7_doOrder_r3 : List Cond := [Cond.selects RX7 yX7_doWrite yX7_doWrite, Cond.code yX7_doWrite cX7_doWrite 4 (some .int), Cond.constantLong RX7 74 (999), Cond.methodLink RX7 47 yX7_many, Cond.instanceMethod yX7_many, Cond.selects RX7 yX7_many yX7_many, Cond.code yX7_many cX7_many 4 (some .int), Cond.methodLink RX7 50 yX7_allowance, Cond.instanceMethod yX7_allowance, Cond.selects RX7 yX7_allowance yX7_allowance, Cond.code yX7_allowance cX7_allowance 2 (some .int), Cond.methodLink RX7 43 yX7_setting, Cond.instanceMethod yX7_setting, Cond.selects RX7 yX7_setting yX7_setting, Cond.code yX7_setting cX7_setting 2 (some .int), Cond.methodLink RX7 120 yX7_doTick, Cond.instanceMethod yX7_doTick, Cond.selects RX7 yX7_doTick yX7_doTick, Cond.code yX7_doTick cX7_doTick 4 (some .int), Cond.constantLong RX7 91 (99), Cond.methodLink RX7 93 yX7_ticksOn, Cond.instanceMethod yX7_ticksOn, Cond.selects RX7 yX7_ticksOn yX7_ticksOn, Cond.code yX7_ticksOn cX7_ticksOn 1 (some .int)]
def wsX7_doOrder_r4 : List Cond := [Cond.methodLink RX7 85 yX7_learnsOn, Cond.instanceMethod yX7_learnsOn, Cond.selects RX7 yX7_learnsOn yX7_learnsOn, Cond.code yX7_learnsOn cX7_learnsOn 1 none, Cond.methodLink RX7 79 yX7_drains, Cond.instanceMethod yX7_drains, Cond.selects RX7 yX7_drains yX7_drains, Cond.code yX7_drains cX7_drains 2 none, Cond.methodLink RX7 82 yX7_charges, Cond.instanceMethod yX7_charges, Cond.selects RX7 yX7_charges yX7_charges, Cond.code yX7_charges cX7_charges 2 none, Cond.methodLink RX7 76 yX7_capacity, Cond.instanceMethod yX7_capacity, Cond.selects RX7 yX7_capacity yX7_capacity, Cond.code yX7_capacity cX7_capacity 1 (some .int), Cond.methodLink RX7 88 yX7_flushesToo, Cond.instanceMethod yX7_flushesToo, Cond.selects RX7 yX7_flushesToo yX7_flushesToo, Cond.code yX7_flushesToo cX7_flushesToo 2 (some .int), Cond.methodLink RX7 123 yX7_doLoad, Cond.instanceMethod yX7_doLoad, Cond.selects RX7 yX7_doLoad yX7_doLoad, Cond.code yX7_doLoad cX7_doLoad 2 (some .int)]
def wsX7_doOrder_r5 : List Cond := [Cond.methodLink RX7 129 yX7_doCut, Cond.instanceMethod yX7_doCut, Cond.selects RX7 yX7_doCut yX7_doCut, Cond.code yX7_doCut cX7_doCut 3 (some .int), Cond.methodLink RX7 126 yX7_doLearn, Cond.instanceMethod yX7_doLearn, Cond.selects RX7 yX7_doLearn yX7_doLearn, Cond.code yX7_doLearn cX7_doLearn 1 (some .int), Cond.constant RX7 96 (-1000002)]
def wsX7_doOrder : List Cond := .code yX7_doOrder cX7_doOrder 1 (some .int) :: ((wsX7_doOrder_r1 ++ (wsX7_doOrder_r2 ++ (wsX7_doOrder_r3 ++ (wsX7_doOrder_r4 ++ wsX7_doOrder_r5)))) ++ wsX70)
def wsX7_notes : List Cond := .code yX7_notes cX7_notes 3 (some .boolean) :: ([.fieldLink RX7 210 "BatteryCachesModel" "why" "I", .fieldLink RX7 213 "BatteryCachesModel" "cause" "I"] ++ wsX70)
def wsX7_doesAll_r1 : List Cond := [Cond.fieldLink RX7 191 "BatteryCachesModel" "from" "I", Cond.fieldLink RX7 216 "BatteryCachesModel" "done" "I", Cond.fieldLink RX7 169 "BatteryCachesModel" "textLong" "I", Cond.fieldLink RX7 181 "BatteryCachesModel" "at" "I", Cond.fieldLink RX7 201 "BatteryCachesModel" "first" "I", Cond.constant RX7 22 (-1000000), Cond.constant RX7 137 (-1000004), Cond.methodLink RX7 219 yX7_readsOrder, Cond.instanceMethod yX7_readsOrder, Cond.selects RX7 yX7_readsOrder yX7_readsOrder, Cond.initialized RX7, Cond.code yX7_readsOrder cX7_readsOrder 2 (some .boolean), Cond.fieldLink RX7 19 "BatteryCachesModel" "text" "[I", Cond.fieldLink RX7 188 "BatteryCachesModel" "number" "I", Cond.fieldLink RX7 207 "BatteryCachesModel" "second" "I", Cond.methodLink RX7 194 yX7_isOrder, Cond.static yX7_isOrder, Cond.code yX7_isOrder cX7_isOrder 1 (some .boolean), Cond.methodLink RX7 197 yX7_takesNumber, Cond.instanceMethod yX7_takesNumber, Cond.selects RX7 yX7_takesNumber yX7_takesNumber, Cond.code yX7_takesNumber cX7_takesNumber 2 (some .boolean), Cond.methodLink RX7 184 yX7_isHere, Cond.instanceMethod yX7_isHere]
def wsX7_doesAll_r2 : List Cond := [Cond.selects RX7 yX7_isHere yX7_isHere, Cond.code yX7_isHere cX7_isHere 3 (some .boolean), Cond.methodLink RX7 29 yX7_in, Cond.static yX7_in, Cond.code yX7_in cX7_in 6 (some .boolean), Cond.methodLink RX7 204 yX7_takes, Cond.instanceMethod yX7_takes, Cond.selects RX7 yX7_takes yX7_takes, Cond.code yX7_takes cX7_takes 3 (some .boolean), Cond.methodLink RX7 222 yX7_notes, Cond.instanceMethod yX7_notes, Cond.selects RX7 yX7_notes yX7_notes, Cond.code yX7_notes cX7_notes 3 (some .boolean), Cond.fieldLink RX7 210 "BatteryCachesModel" "why" "I", Cond.fieldLink RX7 213 "BatteryCachesModel" "cause" "I", Cond.methodLink RX7 225 yX7_isInRange, Cond.instanceMethod yX7_isInRange, Cond.selects RX7 yX7_isInRange yX7_isInRange, Cond.code yX7_isInRange cX7_isInRange 2 (some .boolean), Cond.constantLong RX7 91 (99), Cond.constantLong RX7 74 (999), Cond.methodLink RX7 66 yX7_isPlace, Cond.static yX7_isPlace, Cond.code yX7_isPlace cX7_isPlace 1 (some .boolean)]
def wsX7_doesAll_r3 : List Cond := [Cond.constantLong RX7 27 (63), Cond.methodLink RX7 228 yX7_doOrder, Cond.instanceMethod yX7_doOrder, Cond.selects RX7 yX7_doOrder yX7_doOrder, Cond.code yX7_doOrder cX7_doOrder 1 (some .int), Cond.methodLink RX7 107 yX7_doRead, Cond.instanceMethod yX7_doRead, Cond.selects RX7 yX7_doRead yX7_doRead, Cond.code yX7_doRead cX7_doRead 2 (some .int), Cond.fieldLink RX7 7 "BatteryCachesModel" "all" "[I", Cond.constant RX7 73 (-1000001), Cond.methodLink RX7 70 yX7_touches, Cond.instanceMethod yX7_touches, Cond.selects RX7 yX7_touches yX7_touches, Cond.code yX7_touches cX7_touches 3 (some .int), Cond.methodLink RX7 60 yX7_holder, Cond.instanceMethod yX7_holder, Cond.selects RX7 yX7_holder yX7_holder, Cond.code yX7_holder cX7_holder 3 (some .int), Cond.methodLink RX7 35 yX7_counts, Cond.instanceMethod yX7_counts, Cond.selects RX7 yX7_counts yX7_counts, Cond.code yX7_counts cX7_counts 2 none, Cond.methodLink RX7 54 yX7_oldest]
def wsX7_doesAll_r4 : List Cond := [Cond.instanceMethod yX7_oldest, Cond.selects RX7 yX7_oldest yX7_oldest, Cond.code yX7_oldest cX7_oldest 4 (some .int), Cond.methodLink RX7 57 yX7_flushes, Cond.instanceMethod yX7_flushes, Cond.selects RX7 yX7_flushes yX7_flushes, Cond.code yX7_flushes cX7_flushes 2 none, Cond.methodLink RX7 39 yX7_lays, Cond.instanceMethod yX7_lays, Cond.selects RX7 yX7_lays yX7_lays, Cond.code yX7_lays cX7_lays 3 none, Cond.methodLink RX7 63 yX7_turns, Cond.instanceMethod yX7_turns, Cond.selects RX7 yX7_turns yX7_turns, Cond.code yX7_turns cX7_turns 2 none, Cond.methodLink RX7 113 yX7_doWrite, Cond.instanceMethod yX7_doWrite, Cond.selects RX7 yX7_doWrite yX7_doWrite, Cond.code yX7_doWrite cX7_doWrite 4 (some .int), Cond.methodLink RX7 47 yX7_many, Cond.instanceMethod yX7_many, Cond.selects RX7 yX7_many yX7_many, Cond.code yX7_many cX7_many 4 (some .int), Cond.methodLink RX7 50 yX7_allowance]
def wsX7_doesAll_r5 : List Cond := [Cond.instanceMethod yX7_allowance, Cond.selects RX7 yX7_allowance yX7_allowance, Cond.code yX7_allowance cX7_allowance 2 (some .int), Cond.methodLink RX7 43 yX7_setting, Cond.instanceMethod yX7_setting, Cond.selects RX7 yX7_setting yX7_setting, Cond.code yX7_setting cX7_setting 2 (some .int), Cond.methodLink RX7 120 yX7_doTick, Cond.instanceMethod yX7_doTick, Cond.selects RX7 yX7_doTick yX7_doTick, Cond.code yX7_doTick cX7_doTick 4 (some .int), Cond.methodLink RX7 93 yX7_ticksOn, Cond.instanceMethod yX7_ticksOn, Cond.selects RX7 yX7_ticksOn yX7_ticksOn, Cond.code yX7_ticksOn cX7_ticksOn 1 (some .int), Cond.methodLink RX7 85 yX7_learnsOn, Cond.instanceMethod yX7_learnsOn, Cond.selects RX7 yX7_learnsOn yX7_learnsOn, Cond.code yX7_learnsOn cX7_learnsOn 1 none, Cond.methodLink RX7 79 yX7_drains, Cond.instanceMethod yX7_drains, Cond.selects RX7 yX7_drains yX7_drains, Cond.code yX7_drains cX7_drains 2 none, Cond.methodLink RX7 82 yX7_charges]
def wsX7_doesAll_r6 : List Cond := [Cond.instanceMethod yX7_charges, Cond.selects RX7 yX7_charges yX7_charges, Cond.code yX7_charges cX7_charges 2 none, Cond.methodLink RX7 76 yX7_capacity, Cond.instanceMethod yX7_capacity, Cond.selects RX7 yX7_capacity yX7_capacity, Cond.code yX7_capacity cX7_capacity 1 (some .int), Cond.methodLink RX7 88 yX7_flushesToo, Cond.instanceMethod yX7_flushesToo, Cond.selects RX7 yX7_flushesToo yX7_flushesToo, Cond.code yX7_flushesToo cX7_flushesToo 2 (some .int), Cond.methodLink RX7 123 yX7_doLoad, Cond.instanceMethod yX7_doLoad, Cond.selects RX7 yX7_doLoad yX7_doLoad, Cond.code yX7_doLoad cX7_doLoad 2 (some .int), Cond.methodLink RX7 129 yX7_doCut, Cond.instanceMethod yX7_doCut, Cond.selects RX7 yX7_doCut yX7_doCut, Cond.code yX7_doCut cX7_doCut 3 (some .int), Cond.methodLink RX7 126 yX7_doLearn, Cond.instanceMethod yX7_doLearn, Cond.selects RX7 yX7_doLearn yX7_doLearn, Cond.code yX7_doLearn cX7_doLearn 1 (some .int), Cond.constant RX7 96 (-1000002)]
def wsX7_doesAll : List Cond := .code yX7_doesAll cX7_doesAll 2 (some .boolean) :: ((wsX7_doesAll_r1 ++ (wsX7_doesAll_r2 ++ (wsX7_doesAll_r3 ++ (wsX7_doesAll_r4 ++ (wsX7_doesAll_r5 ++ wsX7_doesAll_r6))))) ++ wsX70)
def wsX7_fault_r1 : List Cond := [Cond.constantLong RX7 231 (2), Cond.constant RX7 73 (-1000001), Cond.constant RX7 137 (-1000004), Cond.fieldLink RX7 191 "BatteryCachesModel" "from" "I", Cond.fieldLink RX7 210 "BatteryCachesModel" "why" "I", Cond.fieldLink RX7 213 "BatteryCachesModel" "cause" "I", Cond.methodLink RX7 29 yX7_in, Cond.static yX7_in, Cond.initialized RX7, Cond.code yX7_in cX7_in 6 (some .boolean), Cond.methodLink RX7 104 yX7_keep, Cond.instanceMethod yX7_keep, Cond.selects RX7 yX7_keep yX7_keep, Cond.code yX7_keep cX7_keep 2 none, Cond.fieldLink RX7 13 "BatteryCachesModel" "kept" "[I", Cond.fieldLink RX7 7 "BatteryCachesModel" "all" "[I", Cond.methodLink RX7 233 yX7_doesAll, Cond.instanceMethod yX7_doesAll, Cond.selects RX7 yX7_doesAll yX7_doesAll, Cond.code yX7_doesAll cX7_doesAll 2 (some .boolean), Cond.fieldLink RX7 216 "BatteryCachesModel" "done" "I", Cond.fieldLink RX7 169 "BatteryCachesModel" "textLong" "I", Cond.fieldLink RX7 181 "BatteryCachesModel" "at" "I", Cond.fieldLink RX7 201 "BatteryCachesModel" "first" "I"]
def wsX7_fault_r2 : List Cond := [Cond.constant RX7 22 (-1000000), Cond.methodLink RX7 219 yX7_readsOrder, Cond.instanceMethod yX7_readsOrder, Cond.selects RX7 yX7_readsOrder yX7_readsOrder, Cond.code yX7_readsOrder cX7_readsOrder 2 (some .boolean), Cond.fieldLink RX7 19 "BatteryCachesModel" "text" "[I", Cond.fieldLink RX7 188 "BatteryCachesModel" "number" "I", Cond.fieldLink RX7 207 "BatteryCachesModel" "second" "I", Cond.methodLink RX7 194 yX7_isOrder, Cond.static yX7_isOrder, Cond.code yX7_isOrder cX7_isOrder 1 (some .boolean), Cond.methodLink RX7 197 yX7_takesNumber, Cond.instanceMethod yX7_takesNumber, Cond.selects RX7 yX7_takesNumber yX7_takesNumber, Cond.code yX7_takesNumber cX7_takesNumber 2 (some .boolean), Cond.methodLink RX7 184 yX7_isHere, Cond.instanceMethod yX7_isHere, Cond.selects RX7 yX7_isHere yX7_isHere, Cond.code yX7_isHere cX7_isHere 3 (some .boolean), Cond.methodLink RX7 204 yX7_takes, Cond.instanceMethod yX7_takes, Cond.selects RX7 yX7_takes yX7_takes, Cond.code yX7_takes cX7_takes 3 (some .boolean), Cond.methodLink RX7 222 yX7_notes]
def wsX7_fault_r3 : List Cond := [Cond.instanceMethod yX7_notes, Cond.selects RX7 yX7_notes yX7_notes, Cond.code yX7_notes cX7_notes 3 (some .boolean), Cond.methodLink RX7 225 yX7_isInRange, Cond.instanceMethod yX7_isInRange, Cond.selects RX7 yX7_isInRange yX7_isInRange, Cond.code yX7_isInRange cX7_isInRange 2 (some .boolean), Cond.constantLong RX7 91 (99), Cond.constantLong RX7 74 (999), Cond.methodLink RX7 66 yX7_isPlace, Cond.static yX7_isPlace, Cond.code yX7_isPlace cX7_isPlace 1 (some .boolean), Cond.constantLong RX7 27 (63), Cond.methodLink RX7 228 yX7_doOrder, Cond.instanceMethod yX7_doOrder, Cond.selects RX7 yX7_doOrder yX7_doOrder, Cond.code yX7_doOrder cX7_doOrder 1 (some .int), Cond.methodLink RX7 107 yX7_doRead, Cond.instanceMethod yX7_doRead, Cond.selects RX7 yX7_doRead yX7_doRead, Cond.code yX7_doRead cX7_doRead 2 (some .int), Cond.methodLink RX7 70 yX7_touches, Cond.instanceMethod yX7_touches, Cond.selects RX7 yX7_touches yX7_touches]
def wsX7_fault_r4 : List Cond := [Cond.code yX7_touches cX7_touches 3 (some .int), Cond.methodLink RX7 60 yX7_holder, Cond.instanceMethod yX7_holder, Cond.selects RX7 yX7_holder yX7_holder, Cond.code yX7_holder cX7_holder 3 (some .int), Cond.methodLink RX7 35 yX7_counts, Cond.instanceMethod yX7_counts, Cond.selects RX7 yX7_counts yX7_counts, Cond.code yX7_counts cX7_counts 2 none, Cond.methodLink RX7 54 yX7_oldest, Cond.instanceMethod yX7_oldest, Cond.selects RX7 yX7_oldest yX7_oldest, Cond.code yX7_oldest cX7_oldest 4 (some .int), Cond.methodLink RX7 57 yX7_flushes, Cond.instanceMethod yX7_flushes, Cond.selects RX7 yX7_flushes yX7_flushes, Cond.code yX7_flushes cX7_flushes 2 none, Cond.methodLink RX7 39 yX7_lays, Cond.instanceMethod yX7_lays, Cond.selects RX7 yX7_lays yX7_lays, Cond.code yX7_lays cX7_lays 3 none, Cond.methodLink RX7 63 yX7_turns, Cond.instanceMethod yX7_turns, Cond.selects RX7 yX7_turns yX7_turns]
def wsX7_fault_r5 : List Cond := [Cond.code yX7_turns cX7_turns 2 none, Cond.methodLink RX7 113 yX7_doWrite, Cond.instanceMethod yX7_doWrite, Cond.selects RX7 yX7_doWrite yX7_doWrite, Cond.code yX7_doWrite cX7_doWrite 4 (some .int), Cond.methodLink RX7 47 yX7_many, Cond.instanceMethod yX7_many, Cond.selects RX7 yX7_many yX7_many, Cond.code yX7_many cX7_many 4 (some .int), Cond.methodLink RX7 50 yX7_allowance, Cond.instanceMethod yX7_allowance, Cond.selects RX7 yX7_allowance yX7_allowance, Cond.code yX7_allowance cX7_allowance 2 (some .int), Cond.methodLink RX7 43 yX7_setting, Cond.instanceMethod yX7_setting, Cond.selects RX7 yX7_setting yX7_setting, Cond.code yX7_setting cX7_setting 2 (some .int), Cond.methodLink RX7 120 yX7_doTick, Cond.instanceMethod yX7_doTick, Cond.selects RX7 yX7_doTick yX7_doTick, Cond.code yX7_doTick cX7_doTick 4 (some .int), Cond.methodLink RX7 93 yX7_ticksOn, Cond.instanceMethod yX7_ticksOn, Cond.selects RX7 yX7_ticksOn yX7_ticksOn]
def wsX7_fault_r6 : List Cond := [Cond.code yX7_ticksOn cX7_ticksOn 1 (some .int), Cond.methodLink RX7 85 yX7_learnsOn, Cond.instanceMethod yX7_learnsOn, Cond.selects RX7 yX7_learnsOn yX7_learnsOn, Cond.code yX7_learnsOn cX7_learnsOn 1 none, Cond.methodLink RX7 79 yX7_drains, Cond.instanceMethod yX7_drains, Cond.selects RX7 yX7_drains yX7_drains, Cond.code yX7_drains cX7_drains 2 none, Cond.methodLink RX7 82 yX7_charges, Cond.instanceMethod yX7_charges, Cond.selects RX7 yX7_charges yX7_charges, Cond.code yX7_charges cX7_charges 2 none, Cond.methodLink RX7 76 yX7_capacity, Cond.instanceMethod yX7_capacity, Cond.selects RX7 yX7_capacity yX7_capacity, Cond.code yX7_capacity cX7_capacity 1 (some .int), Cond.methodLink RX7 88 yX7_flushesToo, Cond.instanceMethod yX7_flushesToo, Cond.selects RX7 yX7_flushesToo yX7_flushesToo, Cond.code yX7_flushesToo cX7_flushesToo 2 (some .int), Cond.methodLink RX7 123 yX7_doLoad, Cond.instanceMethod yX7_doLoad, Cond.selects RX7 yX7_doLoad yX7_doLoad]
def wsX7_fault_r7 : List Cond := [Cond.code yX7_doLoad cX7_doLoad 2 (some .int), Cond.methodLink RX7 129 yX7_doCut, Cond.instanceMethod yX7_doCut, Cond.selects RX7 yX7_doCut yX7_doCut, Cond.code yX7_doCut cX7_doCut 3 (some .int), Cond.methodLink RX7 126 yX7_doLearn, Cond.instanceMethod yX7_doLearn, Cond.selects RX7 yX7_doLearn yX7_doLearn, Cond.code yX7_doLearn cX7_doLearn 1 (some .int), Cond.constant RX7 96 (-1000002), Cond.methodLink RX7 155 yX7_giveBack, Cond.instanceMethod yX7_giveBack, Cond.selects RX7 yX7_giveBack yX7_giveBack, Cond.code yX7_giveBack cX7_giveBack 2 none]
def wsX7_fault : List Cond := .code yX7_fault cX7_fault 3 (some .int) :: ((wsX7_fault_r1 ++ (wsX7_fault_r2 ++ (wsX7_fault_r3 ++ (wsX7_fault_r4 ++ (wsX7_fault_r5 ++ (wsX7_fault_r6 ++ wsX7_fault_r7)))))) ++ wsX70)
def wsX7_play_r1 : List Cond := [Cond.constant RX7 96 (-1000002), Cond.fieldLink RX7 216 "BatteryCachesModel" "done" "I", Cond.methodLink RX7 104 yX7_keep, Cond.instanceMethod yX7_keep, Cond.selects RX7 yX7_keep yX7_keep, Cond.initialized RX7, Cond.code yX7_keep cX7_keep 2 none, Cond.fieldLink RX7 13 "BatteryCachesModel" "kept" "[I", Cond.fieldLink RX7 7 "BatteryCachesModel" "all" "[I", Cond.methodLink RX7 233 yX7_doesAll, Cond.instanceMethod yX7_doesAll, Cond.selects RX7 yX7_doesAll yX7_doesAll, Cond.code yX7_doesAll cX7_doesAll 2 (some .boolean), Cond.fieldLink RX7 191 "BatteryCachesModel" "from" "I", Cond.fieldLink RX7 169 "BatteryCachesModel" "textLong" "I", Cond.fieldLink RX7 181 "BatteryCachesModel" "at" "I", Cond.fieldLink RX7 201 "BatteryCachesModel" "first" "I", Cond.constant RX7 22 (-1000000), Cond.constant RX7 137 (-1000004), Cond.methodLink RX7 219 yX7_readsOrder, Cond.instanceMethod yX7_readsOrder, Cond.selects RX7 yX7_readsOrder yX7_readsOrder, Cond.code yX7_readsOrder cX7_readsOrder 2 (some .boolean), Cond.fieldLink RX7 19 "BatteryCachesModel" "text" "[I"]
def wsX7_play_r2 : List Cond := [Cond.fieldLink RX7 188 "BatteryCachesModel" "number" "I", Cond.fieldLink RX7 207 "BatteryCachesModel" "second" "I", Cond.methodLink RX7 194 yX7_isOrder, Cond.static yX7_isOrder, Cond.code yX7_isOrder cX7_isOrder 1 (some .boolean), Cond.methodLink RX7 197 yX7_takesNumber, Cond.instanceMethod yX7_takesNumber, Cond.selects RX7 yX7_takesNumber yX7_takesNumber, Cond.code yX7_takesNumber cX7_takesNumber 2 (some .boolean), Cond.methodLink RX7 184 yX7_isHere, Cond.instanceMethod yX7_isHere, Cond.selects RX7 yX7_isHere yX7_isHere, Cond.code yX7_isHere cX7_isHere 3 (some .boolean), Cond.methodLink RX7 29 yX7_in, Cond.static yX7_in, Cond.code yX7_in cX7_in 6 (some .boolean), Cond.methodLink RX7 204 yX7_takes, Cond.instanceMethod yX7_takes, Cond.selects RX7 yX7_takes yX7_takes, Cond.code yX7_takes cX7_takes 3 (some .boolean), Cond.methodLink RX7 222 yX7_notes, Cond.instanceMethod yX7_notes, Cond.selects RX7 yX7_notes yX7_notes, Cond.code yX7_notes cX7_notes 3 (some .boolean)]
def wsX7_play_r3 : List Cond := [Cond.fieldLink RX7 210 "BatteryCachesModel" "why" "I", Cond.fieldLink RX7 213 "BatteryCachesModel" "cause" "I", Cond.methodLink RX7 225 yX7_isInRange, Cond.instanceMethod yX7_isInRange, Cond.selects RX7 yX7_isInRange yX7_isInRange, Cond.code yX7_isInRange cX7_isInRange 2 (some .boolean), Cond.constantLong RX7 91 (99), Cond.constantLong RX7 74 (999), Cond.methodLink RX7 66 yX7_isPlace, Cond.static yX7_isPlace, Cond.code yX7_isPlace cX7_isPlace 1 (some .boolean), Cond.constantLong RX7 27 (63), Cond.methodLink RX7 228 yX7_doOrder, Cond.instanceMethod yX7_doOrder, Cond.selects RX7 yX7_doOrder yX7_doOrder, Cond.code yX7_doOrder cX7_doOrder 1 (some .int), Cond.methodLink RX7 107 yX7_doRead, Cond.instanceMethod yX7_doRead, Cond.selects RX7 yX7_doRead yX7_doRead, Cond.code yX7_doRead cX7_doRead 2 (some .int), Cond.constant RX7 73 (-1000001), Cond.methodLink RX7 70 yX7_touches, Cond.instanceMethod yX7_touches, Cond.selects RX7 yX7_touches yX7_touches]
def wsX7_play_r4 : List Cond := [Cond.code yX7_touches cX7_touches 3 (some .int), Cond.methodLink RX7 60 yX7_holder, Cond.instanceMethod yX7_holder, Cond.selects RX7 yX7_holder yX7_holder, Cond.code yX7_holder cX7_holder 3 (some .int), Cond.methodLink RX7 35 yX7_counts, Cond.instanceMethod yX7_counts, Cond.selects RX7 yX7_counts yX7_counts, Cond.code yX7_counts cX7_counts 2 none, Cond.methodLink RX7 54 yX7_oldest, Cond.instanceMethod yX7_oldest, Cond.selects RX7 yX7_oldest yX7_oldest, Cond.code yX7_oldest cX7_oldest 4 (some .int), Cond.methodLink RX7 57 yX7_flushes, Cond.instanceMethod yX7_flushes, Cond.selects RX7 yX7_flushes yX7_flushes, Cond.code yX7_flushes cX7_flushes 2 none, Cond.methodLink RX7 39 yX7_lays, Cond.instanceMethod yX7_lays, Cond.selects RX7 yX7_lays yX7_lays, Cond.code yX7_lays cX7_lays 3 none, Cond.methodLink RX7 63 yX7_turns, Cond.instanceMethod yX7_turns, Cond.selects RX7 yX7_turns yX7_turns]
def wsX7_play_r5 : List Cond := [Cond.code yX7_turns cX7_turns 2 none, Cond.methodLink RX7 113 yX7_doWrite, Cond.instanceMethod yX7_doWrite, Cond.selects RX7 yX7_doWrite yX7_doWrite, Cond.code yX7_doWrite cX7_doWrite 4 (some .int), Cond.methodLink RX7 47 yX7_many, Cond.instanceMethod yX7_many, Cond.selects RX7 yX7_many yX7_many, Cond.code yX7_many cX7_many 4 (some .int), Cond.methodLink RX7 50 yX7_allowance, Cond.instanceMethod yX7_allowance, Cond.selects RX7 yX7_allowance yX7_allowance, Cond.code yX7_allowance cX7_allowance 2 (some .int), Cond.methodLink RX7 43 yX7_setting, Cond.instanceMethod yX7_setting, Cond.selects RX7 yX7_setting yX7_setting, Cond.code yX7_setting cX7_setting 2 (some .int), Cond.methodLink RX7 120 yX7_doTick, Cond.instanceMethod yX7_doTick, Cond.selects RX7 yX7_doTick yX7_doTick, Cond.code yX7_doTick cX7_doTick 4 (some .int), Cond.methodLink RX7 93 yX7_ticksOn, Cond.instanceMethod yX7_ticksOn, Cond.selects RX7 yX7_ticksOn yX7_ticksOn]
def wsX7_play_r6 : List Cond := [Cond.code yX7_ticksOn cX7_ticksOn 1 (some .int), Cond.methodLink RX7 85 yX7_learnsOn, Cond.instanceMethod yX7_learnsOn, Cond.selects RX7 yX7_learnsOn yX7_learnsOn, Cond.code yX7_learnsOn cX7_learnsOn 1 none, Cond.methodLink RX7 79 yX7_drains, Cond.instanceMethod yX7_drains, Cond.selects RX7 yX7_drains yX7_drains, Cond.code yX7_drains cX7_drains 2 none, Cond.methodLink RX7 82 yX7_charges, Cond.instanceMethod yX7_charges, Cond.selects RX7 yX7_charges yX7_charges, Cond.code yX7_charges cX7_charges 2 none, Cond.methodLink RX7 76 yX7_capacity, Cond.instanceMethod yX7_capacity, Cond.selects RX7 yX7_capacity yX7_capacity, Cond.code yX7_capacity cX7_capacity 1 (some .int), Cond.methodLink RX7 88 yX7_flushesToo, Cond.instanceMethod yX7_flushesToo, Cond.selects RX7 yX7_flushesToo yX7_flushesToo, Cond.code yX7_flushesToo cX7_flushesToo 2 (some .int), Cond.methodLink RX7 123 yX7_doLoad, Cond.instanceMethod yX7_doLoad, Cond.selects RX7 yX7_doLoad yX7_doLoad]
def wsX7_play_r7 : List Cond := [Cond.code yX7_doLoad cX7_doLoad 2 (some .int), Cond.methodLink RX7 129 yX7_doCut, Cond.instanceMethod yX7_doCut, Cond.selects RX7 yX7_doCut yX7_doCut, Cond.code yX7_doCut cX7_doCut 3 (some .int), Cond.methodLink RX7 126 yX7_doLearn, Cond.instanceMethod yX7_doLearn, Cond.selects RX7 yX7_doLearn yX7_doLearn, Cond.code yX7_doLearn cX7_doLearn 1 (some .int), Cond.methodLink RX7 155 yX7_giveBack, Cond.instanceMethod yX7_giveBack, Cond.selects RX7 yX7_giveBack yX7_giveBack, Cond.code yX7_giveBack cX7_giveBack 2 none, Cond.methodLink RX7 110 yX7_changed, Cond.instanceMethod yX7_changed, Cond.selects RX7 yX7_changed yX7_changed, Cond.code yX7_changed cX7_changed 3 (some .int), Cond.fieldLink RX7 23 "BatteryCachesModel" "historyLong" "I", Cond.fieldLink RX7 16 "BatteryCachesModel" "history" "[I"]
def wsX7_play : List Cond := .code yX7_play cX7_play 1 (some .int) :: ((wsX7_play_r1 ++ (wsX7_play_r2 ++ (wsX7_play_r3 ++ (wsX7_play_r4 ++ (wsX7_play_r5 ++ (wsX7_play_r6 ++ wsX7_play_r7)))))) ++ wsX70)
def wsJ9_abs_0f7a4 : List Cond := .code yJ9_abs_0f7a4 cJ9_abs_0f7a4 1 (some .int) :: ([])
def wsJ9_max_7cf53 : List Cond := .code yJ9_max_7cf53 cJ9_max_7cf53 2 (some .int) :: ([])
def wsJ9_min_7cf53 : List Cond := .code yJ9_min_7cf53 cJ9_min_7cf53 2 (some .int) :: ([])
def wsL_law_r1 : List Cond := [Cond.classLink RL 7 RX6, Cond.instantiable RX6 5, Cond.initialized RX6, Cond.classLink RL 10 RX7, Cond.instantiable RX7 14, Cond.initialized RX7, Cond.methodLink RL 9 yX6_init, Cond.instanceMethod yX6_init, Cond.code yX6_init cX6_init 1 none, Cond.methodLink RX6 1 objectInit, Cond.instanceMethod objectInit, Cond.code objectInit ⟨#[0xb1]⟩ 1 none, Cond.classLink RX6 7 RX4, Cond.instantiable RX4 17, Cond.initialized RX4, Cond.fieldLink RX6 10 "BatteryCaches" "now" "LBatteryCaches$State;", Cond.classLink RX6 16 RX1, Cond.instantiable RX1 2, Cond.initialized RX1, Cond.fieldLink RX6 19 "BatteryCaches" "history" "LBatteryCaches$History;", Cond.classLink RX6 23 RX5, Cond.instantiable RX5 2, Cond.initialized RX5, Cond.fieldLink RX6 26 "BatteryCaches" "text" "LBatteryCaches$Text;"]
def wsL_law_r2 : List Cond := [Cond.classLink RX6 30 RX3, Cond.instantiable RX3 3, Cond.initialized RX3, Cond.fieldLink RX6 33 "BatteryCaches" "rehearsal" "LBatteryCaches$Rehearsal;", Cond.classLink RX6 37 RX0, Cond.instantiable RX0 7, Cond.initialized RX0, Cond.fieldLink RX6 40 "BatteryCaches" "trialBattery" "LBatteryCaches$Battery;", Cond.instanceMethod yX4_init, Cond.code yX4_init cX4_init 1 none, Cond.methodLink RX4 3 objectInit, Cond.classLink RX4 9 RX0, Cond.fieldLink RX4 12 "BatteryCaches$State" "battery" "LBatteryCaches$Battery;", Cond.arrayClass .int, Cond.fieldLink RX4 18 "BatteryCaches$State" "disk" "[I", Cond.fieldLink RX4 22 "BatteryCaches$State" "laid" "[I", Cond.fieldLink RX4 25 "BatteryCaches$State" "kind" "[I", Cond.fieldLink RX4 28 "BatteryCaches$State" "place" "[I", Cond.fieldLink RX4 31 "BatteryCaches$State" "value" "[I", Cond.fieldLink RX4 34 "BatteryCaches$State" "turn" "[I", Cond.fieldLink RX4 37 "BatteryCaches$State" "lastTurn" "I", Cond.fieldLink RX4 41 "BatteryCaches$State" "ticks" "I", Cond.fieldLink RX4 44 "BatteryCaches$State" "hits" "I", Cond.fieldLink RX4 47 "BatteryCaches$State" "misses" "I"]
def wsL_law_r3 : List Cond := [Cond.fieldLink RX4 50 "BatteryCaches$State" "flushed" "I", Cond.fieldLink RX4 53 "BatteryCaches$State" "wentThrough" "I", Cond.fieldLink RX4 56 "BatteryCaches$State" "lost" "I", Cond.fieldLink RX4 59 "BatteryCaches$State" "cuts" "I", Cond.fieldLink RX4 62 "BatteryCaches$State" "cyclesEnded" "I", Cond.fieldLink RX4 65 "BatteryCaches$State" "laidInAll" "I", Cond.instanceMethod yX0_init, Cond.code yX0_init cX0_init 1 none, Cond.methodLink RX0 3 objectInit, Cond.fieldLink RX0 9 "BatteryCaches$Battery" "charge" "I", Cond.fieldLink RX0 15 "BatteryCaches$Battery" "wear" "I", Cond.fieldLink RX0 18 "BatteryCaches$Battery" "cycle" "I", Cond.fieldLink RX0 21 "BatteryCaches$Battery" "lineCost" "I", Cond.fieldLink RX0 24 "BatteryCaches$Battery" "cutCost" "I", Cond.fieldLink RX0 27 "BatteryCaches$Battery" "rise" "I", Cond.fieldLink RX0 30 "BatteryCaches$Battery" "fall" "I", Cond.methodLink RX6 18 yX1_init, Cond.instanceMethod yX1_init, Cond.code yX1_init cX1_init 2 none, Cond.methodLink RX1 3 objectInit, Cond.classLink RX1 9 RX4, Cond.fieldLink RX1 11 "BatteryCaches$History" "states" "[LBatteryCaches$State;", Cond.fieldLink RX1 17 "BatteryCaches$History" "size" "I", Cond.instanceMethod yX5_init]
def wsL_law_r4 : List Cond := [Cond.code yX5_init cX5_init 1 none, Cond.methodLink RX5 3 objectInit, Cond.fieldLink RX5 9 "BatteryCaches$Text" "characters" "[I", Cond.fieldLink RX5 15 "BatteryCaches$Text" "length" "I", Cond.instanceMethod yX3_init, Cond.code yX3_init cX3_init 1 none, Cond.methodLink RX3 3 objectInit, Cond.classLink RX3 9 RX4, Cond.fieldLink RX3 12 "BatteryCaches$Rehearsal" "trial" "LBatteryCaches$State;", Cond.classLink RX3 18 RX2, Cond.instantiable RX2 7, Cond.initialized RX2, Cond.fieldLink RX3 21 "BatteryCaches$Rehearsal" "order" "LBatteryCaches$Order;", Cond.fieldLink RX3 25 "BatteryCaches$Rehearsal" "done" "I", Cond.instanceMethod yX2_init, Cond.code yX2_init cX2_init 1 none, Cond.methodLink RX2 3 objectInit, Cond.fieldLink RX2 9 "BatteryCaches$Order" "start" "I", Cond.fieldLink RX2 15 "BatteryCaches$Order" "next" "I", Cond.fieldLink RX2 18 "BatteryCaches$Order" "letter" "I", Cond.fieldLink RX2 21 "BatteryCaches$Order" "number" "I", Cond.fieldLink RX2 24 "BatteryCaches$Order" "newValue" "I", Cond.fieldLink RX2 27 "BatteryCaches$Order" "reason" "I", Cond.fieldLink RX2 30 "BatteryCaches$Order" "cause" "I"]
def wsL_law_r5 : List Cond := [Cond.methodLink RL 12 yX7_init, Cond.instanceMethod yX7_init, Cond.code yX7_init cX7_init 1 none, Cond.methodLink RX7 1 objectInit, Cond.fieldLink RX7 7 "BatteryCachesModel" "all" "[I", Cond.fieldLink RX7 13 "BatteryCachesModel" "kept" "[I", Cond.fieldLink RX7 16 "BatteryCachesModel" "history" "[I", Cond.fieldLink RX7 19 "BatteryCachesModel" "text" "[I", Cond.methodLink RL 13 yX6_read, Cond.instanceMethod yX6_read, Cond.selects RX6 yX6_read yX6_read, Cond.code yX6_read cX6_read 2 (some .int), Cond.constant RX6 48 (-1000001), Cond.methodLink RX6 44 yX6_isPlace, Cond.static yX6_isPlace, Cond.code yX6_isPlace cX6_isPlace 1 (some .boolean), Cond.methodLink RX6 49 yX1_keep, Cond.instanceMethod yX1_keep, Cond.selects RX1 yX1_keep yX1_keep, Cond.code yX1_keep cX1_keep 2 none, Cond.methodLink RX1 22 yX1_dropOldest, Cond.instanceMethod yX1_dropOldest, Cond.selects RX1 yX1_dropOldest yX1_dropOldest, Cond.code yX1_dropOldest cX1_dropOldest 3 none]
def wsL_law_r6 : List Cond := [Cond.static yX6_isWithin, Cond.code yX6_isWithin cX6_isWithin 3 (some .boolean), Cond.methodLink RX1 29 yX4_copy, Cond.static yX4_copy, Cond.code yX4_copy cX4_copy 2 none, Cond.methodLink RX4 68 yX0_copyFrom, Cond.instanceMethod yX0_copyFrom, Cond.selects RX0 yX0_copyFrom yX0_copyFrom, Cond.code yX0_copyFrom cX0_copyFrom 2 none, Cond.static yX6_copyRow, Cond.code yX6_copyRow cX6_copyRow 2 none, Cond.methodLink RX6 253 Lib.Math.min.name, Cond.static Lib.Math.min.name, Cond.initialized "java/lang/Math", Cond.code Lib.Math.min.name Lib.Math.min.code 2 (some .int), Cond.methodLink RX6 256 arraycopyName, Cond.native arraycopyName, Cond.static arraycopyName, Cond.initialized "java/lang/System", Cond.methodLink RX6 53 yX4_readPlace, Cond.instanceMethod yX4_readPlace, Cond.selects RX4 yX4_readPlace yX4_readPlace, Cond.code yX4_readPlace cX4_readPlace 3 (some .int), Cond.methodLink RX4 76 yX4_lineFor]
def wsL_law_r7 : List Cond := [Cond.instanceMethod yX4_lineFor, Cond.selects RX4 yX4_lineFor yX4_lineFor, Cond.code yX4_lineFor cX4_lineFor 3 (some .int), Cond.methodLink RX4 95 yX4_holderOf, Cond.instanceMethod yX4_holderOf, Cond.selects RX4 yX4_holderOf yX4_holderOf, Cond.code yX4_holderOf cX4_holderOf 3 (some .int), Cond.static yX6_isLine, Cond.code yX6_isLine cX6_isLine 1 (some .boolean), Cond.methodLink RX4 98 yX4_lineToTake, Cond.instanceMethod yX4_lineToTake, Cond.selects RX4 yX4_lineToTake yX4_lineToTake, Cond.code yX4_lineToTake cX4_lineToTake 2 (some .int), Cond.methodLink RX4 108 yX4_lowestEmpty, Cond.instanceMethod yX4_lowestEmpty, Cond.selects RX4 yX4_lowestEmpty yX4_lowestEmpty, Cond.code yX4_lowestEmpty cX4_lowestEmpty 2 (some .int), Cond.methodLink RX4 111 yX4_lowestTurn, Cond.instanceMethod yX4_lowestTurn, Cond.selects RX4 yX4_lowestTurn yX4_lowestTurn, Cond.code yX4_lowestTurn cX4_lowestTurn 5 (some .int), Cond.methodLink RX4 101 yX4_flushLine, Cond.instanceMethod yX4_flushLine, Cond.selects RX4 yX4_flushLine yX4_flushLine]
def wsL_law_r8 : List Cond := [Cond.code yX4_flushLine cX4_flushLine 2 none, Cond.methodLink RX4 91 yX4_layOnDisk, Cond.instanceMethod yX4_layOnDisk, Cond.selects RX4 yX4_layOnDisk yX4_layOnDisk, Cond.code yX4_layOnDisk cX4_layOnDisk 3 none, Cond.methodLink RX4 105 yX4_layIntoLine, Cond.instanceMethod yX4_layIntoLine, Cond.selects RX4 yX4_layIntoLine yX4_layIntoLine, Cond.code yX4_layIntoLine cX4_layIntoLine 3 none, Cond.methodLink RL 17 yX7_read, Cond.instanceMethod yX7_read, Cond.selects RX7 yX7_read yX7_read, Cond.code yX7_read cX7_read 2 (some .int), Cond.methodLink RX7 104 yX7_keep, Cond.instanceMethod yX7_keep, Cond.selects RX7 yX7_keep yX7_keep, Cond.code yX7_keep cX7_keep 2 none, Cond.methodLink RX7 107 yX7_doRead, Cond.instanceMethod yX7_doRead, Cond.selects RX7 yX7_doRead yX7_doRead, Cond.code yX7_doRead cX7_doRead 2 (some .int), Cond.constant RX7 73 (-1000001), Cond.methodLink RX7 66 yX7_isPlace, Cond.static yX7_isPlace]
def wsL_law_r9 : List Cond := [Cond.code yX7_isPlace cX7_isPlace 1 (some .boolean), Cond.constantLong RX7 27 (63), Cond.methodLink RX7 29 yX7_in, Cond.static yX7_in, Cond.code yX7_in cX7_in 6 (some .boolean), Cond.methodLink RX7 70 yX7_touches, Cond.instanceMethod yX7_touches, Cond.selects RX7 yX7_touches yX7_touches, Cond.code yX7_touches cX7_touches 3 (some .int), Cond.methodLink RX7 60 yX7_holder, Cond.instanceMethod yX7_holder, Cond.selects RX7 yX7_holder yX7_holder, Cond.code yX7_holder cX7_holder 3 (some .int), Cond.methodLink RX7 35 yX7_counts, Cond.instanceMethod yX7_counts, Cond.selects RX7 yX7_counts yX7_counts, Cond.code yX7_counts cX7_counts 2 none, Cond.methodLink RX7 54 yX7_oldest, Cond.instanceMethod yX7_oldest, Cond.selects RX7 yX7_oldest yX7_oldest, Cond.code yX7_oldest cX7_oldest 4 (some .int), Cond.methodLink RX7 57 yX7_flushes, Cond.instanceMethod yX7_flushes, Cond.selects RX7 yX7_flushes yX7_flushes]
def wsL_law_r10 : List Cond := [Cond.code yX7_flushes cX7_flushes 2 none, Cond.methodLink RX7 39 yX7_lays, Cond.instanceMethod yX7_lays, Cond.selects RX7 yX7_lays yX7_lays, Cond.code yX7_lays cX7_lays 3 none, Cond.methodLink RX7 63 yX7_turns, Cond.instanceMethod yX7_turns, Cond.selects RX7 yX7_turns yX7_turns, Cond.code yX7_turns cX7_turns 2 none, Cond.methodLink RX7 110 yX7_changed, Cond.instanceMethod yX7_changed, Cond.selects RX7 yX7_changed yX7_changed, Cond.code yX7_changed cX7_changed 3 (some .int), Cond.constant RX7 22 (-1000000), Cond.fieldLink RX7 23 "BatteryCachesModel" "historyLong" "I", Cond.methodLink RL 18 yX6_write, Cond.instanceMethod yX6_write, Cond.selects RX6 yX6_write yX6_write, Cond.code yX6_write cX6_write 3 (some .int), Cond.methodLink RX6 57 yX6_isWithin, Cond.methodLink RX6 61 yX4_writePlace, Cond.instanceMethod yX4_writePlace, Cond.selects RX4 yX4_writePlace yX4_writePlace, Cond.code yX4_writePlace cX4_writePlace 4 (some .int)]
def wsL_law_r11 : List Cond := [Cond.methodLink RX4 84 yX4_numberOf, Cond.instanceMethod yX4_numberOf, Cond.selects RX4 yX4_numberOf yX4_numberOf, Cond.code yX4_numberOf cX4_numberOf 2 (some .int), Cond.methodLink RX4 154 yX4_setOf, Cond.instanceMethod yX4_setOf, Cond.selects RX4 yX4_setOf yX4_setOf, Cond.code yX4_setOf cX4_setOf 4 (some .int), Cond.methodLink RX4 157 yJ6_bitCount_0f7a4, Cond.static yJ6_bitCount_0f7a4, Cond.initialized RJ6, Cond.code yJ6_bitCount_0f7a4 cJ6_bitCount_0f7a4 1 (some .int), Cond.constant RJ6 265 (1431655765), Cond.constant RJ6 266 (858993459), Cond.constant RJ6 267 (252645135), Cond.methodLink RX4 87 yX0_allowance, Cond.instanceMethod yX0_allowance, Cond.selects RX0 yX0_allowance yX0_allowance, Cond.code yX0_allowance cX0_allowance 1 (some .int), Cond.methodLink RX0 33 yX0_savable, Cond.instanceMethod yX0_savable, Cond.selects RX0 yX0_savable yX0_savable, Cond.code yX0_savable cX0_savable 1 (some .int), Cond.methodLink RX0 37 Lib.Math.min.name]
def wsL_law_r12 : List Cond := [Cond.methodLink RL 22 yX7_write, Cond.instanceMethod yX7_write, Cond.selects RX7 yX7_write yX7_write, Cond.code yX7_write cX7_write 3 (some .int), Cond.methodLink RX7 113 yX7_doWrite, Cond.instanceMethod yX7_doWrite, Cond.selects RX7 yX7_doWrite yX7_doWrite, Cond.code yX7_doWrite cX7_doWrite 4 (some .int), Cond.constantLong RX7 74 (999), Cond.methodLink RX7 47 yX7_many, Cond.instanceMethod yX7_many, Cond.selects RX7 yX7_many yX7_many, Cond.code yX7_many cX7_many 4 (some .int), Cond.methodLink RX7 50 yX7_allowance, Cond.instanceMethod yX7_allowance, Cond.selects RX7 yX7_allowance yX7_allowance, Cond.code yX7_allowance cX7_allowance 2 (some .int), Cond.methodLink RX7 43 yX7_setting, Cond.instanceMethod yX7_setting, Cond.selects RX7 yX7_setting yX7_setting, Cond.code yX7_setting cX7_setting 2 (some .int), Cond.methodLink RL 23 yX6_flush, Cond.instanceMethod yX6_flush, Cond.selects RX6 yX6_flush yX6_flush]
def wsL_law_r13 : List Cond := [Cond.code yX6_flush cX6_flush 2 (some .int), Cond.fieldLink RX6 68 "BatteryCaches$State" "kind" "[I", Cond.constant RX6 72 (-1000002), Cond.methodLink RX6 65 yX6_isLine, Cond.methodLink RX6 73 yX4_flushLine, Cond.methodLink RX6 77 yX4_numberOf, Cond.methodLink RL 26 yX7_flush, Cond.instanceMethod yX7_flush, Cond.selects RX7 yX7_flush yX7_flush, Cond.code yX7_flush cX7_flush 2 (some .int), Cond.methodLink RX7 117 yX7_doFlush, Cond.instanceMethod yX7_doFlush, Cond.selects RX7 yX7_doFlush yX7_doFlush, Cond.code yX7_doFlush cX7_doFlush 2 (some .int), Cond.constant RX7 96 (-1000002), Cond.methodLink RX7 97 yX7_isLine, Cond.static yX7_isLine, Cond.code yX7_isLine cX7_isLine 1 (some .boolean), Cond.constantLong RX7 33 (7), Cond.methodLink RL 27 yX6_tick, Cond.instanceMethod yX6_tick, Cond.selects RX6 yX6_tick yX6_tick, Cond.code yX6_tick cX6_tick 2 (some .int), Cond.methodLink RX6 80 yX4_passTicks]
def wsL_law_r14 : List Cond := [Cond.instanceMethod yX4_passTicks, Cond.selects RX4 yX4_passTicks yX4_passTicks, Cond.code yX4_passTicks cX4_passTicks 4 (some .int), Cond.methodLink RX4 117 yX0_passTick, Cond.instanceMethod yX0_passTick, Cond.selects RX0 yX0_passTick yX0_passTick, Cond.code yX0_passTick cX0_passTick 1 (some .boolean), Cond.methodLink RX0 54 yX0_fallInCycle, Cond.instanceMethod yX0_fallInCycle, Cond.selects RX0 yX0_fallInCycle yX0_fallInCycle, Cond.code yX0_fallInCycle cX0_fallInCycle 1 none, Cond.methodLink RX0 50 yX0_useUp, Cond.instanceMethod yX0_useUp, Cond.selects RX0 yX0_useUp yX0_useUp, Cond.code yX0_useUp cX0_useUp 2 none, Cond.methodLink RX0 43 Lib.Math.max.name, Cond.static Lib.Math.max.name, Cond.code Lib.Math.max.name Lib.Math.max.code 2 (some .int), Cond.methodLink RX0 57 yX0_capacity, Cond.instanceMethod yX0_capacity, Cond.selects RX0 yX0_capacity yX0_capacity, Cond.code yX0_capacity cX0_capacity 1 (some .int), Cond.methodLink RX4 121 yX4_tooMany, Cond.instanceMethod yX4_tooMany]
def wsL_law_r15 : List Cond := [Cond.selects RX4 yX4_tooMany yX4_tooMany, Cond.code yX4_tooMany cX4_tooMany 1 (some .int), Cond.methodLink RX4 139 Lib.Math.max.name, Cond.methodLink RX4 124 yX4_flushLowest, Cond.instanceMethod yX4_flushLowest, Cond.selects RX4 yX4_flushLowest yX4_flushLowest, Cond.code yX4_flushLowest cX4_flushLowest 3 (some .int), Cond.methodLink RL 30 yX7_tick, Cond.instanceMethod yX7_tick, Cond.selects RX7 yX7_tick yX7_tick, Cond.code yX7_tick cX7_tick 2 (some .int), Cond.methodLink RX7 120 yX7_doTick, Cond.instanceMethod yX7_doTick, Cond.selects RX7 yX7_doTick yX7_doTick, Cond.code yX7_doTick cX7_doTick 4 (some .int), Cond.constantLong RX7 91 (99), Cond.methodLink RX7 93 yX7_ticksOn, Cond.instanceMethod yX7_ticksOn, Cond.selects RX7 yX7_ticksOn yX7_ticksOn, Cond.code yX7_ticksOn cX7_ticksOn 1 (some .int), Cond.methodLink RX7 85 yX7_learnsOn, Cond.instanceMethod yX7_learnsOn, Cond.selects RX7 yX7_learnsOn yX7_learnsOn, Cond.code yX7_learnsOn cX7_learnsOn 1 none]
def wsL_law_r16 : List Cond := [Cond.methodLink RX7 79 yX7_drains, Cond.instanceMethod yX7_drains, Cond.selects RX7 yX7_drains yX7_drains, Cond.code yX7_drains cX7_drains 2 none, Cond.methodLink RX7 82 yX7_charges, Cond.instanceMethod yX7_charges, Cond.selects RX7 yX7_charges yX7_charges, Cond.code yX7_charges cX7_charges 2 none, Cond.methodLink RX7 76 yX7_capacity, Cond.instanceMethod yX7_capacity, Cond.selects RX7 yX7_capacity yX7_capacity, Cond.code yX7_capacity cX7_capacity 1 (some .int), Cond.methodLink RX7 88 yX7_flushesToo, Cond.instanceMethod yX7_flushesToo, Cond.selects RX7 yX7_flushesToo yX7_flushesToo, Cond.code yX7_flushesToo cX7_flushesToo 2 (some .int), Cond.methodLink RL 31 yX6_load, Cond.instanceMethod yX6_load, Cond.selects RX6 yX6_load yX6_load, Cond.code yX6_load cX6_load 2 (some .int), Cond.methodLink RX6 83 yX4_putLoad, Cond.instanceMethod yX4_putLoad, Cond.selects RX4 yX4_putLoad yX4_putLoad, Cond.code yX4_putLoad cX4_putLoad 2 (some .int)]
def wsL_law_r17 : List Cond := [Cond.methodLink RX4 127 yX0_useUp, Cond.methodLink RL 34 yX7_load, Cond.instanceMethod yX7_load, Cond.selects RX7 yX7_load yX7_load, Cond.code yX7_load cX7_load 2 (some .int), Cond.methodLink RX7 123 yX7_doLoad, Cond.instanceMethod yX7_doLoad, Cond.selects RX7 yX7_doLoad yX7_doLoad, Cond.code yX7_doLoad cX7_doLoad 2 (some .int), Cond.methodLink RL 35 yX6_learn, Cond.instanceMethod yX6_learn, Cond.selects RX6 yX6_learn yX6_learn, Cond.code yX6_learn cX6_learn 1 (some .int), Cond.fieldLink RX6 86 "BatteryCaches$State" "battery" "LBatteryCaches$Battery;", Cond.fieldLink RX6 89 "BatteryCaches$Battery" "cycle" "I", Cond.methodLink RX6 93 yX4_beginCycle, Cond.instanceMethod yX4_beginCycle, Cond.selects RX4 yX4_beginCycle yX4_beginCycle, Cond.code yX4_beginCycle cX4_beginCycle 1 (some .int), Cond.fieldLink RX4 130 "BatteryCaches$Battery" "cycle" "I", Cond.methodLink RL 39 yX7_learn, Cond.instanceMethod yX7_learn, Cond.selects RX7 yX7_learn yX7_learn, Cond.code yX7_learn cX7_learn 1 (some .int)]
def wsL_law_r18 : List Cond := [Cond.methodLink RX7 126 yX7_doLearn, Cond.instanceMethod yX7_doLearn, Cond.selects RX7 yX7_doLearn yX7_doLearn, Cond.code yX7_doLearn cX7_doLearn 1 (some .int), Cond.methodLink RL 40 yX6_cut, Cond.instanceMethod yX6_cut, Cond.selects RX6 yX6_cut yX6_cut, Cond.code yX6_cut cX6_cut 1 (some .int), Cond.methodLink RX6 97 yX4_cutPower, Cond.instanceMethod yX4_cutPower, Cond.selects RX4 yX4_cutPower yX4_cutPower, Cond.code yX4_cutPower cX4_cutPower 4 (some .int), Cond.methodLink RX4 133 yX4_savedByCut, Cond.instanceMethod yX4_savedByCut, Cond.selects RX4 yX4_savedByCut yX4_savedByCut, Cond.code yX4_savedByCut cX4_savedByCut 1 (some .int), Cond.methodLink RX4 148 Lib.Math.min.name, Cond.methodLink RX4 145 yX0_savable, Cond.methodLink RX4 136 yX0_saveAtCut, Cond.instanceMethod yX0_saveAtCut, Cond.selects RX0 yX0_saveAtCut yX0_saveAtCut, Cond.code yX0_saveAtCut cX0_saveAtCut 2 none, Cond.methodLink RX0 46 yX0_costToSave, Cond.instanceMethod yX0_costToSave]
def wsL_law_r19 : List Cond := [Cond.selects RX0 yX0_costToSave yX0_costToSave, Cond.code yX0_costToSave cX0_costToSave 2 (some .int), Cond.methodLink RL 43 yX7_cut, Cond.instanceMethod yX7_cut, Cond.selects RX7 yX7_cut yX7_cut, Cond.code yX7_cut cX7_cut 1 (some .int), Cond.methodLink RX7 129 yX7_doCut, Cond.instanceMethod yX7_doCut, Cond.selects RX7 yX7_doCut yX7_doCut, Cond.code yX7_doCut cX7_doCut 3 (some .int), Cond.methodLink RL 44 yX6_set, Cond.instanceMethod yX6_set, Cond.selects RX6 yX6_set yX6_set, Cond.code yX6_set cX6_set 4 (some .int), Cond.fieldLink RX6 103 "BatteryCaches" "LEAST_SETTING" "[I", Cond.fieldLink RX6 106 "BatteryCaches" "MOST_SETTING" "[I", Cond.methodLink RX6 100 yX6_isSetting, Cond.static yX6_isSetting, Cond.code yX6_isSetting cX6_isSetting 1 (some .boolean), Cond.methodLink RX6 109 yX0_setting, Cond.instanceMethod yX0_setting, Cond.selects RX0 yX0_setting yX0_setting, Cond.code yX0_setting cX0_setting 2 (some .int), Cond.methodLink RX6 112 yX0_changeSetting]
def wsL_law_r20 : List Cond := [Cond.instanceMethod yX0_changeSetting, Cond.selects RX0 yX0_changeSetting yX0_changeSetting, Cond.code yX0_changeSetting cX0_changeSetting 3 none, Cond.methodLink RL 47 yX7_set, Cond.instanceMethod yX7_set, Cond.selects RX7 yX7_set yX7_set, Cond.code yX7_set cX7_set 3 (some .int), Cond.methodLink RX7 132 yX7_doSet, Cond.instanceMethod yX7_doSet, Cond.selects RX7 yX7_doSet yX7_doSet, Cond.code yX7_doSet cX7_doSet 5 (some .int), Cond.constantLong RX7 100 (500), Cond.constantLong RX7 102 (200), Cond.methodLink RL 48 yX6_lineOf, Cond.instanceMethod yX6_lineOf, Cond.selects RX6 yX6_lineOf yX6_lineOf, Cond.code yX6_lineOf cX6_lineOf 3 (some .int), Cond.constant RX6 116 (-1000004), Cond.fieldLink RX6 117 "BatteryCaches$State" "place" "[I", Cond.fieldLink RX6 120 "BatteryCaches$State" "value" "[I", Cond.fieldLink RX6 123 "BatteryCaches$State" "turn" "[I", Cond.methodLink RX6 126 yX4_linesAhead, Cond.instanceMethod yX4_linesAhead, Cond.selects RX4 yX4_linesAhead yX4_linesAhead]
def wsL_law_r21 : List Cond := [Cond.code yX4_linesAhead cX4_linesAhead 5 (some .int), Cond.methodLink RL 51 yX7_lineOf, Cond.instanceMethod yX7_lineOf, Cond.selects RX7 yX7_lineOf yX7_lineOf, Cond.code yX7_lineOf cX7_lineOf 3 (some .int), Cond.constantLong RX7 135 (4), Cond.constant RX7 137 (-1000004), Cond.methodLink RX7 138 yX7_lowerTurns, Cond.instanceMethod yX7_lowerTurns, Cond.selects RX7 yX7_lowerTurns yX7_lowerTurns, Cond.code yX7_lowerTurns cX7_lowerTurns 4 (some .int), Cond.methodLink RL 52 yX6_placeOf, Cond.instanceMethod yX6_placeOf, Cond.selects RX6 yX6_placeOf yX6_placeOf, Cond.code yX6_placeOf cX6_placeOf 4 (some .int), Cond.fieldLink RX6 132 "BatteryCaches$State" "disk" "[I", Cond.fieldLink RX6 135 "BatteryCaches$State" "laid" "[I", Cond.methodLink RX6 129 yX4_holderOf, Cond.methodLink RL 55 yX7_placeOf, Cond.instanceMethod yX7_placeOf, Cond.selects RX7 yX7_placeOf yX7_placeOf, Cond.code yX7_placeOf cX7_placeOf 4 (some .int), Cond.constantLong RX7 141 (3), Cond.methodLink RL 56 yX6_battery]
def wsL_law_r22 : List Cond := [Cond.instanceMethod yX6_battery, Cond.selects RX6 yX6_battery yX6_battery, Cond.code yX6_battery cX6_battery 2 (some .int), Cond.fieldLink RX6 138 "BatteryCaches$Battery" "charge" "I", Cond.fieldLink RX6 144 "BatteryCaches$Battery" "wear" "I", Cond.methodLink RX6 141 yX0_capacity, Cond.methodLink RX6 147 yX0_allowance, Cond.methodLink RX6 150 yX4_savedByCut, Cond.methodLink RL 59 yX7_battery, Cond.instanceMethod yX7_battery, Cond.selects RX7 yX7_battery yX7_battery, Cond.code yX7_battery cX7_battery 2 (some .int), Cond.methodLink RX7 143 yX7_saved, Cond.instanceMethod yX7_saved, Cond.selects RX7 yX7_saved yX7_saved, Cond.code yX7_saved cX7_saved 2 (some .int), Cond.methodLink RL 60 yX6_lines, Cond.instanceMethod yX6_lines, Cond.selects RX6 yX6_lines yX6_lines, Cond.code yX6_lines cX6_lines 2 (some .int), Cond.methodLink RX6 153 yX4_setOf, Cond.methodLink RX6 156 yX4_lostByCut, Cond.instanceMethod yX4_lostByCut, Cond.selects RX4 yX4_lostByCut yX4_lostByCut]
def wsL_law_r23 : List Cond := [Cond.code yX4_lostByCut cX4_lostByCut 4 (some .int), Cond.methodLink RX4 151 yX4_linesAhead, Cond.methodLink RL 63 yX7_lines, Cond.instanceMethod yX7_lines, Cond.selects RX7 yX7_lines yX7_lines, Cond.code yX7_lines cX7_lines 2 (some .int), Cond.methodLink RX7 149 yX7_losable, Cond.instanceMethod yX7_losable, Cond.selects RX7 yX7_losable yX7_losable, Cond.code yX7_losable cX7_losable 3 (some .int), Cond.methodLink RX7 146 yX7_dirtyBefore, Cond.instanceMethod yX7_dirtyBefore, Cond.selects RX7 yX7_dirtyBefore yX7_dirtyBefore, Cond.code yX7_dirtyBefore cX7_dirtyBefore 4 (some .int), Cond.methodLink RX7 152 yX7_setOf, Cond.instanceMethod yX7_setOf, Cond.selects RX7 yX7_setOf yX7_setOf, Cond.code yX7_setOf cX7_setOf 4 (some .int), Cond.methodLink RL 64 yX6_wouldFlush, Cond.instanceMethod yX6_wouldFlush, Cond.selects RX6 yX6_wouldFlush yX6_wouldFlush, Cond.code yX6_wouldFlush cX6_wouldFlush 2 (some .int), Cond.methodLink RX6 166 Lib.Math.max.name, Cond.methodLink RX6 159 yX0_copyFrom]
def wsL_law_r24 : List Cond := [Cond.methodLink RX6 163 yX0_useUp, Cond.methodLink RL 67 yX7_wouldFlush, Cond.instanceMethod yX7_wouldFlush, Cond.selects RX7 yX7_wouldFlush yX7_wouldFlush, Cond.code yX7_wouldFlush cX7_wouldFlush 3 (some .int), Cond.methodLink RX7 155 yX7_giveBack, Cond.instanceMethod yX7_giveBack, Cond.selects RX7 yX7_giveBack yX7_giveBack, Cond.code yX7_giveBack cX7_giveBack 2 none, Cond.methodLink RL 68 yX6_critical, Cond.instanceMethod yX6_critical, Cond.selects RX6 yX6_critical yX6_critical, Cond.code yX6_critical cX6_critical 3 (some .int), Cond.methodLink RX6 171 yX0_costToSave, Cond.methodLink RL 71 yX7_critical, Cond.instanceMethod yX7_critical, Cond.selects RX7 yX7_critical yX7_critical, Cond.code yX7_critical cX7_critical 2 (some .int), Cond.methodLink RX7 158 yX7_wouldFlush, Cond.methodLink RL 72 yX6_ticksUntil, Cond.instanceMethod yX6_ticksUntil, Cond.selects RX6 yX6_ticksUntil yX6_ticksUntil, Cond.code yX6_ticksUntil cX6_ticksUntil 3 (some .int), Cond.methodLink RX6 174 yX0_passTick]
def wsL_law_r25 : List Cond := [Cond.methodLink RL 75 yX7_ticksUntil, Cond.instanceMethod yX7_ticksUntil, Cond.selects RX7 yX7_ticksUntil yX7_ticksUntil, Cond.code yX7_ticksUntil cX7_ticksUntil 4 (some .int), Cond.constantLong RX7 161 (8), Cond.methodLink RL 76 yX6_pair, Cond.instanceMethod yX6_pair, Cond.selects RX6 yX6_pair yX6_pair, Cond.code yX6_pair cX6_pair 3 (some .int), Cond.methodLink RX6 178 yX4_nearestPair, Cond.instanceMethod yX4_nearestPair, Cond.selects RX4 yX4_nearestPair yX4_nearestPair, Cond.code yX4_nearestPair cX4_nearestPair 6 (some .int), Cond.methodLink RX4 162 yX4_distanceToDirty, Cond.instanceMethod yX4_distanceToDirty, Cond.selects RX4 yX4_distanceToDirty yX4_distanceToDirty, Cond.code yX4_distanceToDirty cX4_distanceToDirty 4 (some .int), Cond.methodLink RX4 165 Lib.Math.abs.name, Cond.static Lib.Math.abs.name, Cond.code Lib.Math.abs.name Lib.Math.abs.code 1 (some .int), Cond.methodLink RX6 181 yX4_distanceToDirty, Cond.methodLink RL 79 yX7_pair, Cond.instanceMethod yX7_pair, Cond.selects RX7 yX7_pair yX7_pair]
def wsL_law_r26 : List Cond := [Cond.code yX7_pair cX7_pair 5 (some .int), Cond.methodLink RX7 166 yX7_nearest, Cond.instanceMethod yX7_nearest, Cond.selects RX7 yX7_nearest yX7_nearest, Cond.code yX7_nearest cX7_nearest 4 (some .int), Cond.methodLink RX7 163 yX7_apart, Cond.instanceMethod yX7_apart, Cond.selects RX7 yX7_apart yX7_apart, Cond.code yX7_apart cX7_apart 4 (some .int), Cond.methodLink RL 80 yX6_count, Cond.instanceMethod yX6_count, Cond.selects RX6 yX6_count yX6_count, Cond.code yX6_count cX6_count 2 (some .int), Cond.fieldLink RX6 184 "BatteryCaches$State" "ticks" "I", Cond.fieldLink RX6 187 "BatteryCaches$State" "hits" "I", Cond.fieldLink RX6 190 "BatteryCaches$State" "misses" "I", Cond.fieldLink RX6 193 "BatteryCaches$State" "flushed" "I", Cond.fieldLink RX6 196 "BatteryCaches$State" "wentThrough" "I", Cond.fieldLink RX6 199 "BatteryCaches$State" "lost" "I", Cond.fieldLink RX6 202 "BatteryCaches$State" "cuts" "I", Cond.fieldLink RX6 205 "BatteryCaches$State" "cyclesEnded" "I", Cond.fieldLink RX6 208 "BatteryCaches$State" "laidInAll" "I", Cond.fieldLink RX6 211 "BatteryCaches$History" "size" "I", Cond.fieldLink RX6 214 "BatteryCaches$Text" "length" "I"]
def wsL_law_r27 : List Cond := [Cond.methodLink RL 83 yX7_count, Cond.instanceMethod yX7_count, Cond.selects RX7 yX7_count yX7_count, Cond.code yX7_count cX7_count 2 (some .int), Cond.fieldLink RX7 169 "BatteryCachesModel" "textLong" "I", Cond.constantLong RX7 172 (20), Cond.constantLong RX7 174 (23), Cond.methodLink RL 84 yX6_undo, Cond.instanceMethod yX6_undo, Cond.selects RX6 yX6_undo yX6_undo, Cond.code yX6_undo cX6_undo 1 (some .int), Cond.methodLink RX6 217 yX1_restore, Cond.instanceMethod yX1_restore, Cond.selects RX1 yX1_restore yX1_restore, Cond.code yX1_restore cX1_restore 2 none, Cond.methodLink RL 87 yX7_undo, Cond.instanceMethod yX7_undo, Cond.selects RX7 yX7_undo yX7_undo, Cond.code yX7_undo cX7_undo 2 (some .int), Cond.methodLink RL 88 yX6_type, Cond.instanceMethod yX6_type, Cond.selects RX6 yX6_type yX6_type, Cond.code yX6_type cX6_type 2 (some .int), Cond.constant RX6 220 (-1000003)]
def wsL_law_r28 : List Cond := [Cond.methodLink RX6 221 yX5_append, Cond.instanceMethod yX5_append, Cond.selects RX5 yX5_append yX5_append, Cond.code yX5_append cX5_append 2 none, Cond.methodLink RL 91 yX7_type, Cond.instanceMethod yX7_type, Cond.selects RX7 yX7_type yX7_type, Cond.code yX7_type cX7_type 2 (some .int), Cond.constantLong RX7 176 (32), Cond.constantLong RX7 178 (126), Cond.constant RX7 180 (-1000003), Cond.methodLink RL 92 yX6_clearText, Cond.instanceMethod yX6_clearText, Cond.selects RX6 yX6_clearText yX6_clearText, Cond.code yX6_clearText cX6_clearText 2 (some .int), Cond.methodLink RL 95 yX7_clearText, Cond.instanceMethod yX7_clearText, Cond.selects RX7 yX7_clearText yX7_clearText, Cond.code yX7_clearText cX7_clearText 2 (some .int), Cond.methodLink RL 96 yX6_fault, Cond.instanceMethod yX6_fault, Cond.selects RX6 yX6_fault yX6_fault, Cond.code yX6_fault cX6_fault 3 (some .int), Cond.fieldLink RX6 228 "BatteryCaches$Rehearsal" "order" "LBatteryCaches$Order;"]
def wsL_law_r29 : List Cond := [Cond.fieldLink RX6 232 "BatteryCaches$Order" "reason" "I", Cond.fieldLink RX6 237 "BatteryCaches$Order" "start" "I", Cond.fieldLink RX6 240 "BatteryCaches$Order" "cause" "I", Cond.methodLink RX6 224 yX3_run, Cond.instanceMethod yX3_run, Cond.selects RX3 yX3_run yX3_run, Cond.code yX3_run cX3_run 4 none, Cond.fieldLink RX3 36 "BatteryCaches$Order" "next" "I", Cond.fieldLink RX3 39 "BatteryCaches$Text" "length" "I", Cond.fieldLink RX3 48 "BatteryCaches$Order" "reason" "I", Cond.methodLink RX3 29 yX4_copy, Cond.methodLink RX3 33 yX2_beginText, Cond.instanceMethod yX2_beginText, Cond.selects RX2 yX2_beginText yX2_beginText, Cond.code yX2_beginText cX2_beginText 1 none, Cond.methodLink RX3 44 yX2_readNext, Cond.instanceMethod yX2_readNext, Cond.selects RX2 yX2_readNext yX2_readNext, Cond.code yX2_readNext cX2_readNext 2 none, Cond.methodLink RX2 33 yX2_hasForm, Cond.instanceMethod yX2_hasForm, Cond.selects RX2 yX2_hasForm yX2_hasForm, Cond.code yX2_hasForm cX2_hasForm 2 (some .boolean), Cond.methodLink RX2 41 yX5_at]
def wsL_law_r30 : List Cond := [Cond.instanceMethod yX5_at, Cond.selects RX5 yX5_at yX5_at, Cond.code yX5_at cX5_at 3 (some .int), Cond.methodLink RX2 47 yX2_readNumber, Cond.instanceMethod yX2_readNumber, Cond.selects RX2 yX2_readNumber yX2_readNumber, Cond.code yX2_readNumber cX2_readNumber 4 (some .int), Cond.methodLink RX2 51 yX2_readSign, Cond.instanceMethod yX2_readSign, Cond.selects RX2 yX2_readSign yX2_readSign, Cond.code yX2_readSign cX2_readSign 3 (some .boolean), Cond.methodLink RX2 55 yX2_hasFormOfWrite, Cond.instanceMethod yX2_hasFormOfWrite, Cond.selects RX2 yX2_hasFormOfWrite yX2_hasFormOfWrite, Cond.code yX2_hasFormOfWrite cX2_hasFormOfWrite 2 (some .boolean), Cond.methodLink RX2 37 yX2_isInRange, Cond.instanceMethod yX2_isInRange, Cond.selects RX2 yX2_isInRange yX2_isInRange, Cond.code yX2_isInRange cX2_isInRange 1 (some .boolean), Cond.methodLink RX3 51 yX3_isPossible, Cond.instanceMethod yX3_isPossible, Cond.selects RX3 yX3_isPossible yX3_isPossible, Cond.code yX3_isPossible cX3_isPossible 1 (some .boolean), Cond.fieldLink RX3 58 "BatteryCaches$Order" "letter" "I"]
def wsL_law_r31 : List Cond := [Cond.fieldLink RX3 61 "BatteryCaches$State" "battery" "LBatteryCaches$Battery;", Cond.fieldLink RX3 65 "BatteryCaches$Battery" "cycle" "I", Cond.methodLink RX3 55 yX3_perform, Cond.instanceMethod yX3_perform, Cond.selects RX3 yX3_perform yX3_perform, Cond.code yX3_perform cX3_perform 1 none, Cond.fieldLink RX3 70 "BatteryCaches$Order" "number" "I", Cond.fieldLink RX3 77 "BatteryCaches$Order" "newValue" "I", Cond.methodLink RX3 73 yX4_readPlace, Cond.methodLink RX3 80 yX4_writePlace, Cond.methodLink RX3 84 yX4_passTicks, Cond.methodLink RX3 87 yX4_putLoad, Cond.methodLink RX3 90 yX4_cutPower, Cond.methodLink RX3 94 yX4_beginCycle, Cond.methodLink RL 99 yX7_fault, Cond.instanceMethod yX7_fault, Cond.selects RX7 yX7_fault yX7_fault, Cond.code yX7_fault cX7_fault 3 (some .int), Cond.constantLong RX7 231 (2), Cond.fieldLink RX7 191 "BatteryCachesModel" "from" "I", Cond.fieldLink RX7 210 "BatteryCachesModel" "why" "I", Cond.fieldLink RX7 213 "BatteryCachesModel" "cause" "I", Cond.methodLink RX7 233 yX7_doesAll, Cond.instanceMethod yX7_doesAll]
def wsL_law_r32 : List Cond := [Cond.selects RX7 yX7_doesAll yX7_doesAll, Cond.code yX7_doesAll cX7_doesAll 2 (some .boolean), Cond.fieldLink RX7 216 "BatteryCachesModel" "done" "I", Cond.fieldLink RX7 181 "BatteryCachesModel" "at" "I", Cond.fieldLink RX7 201 "BatteryCachesModel" "first" "I", Cond.methodLink RX7 219 yX7_readsOrder, Cond.instanceMethod yX7_readsOrder, Cond.selects RX7 yX7_readsOrder yX7_readsOrder, Cond.code yX7_readsOrder cX7_readsOrder 2 (some .boolean), Cond.fieldLink RX7 188 "BatteryCachesModel" "number" "I", Cond.fieldLink RX7 207 "BatteryCachesModel" "second" "I", Cond.methodLink RX7 194 yX7_isOrder, Cond.static yX7_isOrder, Cond.code yX7_isOrder cX7_isOrder 1 (some .boolean), Cond.methodLink RX7 197 yX7_takesNumber, Cond.instanceMethod yX7_takesNumber, Cond.selects RX7 yX7_takesNumber yX7_takesNumber, Cond.code yX7_takesNumber cX7_takesNumber 2 (some .boolean), Cond.methodLink RX7 184 yX7_isHere, Cond.instanceMethod yX7_isHere, Cond.selects RX7 yX7_isHere yX7_isHere, Cond.code yX7_isHere cX7_isHere 3 (some .boolean), Cond.methodLink RX7 204 yX7_takes, Cond.instanceMethod yX7_takes]
def wsL_law_r33 : List Cond := [Cond.selects RX7 yX7_takes yX7_takes, Cond.code yX7_takes cX7_takes 3 (some .boolean), Cond.methodLink RX7 222 yX7_notes, Cond.instanceMethod yX7_notes, Cond.selects RX7 yX7_notes yX7_notes, Cond.code yX7_notes cX7_notes 3 (some .boolean), Cond.methodLink RX7 225 yX7_isInRange, Cond.instanceMethod yX7_isInRange, Cond.selects RX7 yX7_isInRange yX7_isInRange, Cond.code yX7_isInRange cX7_isInRange 2 (some .boolean), Cond.methodLink RX7 228 yX7_doOrder, Cond.instanceMethod yX7_doOrder, Cond.selects RX7 yX7_doOrder yX7_doOrder, Cond.code yX7_doOrder cX7_doOrder 1 (some .int), Cond.methodLink RL 100 yX6_play, Cond.instanceMethod yX6_play, Cond.selects RX6 yX6_play yX6_play, Cond.code yX6_play cX6_play 1 (some .int), Cond.fieldLink RX6 243 "BatteryCaches$Rehearsal" "trial" "LBatteryCaches$State;", Cond.fieldLink RX6 250 "BatteryCaches$Rehearsal" "done" "I", Cond.methodLink RX6 246 yX4_copy, Cond.methodLink RL 103 yX7_play, Cond.instanceMethod yX7_play, Cond.selects RX7 yX7_play yX7_play]
def wsL_law_r34 : List Cond := [Cond.code yX7_play cX7_play 1 (some .int)]
def wsL_law : List Cond := (wsL_law_r1 ++ (wsL_law_r2 ++ (wsL_law_r3 ++ (wsL_law_r4 ++ (wsL_law_r5 ++ (wsL_law_r6 ++ (wsL_law_r7 ++ (wsL_law_r8 ++ (wsL_law_r9 ++ (wsL_law_r10 ++ (wsL_law_r11 ++ (wsL_law_r12 ++ (wsL_law_r13 ++ (wsL_law_r14 ++ (wsL_law_r15 ++ (wsL_law_r16 ++ (wsL_law_r17 ++ (wsL_law_r18 ++ (wsL_law_r19 ++ (wsL_law_r20 ++ (wsL_law_r21 ++ (wsL_law_r22 ++ (wsL_law_r23 ++ (wsL_law_r24 ++ (wsL_law_r25 ++ (wsL_law_r26 ++ (wsL_law_r27 ++ (wsL_law_r28 ++ (wsL_law_r29 ++ (wsL_law_r30 ++ (wsL_law_r31 ++ (wsL_law_r32 ++ (wsL_law_r33 ++ wsL_law_r34))))))))))))))))))))))))))))))))) ++ wsX60 ++ wsX70 ++ wsX40 ++ wsX10 ++ wsX50 ++ wsX30 ++ wsX00 ++ wsX20 ++ ([] : List Cond)
set_option maxRecDepth 20000 in
theorem wsL_law_in : ∀ w ∈ wsL_law, w ∈ lw_tbl := fun w h => (goodIn_p wsL_law [58, 61, 66, 72, 175, 192, 207, 215, 643, 281, 284, 289, 293, 296, 299, 303, 306, 309, 316, 320, 324, 327, 331, 335, 339, 343, 347, 352, 691, 695, 699, 702, 706, 710, 714, 718, 722, 726, 730, 734, 739, 356, 361, 365, 369, 372, 379, 383, 744, 748, 753, 757, 761, 388, 765, 769, 772, 396, 400, 404, 408, 412, 415, 419, 423, 428, 778, 782, 787, 791, 795, 799, 803, 807, 432, 436, 811, 815, 441, 445, 819, 823, 449, 453, 457, 463, 467, 827, 831, 471, 474, 482, 486, 835, 839, 490, 495, 845, 851, 499, 855, 504, 860, 864, 511, 516, 868, 872, 876, 880, 521, 884, 888, 528, 892, 533, 897, 538, 542, 546, 549, 902, 906, 910, 554, 914, 558, 562, 920, 566, 571, 924, 576, 931, 580, 584, 589, 593, 597, 601, 605, 610, 614, 618, 623, 627, 935, 940, 944, 947, 951, 955, 959, 963, 967, 971, 637, 975] (by decide +kernel) (by decide +kernel) w h).1
theorem inlX0 : ∀ w ∈ wsX00, w ∈ wsL_law := fun _ h => List.mem_append_left _ (List.mem_append_left _ (List.mem_append_right _ h))
theorem inX0 : ∀ w ∈ wsX00, w ∈ lw_tbl := fun w h => wsL_law_in w (inlX0 w h)
theorem inlX1 : ∀ w ∈ wsX10, w ∈ wsL_law := fun _ h => List.mem_append_left _ (List.mem_append_left _ (List.mem_append_left _ (List.mem_append_left _ (List.mem_append_left _ (List.mem_append_right _ h)))))
theorem inX1 : ∀ w ∈ wsX10, w ∈ lw_tbl := fun w h => wsL_law_in w (inlX1 w h)
theorem inlX2 : ∀ w ∈ wsX20, w ∈ wsL_law := fun _ h => List.mem_append_left _ (List.mem_append_right _ h)
theorem inX2 : ∀ w ∈ wsX20, w ∈ lw_tbl := fun w h => wsL_law_in w (inlX2 w h)
theorem inlX3 : ∀ w ∈ wsX30, w ∈ wsL_law := fun _ h => List.mem_append_left _ (List.mem_append_left _ (List.mem_append_left _ (List.mem_append_right _ h)))
theorem inX3 : ∀ w ∈ wsX30, w ∈ lw_tbl := fun w h => wsL_law_in w (inlX3 w h)
theorem inlX4 : ∀ w ∈ wsX40, w ∈ wsL_law := fun _ h => List.mem_append_left _ (List.mem_append_left _ (List.mem_append_left _ (List.mem_append_left _ (List.mem_append_left _ (List.mem_append_left _ (List.mem_append_right _ h))))))
theorem inX4 : ∀ w ∈ wsX40, w ∈ lw_tbl := fun w h => wsL_law_in w (inlX4 w h)
theorem inlX5 : ∀ w ∈ wsX50, w ∈ wsL_law := fun _ h => List.mem_append_left _ (List.mem_append_left _ (List.mem_append_left _ (List.mem_append_left _ (List.mem_append_right _ h))))
theorem inX5 : ∀ w ∈ wsX50, w ∈ lw_tbl := fun w h => wsL_law_in w (inlX5 w h)
theorem inlX6 : ∀ w ∈ wsX60, w ∈ wsL_law := fun _ h => List.mem_append_left _ (List.mem_append_left _ (List.mem_append_left _ (List.mem_append_left _ (List.mem_append_left _ (List.mem_append_left _ (List.mem_append_left _ (List.mem_append_left _ (List.mem_append_right _ h))))))))
theorem inX6 : ∀ w ∈ wsX60, w ∈ lw_tbl := fun w h => wsL_law_in w (inlX6 w h)
theorem inlX7 : ∀ w ∈ wsX70, w ∈ wsL_law := fun _ h => List.mem_append_left _ (List.mem_append_left _ (List.mem_append_left _ (List.mem_append_left _ (List.mem_append_left _ (List.mem_append_left _ (List.mem_append_left _ (List.mem_append_right _ h)))))))
theorem inX7 : ∀ w ∈ wsX70, w ∈ lw_tbl := fun w h => wsL_law_in w (inlX7 w h)
theorem inJ6 : ∀ w ∈ wsJ60, w ∈ lw_tbl := by decide +kernel
theorem inJ9 : ∀ w ∈ wsJ90, w ∈ lw_tbl := by decide +kernel
theorem inJ10 : ∀ w ∈ wsJ100, w ∈ lw_tbl := by decide +kernel
theorem dX0_init_0 : decode cX0_init 0 = .ok (.aload_n 0, 1) := by decide +kernel
theorem dX0_init_1 : decode cX0_init 1 = .ok (.invokespecial 3, 3) := by decide +kernel
theorem dX0_init_4 : decode cX0_init 4 = .ok (.aload_n 0, 1) := by decide +kernel
theorem dX0_init_5 : decode cX0_init 5 = .ok (.sipush 1000, 3) := by decide +kernel
theorem dX0_init_8 : decode cX0_init 8 = .ok (.putfield 9, 3) := by decide +kernel
theorem dX0_init_11 : decode cX0_init 11 = .ok (.aload_n 0, 1) := by decide +kernel
theorem dX0_init_12 : decode cX0_init 12 = .ok (.iconst 0, 1) := by decide +kernel
theorem dX0_init_13 : decode cX0_init 13 = .ok (.putfield 15, 3) := by decide +kernel
theorem dX0_init_16 : decode cX0_init 16 = .ok (.aload_n 0, 1) := by decide +kernel
theorem dX0_init_17 : decode cX0_init 17 = .ok (.iconst 0, 1) := by decide +kernel
theorem dX0_init_18 : decode cX0_init 18 = .ok (.putfield 18, 3) := by decide +kernel
theorem dX0_init_21 : decode cX0_init 21 = .ok (.aload_n 0, 1) := by decide +kernel
theorem dX0_init_22 : decode cX0_init 22 = .ok (.bipush 100, 2) := by decide +kernel
theorem dX0_init_24 : decode cX0_init 24 = .ok (.putfield 21, 3) := by decide +kernel
theorem dX0_init_27 : decode cX0_init 27 = .ok (.aload_n 0, 1) := by decide +kernel
theorem dX0_init_28 : decode cX0_init 28 = .ok (.bipush 100, 2) := by decide +kernel
theorem dX0_init_30 : decode cX0_init 30 = .ok (.putfield 24, 3) := by decide +kernel
theorem dX0_init_33 : decode cX0_init 33 = .ok (.aload_n 0, 1) := by decide +kernel
theorem dX0_init_34 : decode cX0_init 34 = .ok (.bipush 20, 2) := by decide +kernel
theorem dX0_init_36 : decode cX0_init 36 = .ok (.putfield 27, 3) := by decide +kernel
theorem dX0_init_39 : decode cX0_init 39 = .ok (.aload_n 0, 1) := by decide +kernel
theorem dX0_init_40 : decode cX0_init 40 = .ok (.sipush 200, 3) := by decide +kernel
theorem dX0_init_43 : decode cX0_init 43 = .ok (.putfield 30, 3) := by decide +kernel
theorem dX0_init_46 : decode cX0_init 46 = .ok (.return_, 1) := by decide +kernel
theorem dX0_copyFrom_0 : decode cX0_copyFrom 0 = .ok (.aload_n 0, 1) := by decide +kernel
theorem dX0_copyFrom_1 : decode cX0_copyFrom 1 = .ok (.aload_n 1, 1) := by decide +kernel
theorem dX0_copyFrom_2 : decode cX0_copyFrom 2 = .ok (.getfield 9, 3) := by decide +kernel
theorem dX0_copyFrom_5 : decode cX0_copyFrom 5 = .ok (.putfield 9, 3) := by decide +kernel
theorem dX0_copyFrom_8 : decode cX0_copyFrom 8 = .ok (.aload_n 0, 1) := by decide +kernel
theorem dX0_copyFrom_9 : decode cX0_copyFrom 9 = .ok (.aload_n 1, 1) := by decide +kernel
theorem dX0_copyFrom_10 : decode cX0_copyFrom 10 = .ok (.getfield 15, 3) := by decide +kernel
theorem dX0_copyFrom_13 : decode cX0_copyFrom 13 = .ok (.putfield 15, 3) := by decide +kernel
theorem dX0_copyFrom_16 : decode cX0_copyFrom 16 = .ok (.aload_n 0, 1) := by decide +kernel
theorem dX0_copyFrom_17 : decode cX0_copyFrom 17 = .ok (.aload_n 1, 1) := by decide +kernel
theorem dX0_copyFrom_18 : decode cX0_copyFrom 18 = .ok (.getfield 18, 3) := by decide +kernel
theorem dX0_copyFrom_21 : decode cX0_copyFrom 21 = .ok (.putfield 18, 3) := by decide +kernel
theorem dX0_copyFrom_24 : decode cX0_copyFrom 24 = .ok (.aload_n 0, 1) := by decide +kernel
theorem dX0_copyFrom_25 : decode cX0_copyFrom 25 = .ok (.aload_n 1, 1) := by decide +kernel
theorem dX0_copyFrom_26 : decode cX0_copyFrom 26 = .ok (.getfield 21, 3) := by decide +kernel
theorem dX0_copyFrom_29 : decode cX0_copyFrom 29 = .ok (.putfield 21, 3) := by decide +kernel
theorem dX0_copyFrom_32 : decode cX0_copyFrom 32 = .ok (.aload_n 0, 1) := by decide +kernel
theorem dX0_copyFrom_33 : decode cX0_copyFrom 33 = .ok (.aload_n 1, 1) := by decide +kernel
theorem dX0_copyFrom_34 : decode cX0_copyFrom 34 = .ok (.getfield 24, 3) := by decide +kernel
theorem dX0_copyFrom_37 : decode cX0_copyFrom 37 = .ok (.putfield 24, 3) := by decide +kernel
theorem dX0_copyFrom_40 : decode cX0_copyFrom 40 = .ok (.aload_n 0, 1) := by decide +kernel
theorem dX0_copyFrom_41 : decode cX0_copyFrom 41 = .ok (.aload_n 1, 1) := by decide +kernel
theorem dX0_copyFrom_42 : decode cX0_copyFrom 42 = .ok (.getfield 27, 3) := by decide +kernel
theorem dX0_copyFrom_45 : decode cX0_copyFrom 45 = .ok (.putfield 27, 3) := by decide +kernel
theorem dX0_copyFrom_48 : decode cX0_copyFrom 48 = .ok (.aload_n 0, 1) := by decide +kernel
theorem dX0_copyFrom_49 : decode cX0_copyFrom 49 = .ok (.aload_n 1, 1) := by decide +kernel
theorem dX0_copyFrom_50 : decode cX0_copyFrom 50 = .ok (.getfield 30, 3) := by decide +kernel
theorem dX0_copyFrom_53 : decode cX0_copyFrom 53 = .ok (.putfield 30, 3) := by decide +kernel
theorem dX0_copyFrom_56 : decode cX0_copyFrom 56 = .ok (.return_, 1) := by decide +kernel
theorem dX0_setting_0 : decode cX0_setting 0 = .ok (.iload_n 1, 1) := by decide +kernel
theorem dX0_setting_1 : decode cX0_setting 1 = .ok (.tableswitch 42 0 2 #[27, 32, 37], 27) := by decide +kernel
theorem dX0_setting_28 : decode cX0_setting 28 = .ok (.aload_n 0, 1) := by decide +kernel
theorem dX0_setting_29 : decode cX0_setting 29 = .ok (.getfield 21, 3) := by decide +kernel
theorem dX0_setting_32 : decode cX0_setting 32 = .ok (.ireturn, 1) := by decide +kernel
theorem dX0_setting_33 : decode cX0_setting 33 = .ok (.aload_n 0, 1) := by decide +kernel
theorem dX0_setting_34 : decode cX0_setting 34 = .ok (.getfield 24, 3) := by decide +kernel
theorem dX0_setting_37 : decode cX0_setting 37 = .ok (.ireturn, 1) := by decide +kernel
theorem dX0_setting_38 : decode cX0_setting 38 = .ok (.aload_n 0, 1) := by decide +kernel
theorem dX0_setting_39 : decode cX0_setting 39 = .ok (.getfield 27, 3) := by decide +kernel
theorem dX0_setting_42 : decode cX0_setting 42 = .ok (.ireturn, 1) := by decide +kernel
theorem dX0_setting_43 : decode cX0_setting 43 = .ok (.aload_n 0, 1) := by decide +kernel
theorem dX0_setting_44 : decode cX0_setting 44 = .ok (.getfield 30, 3) := by decide +kernel
theorem dX0_setting_47 : decode cX0_setting 47 = .ok (.ireturn, 1) := by decide +kernel
theorem dX0_changeSetting_0 : decode cX0_changeSetting 0 = .ok (.iload_n 1, 1) := by decide +kernel
theorem dX0_changeSetting_1 : decode cX0_changeSetting 1 = .ok (.tableswitch 51 0 2 #[27, 35, 43], 27) := by decide +kernel
theorem dX0_changeSetting_28 : decode cX0_changeSetting 28 = .ok (.aload_n 0, 1) := by decide +kernel
theorem dX0_changeSetting_29 : decode cX0_changeSetting 29 = .ok (.iload_n 2, 1) := by decide +kernel
theorem dX0_changeSetting_30 : decode cX0_changeSetting 30 = .ok (.putfield 21, 3) := by decide +kernel
theorem dX0_changeSetting_33 : decode cX0_changeSetting 33 = .ok (.goto 24, 3) := by decide +kernel
theorem dX0_changeSetting_36 : decode cX0_changeSetting 36 = .ok (.aload_n 0, 1) := by decide +kernel
theorem dX0_changeSetting_37 : decode cX0_changeSetting 37 = .ok (.iload_n 2, 1) := by decide +kernel
theorem dX0_changeSetting_38 : decode cX0_changeSetting 38 = .ok (.putfield 24, 3) := by decide +kernel
theorem dX0_changeSetting_41 : decode cX0_changeSetting 41 = .ok (.goto 16, 3) := by decide +kernel
theorem dX0_changeSetting_44 : decode cX0_changeSetting 44 = .ok (.aload_n 0, 1) := by decide +kernel
theorem dX0_changeSetting_45 : decode cX0_changeSetting 45 = .ok (.iload_n 2, 1) := by decide +kernel
theorem dX0_changeSetting_46 : decode cX0_changeSetting 46 = .ok (.putfield 27, 3) := by decide +kernel
theorem dX0_changeSetting_49 : decode cX0_changeSetting 49 = .ok (.goto 8, 3) := by decide +kernel
theorem dX0_changeSetting_52 : decode cX0_changeSetting 52 = .ok (.aload_n 0, 1) := by decide +kernel
theorem dX0_changeSetting_53 : decode cX0_changeSetting 53 = .ok (.iload_n 2, 1) := by decide +kernel
theorem dX0_changeSetting_54 : decode cX0_changeSetting 54 = .ok (.putfield 30, 3) := by decide +kernel
theorem dX0_changeSetting_57 : decode cX0_changeSetting 57 = .ok (.return_, 1) := by decide +kernel
theorem dX0_capacity_0 : decode cX0_capacity 0 = .ok (.sipush 1000, 3) := by decide +kernel
theorem dX0_capacity_3 : decode cX0_capacity 3 = .ok (.bipush 10, 2) := by decide +kernel
theorem dX0_capacity_5 : decode cX0_capacity 5 = .ok (.aload_n 0, 1) := by decide +kernel
theorem dX0_capacity_6 : decode cX0_capacity 6 = .ok (.getfield 15, 3) := by decide +kernel
theorem dX0_capacity_9 : decode cX0_capacity 9 = .ok (.imul, 1) := by decide +kernel
theorem dX0_capacity_10 : decode cX0_capacity 10 = .ok (.isub, 1) := by decide +kernel
theorem dX0_capacity_11 : decode cX0_capacity 11 = .ok (.ireturn, 1) := by decide +kernel
set_option maxRecDepth 20000 in
theorem ggX0_allowance_X0_savable : GoodIn wsX0_allowance wsX0_savable := goodIn_r _ [6, 7, 8, 9, 10, 11, 12, 13, 14, 15, 16, 17, 18, 19, 20] (by decide +kernel) (by decide +kernel)
set_option maxRecDepth 20000 in
theorem gX0_allowance_X0_savable : GoodIn wsX0_allowance (wsV RX0 33 RX0 yX0_savable wsX0_savable) := goodIn_app (goodIn_of _ (by decide +kernel)) ggX0_allowance_X0_savable
theorem dX0_allowance_0 : decode cX0_allowance 0 = .ok (.aload_n 0, 1) := by decide +kernel
theorem dX0_allowance_1 : decode cX0_allowance 1 = .ok (.getfield 18, 3) := by decide +kernel
theorem dX0_allowance_4 : decode cX0_allowance 4 = .ok (.ifCond .ne 10, 3) := by decide +kernel
theorem dX0_allowance_7 : decode cX0_allowance 7 = .ok (.aload_n 0, 1) := by decide +kernel
theorem dX0_allowance_8 : decode cX0_allowance 8 = .ok (.invokevirtual 33, 3) := by decide +kernel
theorem dX0_allowance_11 : decode cX0_allowance 11 = .ok (.goto 4, 3) := by decide +kernel
theorem dX0_allowance_14 : decode cX0_allowance 14 = .ok (.iconst 0, 1) := by decide +kernel
theorem dX0_allowance_15 : decode cX0_allowance 15 = .ok (.ireturn, 1) := by decide +kernel
theorem dX0_savable_0 : decode cX0_savable 0 = .ok (.aload_n 0, 1) := by decide +kernel
theorem dX0_savable_1 : decode cX0_savable 1 = .ok (.getfield 9, 3) := by decide +kernel
theorem dX0_savable_4 : decode cX0_savable 4 = .ok (.aload_n 0, 1) := by decide +kernel
theorem dX0_savable_5 : decode cX0_savable 5 = .ok (.getfield 24, 3) := by decide +kernel
theorem dX0_savable_8 : decode cX0_savable 8 = .ok (.if_icmp .lt 11, 3) := by decide +kernel
theorem dX0_savable_11 : decode cX0_savable 11 = .ok (.aload_n 0, 1) := by decide +kernel
theorem dX0_savable_12 : decode cX0_savable 12 = .ok (.getfield 21, 3) := by decide +kernel
theorem dX0_savable_15 : decode cX0_savable 15 = .ok (.iconst 1, 1) := by decide +kernel
theorem dX0_savable_16 : decode cX0_savable 16 = .ok (.if_icmp .ge 5, 3) := by decide +kernel
theorem dX0_savable_19 : decode cX0_savable 19 = .ok (.iconst 0, 1) := by decide +kernel
theorem dX0_savable_20 : decode cX0_savable 20 = .ok (.ireturn, 1) := by decide +kernel
theorem dX0_savable_21 : decode cX0_savable 21 = .ok (.aload_n 0, 1) := by decide +kernel
theorem dX0_savable_22 : decode cX0_savable 22 = .ok (.getfield 9, 3) := by decide +kernel
theorem dX0_savable_25 : decode cX0_savable 25 = .ok (.aload_n 0, 1) := by decide +kernel
theorem dX0_savable_26 : decode cX0_savable 26 = .ok (.getfield 24, 3) := by decide +kernel
theorem dX0_savable_29 : decode cX0_savable 29 = .ok (.isub, 1) := by decide +kernel
theorem dX0_savable_30 : decode cX0_savable 30 = .ok (.aload_n 0, 1) := by decide +kernel
theorem dX0_savable_31 : decode cX0_savable 31 = .ok (.getfield 21, 3) := by decide +kernel
theorem dX0_savable_34 : decode cX0_savable 34 = .ok (.idiv, 1) := by decide +kernel
theorem dX0_savable_35 : decode cX0_savable 35 = .ok (.bipush 8, 2) := by decide +kernel
theorem dX0_savable_37 : decode cX0_savable 37 = .ok (.invokestatic 37, 3) := by decide +kernel
theorem dX0_savable_40 : decode cX0_savable 40 = .ok (.ireturn, 1) := by decide +kernel
theorem dX0_costToSave_0 : decode cX0_costToSave 0 = .ok (.aload_n 0, 1) := by decide +kernel
theorem dX0_costToSave_1 : decode cX0_costToSave 1 = .ok (.getfield 24, 3) := by decide +kernel
theorem dX0_costToSave_4 : decode cX0_costToSave 4 = .ok (.iload_n 1, 1) := by decide +kernel
theorem dX0_costToSave_5 : decode cX0_costToSave 5 = .ok (.aload_n 0, 1) := by decide +kernel
theorem dX0_costToSave_6 : decode cX0_costToSave 6 = .ok (.getfield 21, 3) := by decide +kernel
theorem dX0_costToSave_9 : decode cX0_costToSave 9 = .ok (.imul, 1) := by decide +kernel
theorem dX0_costToSave_10 : decode cX0_costToSave 10 = .ok (.iadd, 1) := by decide +kernel
theorem dX0_costToSave_11 : decode cX0_costToSave 11 = .ok (.ireturn, 1) := by decide +kernel
theorem dX0_useUp_0 : decode cX0_useUp 0 = .ok (.aload_n 0, 1) := by decide +kernel
theorem dX0_useUp_1 : decode cX0_useUp 1 = .ok (.aload_n 0, 1) := by decide +kernel
theorem dX0_useUp_2 : decode cX0_useUp 2 = .ok (.getfield 9, 3) := by decide +kernel
theorem dX0_useUp_5 : decode cX0_useUp 5 = .ok (.iload_n 1, 1) := by decide +kernel
theorem dX0_useUp_6 : decode cX0_useUp 6 = .ok (.isub, 1) := by decide +kernel
theorem dX0_useUp_7 : decode cX0_useUp 7 = .ok (.iconst 0, 1) := by decide +kernel
theorem dX0_useUp_8 : decode cX0_useUp 8 = .ok (.invokestatic 43, 3) := by decide +kernel
theorem dX0_useUp_11 : decode cX0_useUp 11 = .ok (.putfield 9, 3) := by decide +kernel
theorem dX0_useUp_14 : decode cX0_useUp 14 = .ok (.return_, 1) := by decide +kernel
set_option maxRecDepth 20000 in
theorem ggX0_saveAtCut_X0_costToSave : GoodIn wsX0_saveAtCut wsX0_costToSave := goodIn_r _ [6, 7, 8, 18, 19, 20, 21, 22, 23, 24] (by decide +kernel) (by decide +kernel)
set_option maxRecDepth 20000 in
theorem gX0_saveAtCut_X0_costToSave : GoodIn wsX0_saveAtCut (wsV RX0 46 RX0 yX0_costToSave wsX0_costToSave) := goodIn_app (goodIn_of _ (by decide +kernel)) ggX0_saveAtCut_X0_costToSave
set_option maxRecDepth 20000 in
theorem ggX0_saveAtCut_X0_useUp : GoodIn wsX0_saveAtCut wsX0_useUp := goodIn_r _ [12, 13, 14, 15, 16, 17, 18, 19, 20, 21, 22, 23, 24] (by decide +kernel) (by decide +kernel)
set_option maxRecDepth 20000 in
theorem gX0_saveAtCut_X0_useUp : GoodIn wsX0_saveAtCut (wsV RX0 50 RX0 yX0_useUp wsX0_useUp) := goodIn_app (goodIn_of _ (by decide +kernel)) ggX0_saveAtCut_X0_useUp
theorem dX0_saveAtCut_0 : decode cX0_saveAtCut 0 = .ok (.aload_n 0, 1) := by decide +kernel
theorem dX0_saveAtCut_1 : decode cX0_saveAtCut 1 = .ok (.aload_n 0, 1) := by decide +kernel
theorem dX0_saveAtCut_2 : decode cX0_saveAtCut 2 = .ok (.iload_n 1, 1) := by decide +kernel
theorem dX0_saveAtCut_3 : decode cX0_saveAtCut 3 = .ok (.invokevirtual 46, 3) := by decide +kernel
theorem dX0_saveAtCut_6 : decode cX0_saveAtCut 6 = .ok (.invokevirtual 50, 3) := by decide +kernel
theorem dX0_saveAtCut_9 : decode cX0_saveAtCut 9 = .ok (.aload_n 0, 1) := by decide +kernel
theorem dX0_saveAtCut_10 : decode cX0_saveAtCut 10 = .ok (.iconst 0, 1) := by decide +kernel
theorem dX0_saveAtCut_11 : decode cX0_saveAtCut 11 = .ok (.putfield 18, 3) := by decide +kernel
theorem dX0_saveAtCut_14 : decode cX0_saveAtCut 14 = .ok (.return_, 1) := by decide +kernel
set_option maxRecDepth 20000 in
theorem ggX0_passTick_X0_fallInCycle : GoodIn wsX0_passTick wsX0_fallInCycle := goodIn_r _ [12, 13, 2, 14, 4, 5, 6, 7, 1, 15, 16, 17, 11, 18, 19, 20, 21, 26, 27, 28, 29, 30, 31, 32] (by decide +kernel) (by decide +kernel)
set_option maxRecDepth 20000 in
theorem gX0_passTick_X0_fallInCycle : GoodIn wsX0_passTick (wsV RX0 54 RX0 yX0_fallInCycle wsX0_fallInCycle) := goodIn_app (goodIn_of _ (by decide +kernel)) ggX0_passTick_X0_fallInCycle
set_option maxRecDepth 20000 in
theorem ggX0_passTick_X0_capacity : GoodIn wsX0_passTick wsX0_capacity := goodIn_r _ [25, 14, 26, 27, 28, 29, 30, 31, 32] (by decide +kernel) (by decide +kernel)
set_option maxRecDepth 20000 in
theorem gX0_passTick_X0_capacity : GoodIn wsX0_passTick (wsV RX0 57 RX0 yX0_capacity wsX0_capacity) := goodIn_app (goodIn_of _ (by decide +kernel)) ggX0_passTick_X0_capacity
theorem dX0_passTick_0 : decode cX0_passTick 0 = .ok (.aload_n 0, 1) := by decide +kernel
theorem dX0_passTick_1 : decode cX0_passTick 1 = .ok (.getfield 18, 3) := by decide +kernel
theorem dX0_passTick_4 : decode cX0_passTick 4 = .ok (.iconst 1, 1) := by decide +kernel
theorem dX0_passTick_5 : decode cX0_passTick 5 = .ok (.if_icmp .ne 9, 3) := by decide +kernel
theorem dX0_passTick_8 : decode cX0_passTick 8 = .ok (.aload_n 0, 1) := by decide +kernel
theorem dX0_passTick_9 : decode cX0_passTick 9 = .ok (.invokevirtual 54, 3) := by decide +kernel
theorem dX0_passTick_12 : decode cX0_passTick 12 = .ok (.iconst 0, 1) := by decide +kernel
theorem dX0_passTick_13 : decode cX0_passTick 13 = .ok (.ireturn, 1) := by decide +kernel
theorem dX0_passTick_14 : decode cX0_passTick 14 = .ok (.aload_n 0, 1) := by decide +kernel
theorem dX0_passTick_15 : decode cX0_passTick 15 = .ok (.aload_n 0, 1) := by decide +kernel
theorem dX0_passTick_16 : decode cX0_passTick 16 = .ok (.getfield 9, 3) := by decide +kernel
theorem dX0_passTick_19 : decode cX0_passTick 19 = .ok (.aload_n 0, 1) := by decide +kernel
theorem dX0_passTick_20 : decode cX0_passTick 20 = .ok (.getfield 27, 3) := by decide +kernel
theorem dX0_passTick_23 : decode cX0_passTick 23 = .ok (.iadd, 1) := by decide +kernel
theorem dX0_passTick_24 : decode cX0_passTick 24 = .ok (.aload_n 0, 1) := by decide +kernel
theorem dX0_passTick_25 : decode cX0_passTick 25 = .ok (.invokevirtual 57, 3) := by decide +kernel
theorem dX0_passTick_28 : decode cX0_passTick 28 = .ok (.invokestatic 37, 3) := by decide +kernel
theorem dX0_passTick_31 : decode cX0_passTick 31 = .ok (.putfield 9, 3) := by decide +kernel
theorem dX0_passTick_34 : decode cX0_passTick 34 = .ok (.aload_n 0, 1) := by decide +kernel
theorem dX0_passTick_35 : decode cX0_passTick 35 = .ok (.getfield 18, 3) := by decide +kernel
theorem dX0_passTick_38 : decode cX0_passTick 38 = .ok (.iconst 2, 1) := by decide +kernel
theorem dX0_passTick_39 : decode cX0_passTick 39 = .ok (.if_icmp .ne 21, 3) := by decide +kernel
theorem dX0_passTick_42 : decode cX0_passTick 42 = .ok (.aload_n 0, 1) := by decide +kernel
theorem dX0_passTick_43 : decode cX0_passTick 43 = .ok (.getfield 9, 3) := by decide +kernel
theorem dX0_passTick_46 : decode cX0_passTick 46 = .ok (.aload_n 0, 1) := by decide +kernel
theorem dX0_passTick_47 : decode cX0_passTick 47 = .ok (.invokevirtual 57, 3) := by decide +kernel
theorem dX0_passTick_50 : decode cX0_passTick 50 = .ok (.if_icmp .ne 10, 3) := by decide +kernel
theorem dX0_passTick_53 : decode cX0_passTick 53 = .ok (.aload_n 0, 1) := by decide +kernel
theorem dX0_passTick_54 : decode cX0_passTick 54 = .ok (.iconst 0, 1) := by decide +kernel
theorem dX0_passTick_55 : decode cX0_passTick 55 = .ok (.putfield 18, 3) := by decide +kernel
theorem dX0_passTick_58 : decode cX0_passTick 58 = .ok (.iconst 1, 1) := by decide +kernel
theorem dX0_passTick_59 : decode cX0_passTick 59 = .ok (.ireturn, 1) := by decide +kernel
theorem dX0_passTick_60 : decode cX0_passTick 60 = .ok (.iconst 0, 1) := by decide +kernel
theorem dX0_passTick_61 : decode cX0_passTick 61 = .ok (.ireturn, 1) := by decide +kernel
set_option maxRecDepth 20000 in
theorem ggX0_fallInCycle_X0_useUp : GoodIn wsX0_fallInCycle wsX0_useUp := goodIn_r _ [13, 2, 14, 15, 6, 16, 17, 18, 19, 20, 21, 22, 23] (by decide +kernel) (by decide +kernel)
set_option maxRecDepth 20000 in
theorem gX0_fallInCycle_X0_useUp : GoodIn wsX0_fallInCycle (wsV RX0 50 RX0 yX0_useUp wsX0_useUp) := goodIn_app (goodIn_of _ (by decide +kernel)) ggX0_fallInCycle_X0_useUp
theorem dX0_fallInCycle_0 : decode cX0_fallInCycle 0 = .ok (.aload_n 0, 1) := by decide +kernel
theorem dX0_fallInCycle_1 : decode cX0_fallInCycle 1 = .ok (.aload_n 0, 1) := by decide +kernel
theorem dX0_fallInCycle_2 : decode cX0_fallInCycle 2 = .ok (.getfield 30, 3) := by decide +kernel
theorem dX0_fallInCycle_5 : decode cX0_fallInCycle 5 = .ok (.invokevirtual 50, 3) := by decide +kernel
theorem dX0_fallInCycle_8 : decode cX0_fallInCycle 8 = .ok (.aload_n 0, 1) := by decide +kernel
theorem dX0_fallInCycle_9 : decode cX0_fallInCycle 9 = .ok (.getfield 9, 3) := by decide +kernel
theorem dX0_fallInCycle_12 : decode cX0_fallInCycle 12 = .ok (.ifCond .ne 23, 3) := by decide +kernel
theorem dX0_fallInCycle_15 : decode cX0_fallInCycle 15 = .ok (.aload_n 0, 1) := by decide +kernel
theorem dX0_fallInCycle_16 : decode cX0_fallInCycle 16 = .ok (.aload_n 0, 1) := by decide +kernel
theorem dX0_fallInCycle_17 : decode cX0_fallInCycle 17 = .ok (.getfield 15, 3) := by decide +kernel
theorem dX0_fallInCycle_20 : decode cX0_fallInCycle 20 = .ok (.iconst 1, 1) := by decide +kernel
theorem dX0_fallInCycle_21 : decode cX0_fallInCycle 21 = .ok (.iadd, 1) := by decide +kernel
theorem dX0_fallInCycle_22 : decode cX0_fallInCycle 22 = .ok (.bipush 90, 2) := by decide +kernel
theorem dX0_fallInCycle_24 : decode cX0_fallInCycle 24 = .ok (.invokestatic 37, 3) := by decide +kernel
theorem dX0_fallInCycle_27 : decode cX0_fallInCycle 27 = .ok (.putfield 15, 3) := by decide +kernel
theorem dX0_fallInCycle_30 : decode cX0_fallInCycle 30 = .ok (.aload_n 0, 1) := by decide +kernel
theorem dX0_fallInCycle_31 : decode cX0_fallInCycle 31 = .ok (.iconst 2, 1) := by decide +kernel
theorem dX0_fallInCycle_32 : decode cX0_fallInCycle 32 = .ok (.putfield 18, 3) := by decide +kernel
theorem dX0_fallInCycle_35 : decode cX0_fallInCycle 35 = .ok (.return_, 1) := by decide +kernel
set_option maxRecDepth 20000 in
theorem ggX1_init_X4_init : GoodIn wsX1_init wsX4_init := goodIn_r _ [10, 11, 2, 3, 12, 13, 14, 15, 16, 17, 18, 19, 20, 21, 22, 23, 24, 25, 26, 27, 28, 29, 30, 31, 32, 33, 34, 35, 36, 37, 38, 39, 40, 41, 42, 62, 63, 64, 65, 66, 67, 68, 45, 46, 47, 48, 49, 50, 51, 52, 53, 54, 55, 56, 57, 58, 59, 60, 61] (by decide +kernel) (by decide +kernel)
set_option maxRecDepth 20000 in
theorem gX1_init_X4_init_n21 : GoodIn wsX1_init (wsX4_init) := ggX1_init_X4_init
theorem dX1_init_0 : decode cX1_init 0 = .ok (.aload_n 0, 1) := by decide +kernel
theorem dX1_init_1 : decode cX1_init 1 = .ok (.invokespecial 3, 3) := by decide +kernel
theorem dX1_init_4 : decode cX1_init 4 = .ok (.aload_n 0, 1) := by decide +kernel
theorem dX1_init_5 : decode cX1_init 5 = .ok (.iconst 4, 1) := by decide +kernel
theorem dX1_init_6 : decode cX1_init 6 = .ok (.anewarray 9, 3) := by decide +kernel
theorem dX1_init_9 : decode cX1_init 9 = .ok (.putfield 11, 3) := by decide +kernel
theorem dX1_init_12 : decode cX1_init 12 = .ok (.aload_n 0, 1) := by decide +kernel
theorem dX1_init_13 : decode cX1_init 13 = .ok (.iconst 0, 1) := by decide +kernel
theorem dX1_init_14 : decode cX1_init 14 = .ok (.putfield 17, 3) := by decide +kernel
theorem dX1_init_17 : decode cX1_init 17 = .ok (.iconst 0, 1) := by decide +kernel
theorem dX1_init_18 : decode cX1_init 18 = .ok (.istore_n 1, 1) := by decide +kernel
theorem dX1_init_19 : decode cX1_init 19 = .ok (.iload_n 1, 1) := by decide +kernel
theorem dX1_init_20 : decode cX1_init 20 = .ok (.iconst 4, 1) := by decide +kernel
theorem dX1_init_21 : decode cX1_init 21 = .ok (.if_icmp .ge 22, 3) := by decide +kernel
theorem dX1_init_24 : decode cX1_init 24 = .ok (.aload_n 0, 1) := by decide +kernel
theorem dX1_init_25 : decode cX1_init 25 = .ok (.getfield 11, 3) := by decide +kernel
theorem dX1_init_28 : decode cX1_init 28 = .ok (.iload_n 1, 1) := by decide +kernel
theorem dX1_init_29 : decode cX1_init 29 = .ok (.new 9, 3) := by decide +kernel
theorem dX1_init_32 : decode cX1_init 32 = .ok (.dup, 1) := by decide +kernel
theorem dX1_init_33 : decode cX1_init 33 = .ok (.invokespecial 21, 3) := by decide +kernel
theorem dX1_init_36 : decode cX1_init 36 = .ok (.aastore, 1) := by decide +kernel
theorem dX1_init_37 : decode cX1_init 37 = .ok (.iinc 1 1, 3) := by decide +kernel
theorem dX1_init_40 : decode cX1_init 40 = .ok (.goto (-21), 3) := by decide +kernel
theorem dX1_init_43 : decode cX1_init 43 = .ok (.return_, 1) := by decide +kernel
set_option maxRecDepth 20000 in
theorem ggX1_keep_X1_dropOldest : GoodIn wsX1_keep wsX1_dropOldest := goodIn_r _ [7, 2, 1, 54, 55] (by decide +kernel) (by decide +kernel)
set_option maxRecDepth 20000 in
theorem gX1_keep_X1_dropOldest : GoodIn wsX1_keep (wsV RX1 22 RX1 yX1_dropOldest wsX1_dropOldest) := goodIn_app (goodIn_of _ (by decide +kernel)) ggX1_keep_X1_dropOldest
set_option maxRecDepth 20000 in
theorem ggX1_keep_X6_isWithin : GoodIn wsX1_keep wsX6_isWithin := goodIn_r _ [10] (by decide +kernel) (by decide +kernel)
set_option maxRecDepth 20000 in
theorem gX1_keep_X6_isWithin_n25 : GoodIn wsX1_keep (wsX6_isWithin) := ggX1_keep_X6_isWithin
set_option maxRecDepth 20000 in
theorem ggX1_keep_X4_copy : GoodIn wsX1_keep wsX4_copy := goodIn_r _ [14, 15, 16, 17, 18, 19, 20, 21, 22, 23, 24, 25, 26, 27, 28, 29, 30, 31, 32, 33, 34, 35, 36, 37, 38, 39, 40, 41, 42, 43, 44, 9, 45, 46, 47, 48, 49, 50, 51, 52, 53, 56, 57, 58, 59, 60, 61, 62, 63, 64, 65, 66, 67, 68, 69, 70, 71, 72, 73, 74, 75, 76, 77, 78, 79] (by decide +kernel) (by decide +kernel)
set_option maxRecDepth 20000 in
theorem gX1_keep_X4_copy : GoodIn wsX1_keep (va_wsS RX1 29 yX4_copy wsX4_copy) := goodIn_app (goodIn_of _ (by decide +kernel)) ggX1_keep_X4_copy
theorem dX1_keep_0 : decode cX1_keep 0 = .ok (.aload_n 0, 1) := by decide +kernel
theorem dX1_keep_1 : decode cX1_keep 1 = .ok (.getfield 17, 3) := by decide +kernel
theorem dX1_keep_4 : decode cX1_keep 4 = .ok (.iconst 4, 1) := by decide +kernel
theorem dX1_keep_5 : decode cX1_keep 5 = .ok (.if_icmp .lt 7, 3) := by decide +kernel
theorem dX1_keep_8 : decode cX1_keep 8 = .ok (.aload_n 0, 1) := by decide +kernel
theorem dX1_keep_9 : decode cX1_keep 9 = .ok (.invokevirtual 22, 3) := by decide +kernel
theorem dX1_keep_12 : decode cX1_keep 12 = .ok (.aload_n 0, 1) := by decide +kernel
theorem dX1_keep_13 : decode cX1_keep 13 = .ok (.getfield 17, 3) := by decide +kernel
theorem dX1_keep_16 : decode cX1_keep 16 = .ok (.iconst 0, 1) := by decide +kernel
theorem dX1_keep_17 : decode cX1_keep 17 = .ok (.iconst 3, 1) := by decide +kernel
theorem dX1_keep_18 : decode cX1_keep 18 = .ok (.invokestatic 25, 3) := by decide +kernel
theorem dX1_keep_21 : decode cX1_keep 21 = .ok (.ifCond .eq 26, 3) := by decide +kernel
theorem dX1_keep_24 : decode cX1_keep 24 = .ok (.aload_n 1, 1) := by decide +kernel
theorem dX1_keep_25 : decode cX1_keep 25 = .ok (.aload_n 0, 1) := by decide +kernel
theorem dX1_keep_26 : decode cX1_keep 26 = .ok (.getfield 11, 3) := by decide +kernel
theorem dX1_keep_29 : decode cX1_keep 29 = .ok (.aload_n 0, 1) := by decide +kernel
theorem dX1_keep_30 : decode cX1_keep 30 = .ok (.getfield 17, 3) := by decide +kernel
theorem dX1_keep_33 : decode cX1_keep 33 = .ok (.aaload, 1) := by decide +kernel
theorem dX1_keep_34 : decode cX1_keep 34 = .ok (.invokestatic 29, 3) := by decide +kernel
theorem dX1_keep_37 : decode cX1_keep 37 = .ok (.aload_n 0, 1) := by decide +kernel
theorem dX1_keep_38 : decode cX1_keep 38 = .ok (.dup, 1) := by decide +kernel
theorem dX1_keep_39 : decode cX1_keep 39 = .ok (.getfield 17, 3) := by decide +kernel
theorem dX1_keep_42 : decode cX1_keep 42 = .ok (.iconst 1, 1) := by decide +kernel
theorem dX1_keep_43 : decode cX1_keep 43 = .ok (.iadd, 1) := by decide +kernel
theorem dX1_keep_44 : decode cX1_keep 44 = .ok (.putfield 17, 3) := by decide +kernel
theorem dX1_keep_47 : decode cX1_keep 47 = .ok (.return_, 1) := by decide +kernel
set_option maxRecDepth 20000 in
theorem ggX1_restore_X6_isWithin : GoodIn wsX1_restore wsX6_isWithin := goodIn_r _ [5] (by decide +kernel) (by decide +kernel)
set_option maxRecDepth 20000 in
theorem gX1_restore_X6_isWithin_n25 : GoodIn wsX1_restore (wsX6_isWithin) := ggX1_restore_X6_isWithin
set_option maxRecDepth 20000 in
theorem ggX1_restore_X4_copy : GoodIn wsX1_restore wsX4_copy := goodIn_r _ [9, 10, 11, 12, 13, 14, 15, 16, 17, 18, 19, 20, 21, 22, 23, 24, 25, 26, 27, 28, 29, 30, 31, 32, 33, 34, 35, 36, 37, 38, 39, 4, 40, 41, 42, 43, 44, 45, 46, 47, 48, 51, 52, 53, 54, 55, 56, 57, 58, 59, 60, 61, 62, 63, 64, 65, 66, 67, 68, 69, 70, 71, 72, 73, 74] (by decide +kernel) (by decide +kernel)
set_option maxRecDepth 20000 in
theorem gX1_restore_X4_copy : GoodIn wsX1_restore (va_wsS RX1 29 yX4_copy wsX4_copy) := goodIn_app (goodIn_of _ (by decide +kernel)) ggX1_restore_X4_copy
theorem dX1_restore_0 : decode cX1_restore 0 = .ok (.aload_n 0, 1) := by decide +kernel
theorem dX1_restore_1 : decode cX1_restore 1 = .ok (.getfield 17, 3) := by decide +kernel
theorem dX1_restore_4 : decode cX1_restore 4 = .ok (.iconst 1, 1) := by decide +kernel
theorem dX1_restore_5 : decode cX1_restore 5 = .ok (.iconst 4, 1) := by decide +kernel
theorem dX1_restore_6 : decode cX1_restore 6 = .ok (.invokestatic 25, 3) := by decide +kernel
theorem dX1_restore_9 : decode cX1_restore 9 = .ok (.ifCond .eq 26, 3) := by decide +kernel
theorem dX1_restore_12 : decode cX1_restore 12 = .ok (.aload_n 0, 1) := by decide +kernel
theorem dX1_restore_13 : decode cX1_restore 13 = .ok (.dup, 1) := by decide +kernel
theorem dX1_restore_14 : decode cX1_restore 14 = .ok (.getfield 17, 3) := by decide +kernel
theorem dX1_restore_17 : decode cX1_restore 17 = .ok (.iconst 1, 1) := by decide +kernel
theorem dX1_restore_18 : decode cX1_restore 18 = .ok (.isub, 1) := by decide +kernel
theorem dX1_restore_19 : decode cX1_restore 19 = .ok (.putfield 17, 3) := by decide +kernel
theorem dX1_restore_22 : decode cX1_restore 22 = .ok (.aload_n 0, 1) := by decide +kernel
theorem dX1_restore_23 : decode cX1_restore 23 = .ok (.getfield 11, 3) := by decide +kernel
theorem dX1_restore_26 : decode cX1_restore 26 = .ok (.aload_n 0, 1) := by decide +kernel
theorem dX1_restore_27 : decode cX1_restore 27 = .ok (.getfield 17, 3) := by decide +kernel
theorem dX1_restore_30 : decode cX1_restore 30 = .ok (.aaload, 1) := by decide +kernel
theorem dX1_restore_31 : decode cX1_restore 31 = .ok (.aload_n 1, 1) := by decide +kernel
theorem dX1_restore_32 : decode cX1_restore 32 = .ok (.invokestatic 29, 3) := by decide +kernel
theorem dX1_restore_35 : decode cX1_restore 35 = .ok (.return_, 1) := by decide +kernel
theorem dX1_dropOldest_0 : decode cX1_dropOldest 0 = .ok (.aload_n 0, 1) := by decide +kernel
theorem dX1_dropOldest_1 : decode cX1_dropOldest 1 = .ok (.getfield 11, 3) := by decide +kernel
theorem dX1_dropOldest_4 : decode cX1_dropOldest 4 = .ok (.iconst 0, 1) := by decide +kernel
theorem dX1_dropOldest_5 : decode cX1_dropOldest 5 = .ok (.aaload, 1) := by decide +kernel
theorem dX1_dropOldest_6 : decode cX1_dropOldest 6 = .ok (.astore_n 1, 1) := by decide +kernel
theorem dX1_dropOldest_7 : decode cX1_dropOldest 7 = .ok (.iconst 1, 1) := by decide +kernel
theorem dX1_dropOldest_8 : decode cX1_dropOldest 8 = .ok (.istore_n 2, 1) := by decide +kernel
theorem dX1_dropOldest_9 : decode cX1_dropOldest 9 = .ok (.iload_n 2, 1) := by decide +kernel
theorem dX1_dropOldest_10 : decode cX1_dropOldest 10 = .ok (.iconst 4, 1) := by decide +kernel
theorem dX1_dropOldest_11 : decode cX1_dropOldest 11 = .ok (.if_icmp .ge 23, 3) := by decide +kernel
theorem dX1_dropOldest_14 : decode cX1_dropOldest 14 = .ok (.aload_n 0, 1) := by decide +kernel
theorem dX1_dropOldest_15 : decode cX1_dropOldest 15 = .ok (.getfield 11, 3) := by decide +kernel
theorem dX1_dropOldest_18 : decode cX1_dropOldest 18 = .ok (.iload_n 2, 1) := by decide +kernel
theorem dX1_dropOldest_19 : decode cX1_dropOldest 19 = .ok (.iconst 1, 1) := by decide +kernel
theorem dX1_dropOldest_20 : decode cX1_dropOldest 20 = .ok (.isub, 1) := by decide +kernel
theorem dX1_dropOldest_21 : decode cX1_dropOldest 21 = .ok (.aload_n 0, 1) := by decide +kernel
theorem dX1_dropOldest_22 : decode cX1_dropOldest 22 = .ok (.getfield 11, 3) := by decide +kernel
theorem dX1_dropOldest_25 : decode cX1_dropOldest 25 = .ok (.iload_n 2, 1) := by decide +kernel
theorem dX1_dropOldest_26 : decode cX1_dropOldest 26 = .ok (.aaload, 1) := by decide +kernel
theorem dX1_dropOldest_27 : decode cX1_dropOldest 27 = .ok (.aastore, 1) := by decide +kernel
theorem dX1_dropOldest_28 : decode cX1_dropOldest 28 = .ok (.iinc 2 1, 3) := by decide +kernel
theorem dX1_dropOldest_31 : decode cX1_dropOldest 31 = .ok (.goto (-22), 3) := by decide +kernel
theorem dX1_dropOldest_34 : decode cX1_dropOldest 34 = .ok (.aload_n 0, 1) := by decide +kernel
theorem dX1_dropOldest_35 : decode cX1_dropOldest 35 = .ok (.getfield 11, 3) := by decide +kernel
theorem dX1_dropOldest_38 : decode cX1_dropOldest 38 = .ok (.iconst 3, 1) := by decide +kernel
theorem dX1_dropOldest_39 : decode cX1_dropOldest 39 = .ok (.aload_n 1, 1) := by decide +kernel
theorem dX1_dropOldest_40 : decode cX1_dropOldest 40 = .ok (.aastore, 1) := by decide +kernel
theorem dX1_dropOldest_41 : decode cX1_dropOldest 41 = .ok (.aload_n 0, 1) := by decide +kernel
theorem dX1_dropOldest_42 : decode cX1_dropOldest 42 = .ok (.iconst 3, 1) := by decide +kernel
theorem dX1_dropOldest_43 : decode cX1_dropOldest 43 = .ok (.putfield 17, 3) := by decide +kernel
theorem dX1_dropOldest_46 : decode cX1_dropOldest 46 = .ok (.return_, 1) := by decide +kernel
theorem dX2_init_0 : decode cX2_init 0 = .ok (.aload_n 0, 1) := by decide +kernel
theorem dX2_init_1 : decode cX2_init 1 = .ok (.invokespecial 3, 3) := by decide +kernel
theorem dX2_init_4 : decode cX2_init 4 = .ok (.aload_n 0, 1) := by decide +kernel
theorem dX2_init_5 : decode cX2_init 5 = .ok (.iconst 0, 1) := by decide +kernel
theorem dX2_init_6 : decode cX2_init 6 = .ok (.putfield 9, 3) := by decide +kernel
theorem dX2_init_9 : decode cX2_init 9 = .ok (.aload_n 0, 1) := by decide +kernel
theorem dX2_init_10 : decode cX2_init 10 = .ok (.iconst 0, 1) := by decide +kernel
theorem dX2_init_11 : decode cX2_init 11 = .ok (.putfield 15, 3) := by decide +kernel
theorem dX2_init_14 : decode cX2_init 14 = .ok (.aload_n 0, 1) := by decide +kernel
theorem dX2_init_15 : decode cX2_init 15 = .ok (.iconst (-1), 1) := by decide +kernel
theorem dX2_init_16 : decode cX2_init 16 = .ok (.putfield 18, 3) := by decide +kernel
theorem dX2_init_19 : decode cX2_init 19 = .ok (.aload_n 0, 1) := by decide +kernel
theorem dX2_init_20 : decode cX2_init 20 = .ok (.iconst 0, 1) := by decide +kernel
theorem dX2_init_21 : decode cX2_init 21 = .ok (.putfield 21, 3) := by decide +kernel
theorem dX2_init_24 : decode cX2_init 24 = .ok (.aload_n 0, 1) := by decide +kernel
theorem dX2_init_25 : decode cX2_init 25 = .ok (.iconst 0, 1) := by decide +kernel
theorem dX2_init_26 : decode cX2_init 26 = .ok (.putfield 24, 3) := by decide +kernel
theorem dX2_init_29 : decode cX2_init 29 = .ok (.aload_n 0, 1) := by decide +kernel
theorem dX2_init_30 : decode cX2_init 30 = .ok (.iconst 0, 1) := by decide +kernel
theorem dX2_init_31 : decode cX2_init 31 = .ok (.putfield 27, 3) := by decide +kernel
theorem dX2_init_34 : decode cX2_init 34 = .ok (.aload_n 0, 1) := by decide +kernel
theorem dX2_init_35 : decode cX2_init 35 = .ok (.iconst 0, 1) := by decide +kernel
theorem dX2_init_36 : decode cX2_init 36 = .ok (.putfield 30, 3) := by decide +kernel
theorem dX2_init_39 : decode cX2_init 39 = .ok (.return_, 1) := by decide +kernel
theorem dX2_beginText_0 : decode cX2_beginText 0 = .ok (.aload_n 0, 1) := by decide +kernel
theorem dX2_beginText_1 : decode cX2_beginText 1 = .ok (.iconst 0, 1) := by decide +kernel
theorem dX2_beginText_2 : decode cX2_beginText 2 = .ok (.putfield 15, 3) := by decide +kernel
theorem dX2_beginText_5 : decode cX2_beginText 5 = .ok (.aload_n 0, 1) := by decide +kernel
theorem dX2_beginText_6 : decode cX2_beginText 6 = .ok (.iconst 0, 1) := by decide +kernel
theorem dX2_beginText_7 : decode cX2_beginText 7 = .ok (.putfield 27, 3) := by decide +kernel
theorem dX2_beginText_10 : decode cX2_beginText 10 = .ok (.return_, 1) := by decide +kernel
set_option maxRecDepth 20000 in
theorem ggX2_readNext_X2_hasForm : GoodIn wsX2_readNext wsX2_hasForm := goodIn_r _ [10, 1, 11, 5, 12, 13, 14, 15, 16, 17, 18, 19, 20, 21, 9, 22, 23, 24, 25, 26, 27, 28, 29, 30, 31, 32, 33, 34, 41, 42, 43, 44, 45, 46, 47, 48, 49] (by decide +kernel) (by decide +kernel)
set_option maxRecDepth 20000 in
theorem gX2_readNext_X2_hasForm : GoodIn wsX2_readNext (wsV RX2 33 RX2 yX2_hasForm wsX2_hasForm) := goodIn_app (goodIn_of _ (by decide +kernel)) ggX2_readNext_X2_hasForm
set_option maxRecDepth 20000 in
theorem ggX2_readNext_X2_isInRange : GoodIn wsX2_readNext wsX2_isInRange := goodIn_r _ [38, 11, 5, 39, 24, 40, 23, 25, 41, 42, 43, 44, 45, 46, 47] (by decide +kernel) (by decide +kernel)
set_option maxRecDepth 20000 in
theorem gX2_readNext_X2_isInRange : GoodIn wsX2_readNext (wsV RX2 37 RX2 yX2_isInRange wsX2_isInRange) := goodIn_app (goodIn_of _ (by decide +kernel)) ggX2_readNext_X2_isInRange
theorem dX2_readNext_0 : decode cX2_readNext 0 = .ok (.aload_n 0, 1) := by decide +kernel
theorem dX2_readNext_1 : decode cX2_readNext 1 = .ok (.aload_n 0, 1) := by decide +kernel
theorem dX2_readNext_2 : decode cX2_readNext 2 = .ok (.getfield 15, 3) := by decide +kernel
theorem dX2_readNext_5 : decode cX2_readNext 5 = .ok (.putfield 9, 3) := by decide +kernel
theorem dX2_readNext_8 : decode cX2_readNext 8 = .ok (.aload_n 0, 1) := by decide +kernel
theorem dX2_readNext_9 : decode cX2_readNext 9 = .ok (.aload_n 1, 1) := by decide +kernel
theorem dX2_readNext_10 : decode cX2_readNext 10 = .ok (.invokevirtual 33, 3) := by decide +kernel
theorem dX2_readNext_13 : decode cX2_readNext 13 = .ok (.ifCond .ne 24, 3) := by decide +kernel
theorem dX2_readNext_16 : decode cX2_readNext 16 = .ok (.aload_n 0, 1) := by decide +kernel
theorem dX2_readNext_17 : decode cX2_readNext 17 = .ok (.iconst 1, 1) := by decide +kernel
theorem dX2_readNext_18 : decode cX2_readNext 18 = .ok (.putfield 27, 3) := by decide +kernel
theorem dX2_readNext_21 : decode cX2_readNext 21 = .ok (.aload_n 0, 1) := by decide +kernel
theorem dX2_readNext_22 : decode cX2_readNext 22 = .ok (.aload_n 0, 1) := by decide +kernel
theorem dX2_readNext_23 : decode cX2_readNext 23 = .ok (.getfield 15, 3) := by decide +kernel
theorem dX2_readNext_26 : decode cX2_readNext 26 = .ok (.aload_n 0, 1) := by decide +kernel
theorem dX2_readNext_27 : decode cX2_readNext 27 = .ok (.getfield 9, 3) := by decide +kernel
theorem dX2_readNext_30 : decode cX2_readNext 30 = .ok (.isub, 1) := by decide +kernel
theorem dX2_readNext_31 : decode cX2_readNext 31 = .ok (.putfield 30, 3) := by decide +kernel
theorem dX2_readNext_34 : decode cX2_readNext 34 = .ok (.goto 23, 3) := by decide +kernel
theorem dX2_readNext_37 : decode cX2_readNext 37 = .ok (.aload_n 0, 1) := by decide +kernel
theorem dX2_readNext_38 : decode cX2_readNext 38 = .ok (.invokevirtual 37, 3) := by decide +kernel
theorem dX2_readNext_41 : decode cX2_readNext 41 = .ok (.ifCond .ne 16, 3) := by decide +kernel
theorem dX2_readNext_44 : decode cX2_readNext 44 = .ok (.aload_n 0, 1) := by decide +kernel
theorem dX2_readNext_45 : decode cX2_readNext 45 = .ok (.iconst 2, 1) := by decide +kernel
theorem dX2_readNext_46 : decode cX2_readNext 46 = .ok (.putfield 27, 3) := by decide +kernel
theorem dX2_readNext_49 : decode cX2_readNext 49 = .ok (.aload_n 0, 1) := by decide +kernel
theorem dX2_readNext_50 : decode cX2_readNext 50 = .ok (.aload_n 0, 1) := by decide +kernel
theorem dX2_readNext_51 : decode cX2_readNext 51 = .ok (.getfield 21, 3) := by decide +kernel
theorem dX2_readNext_54 : decode cX2_readNext 54 = .ok (.putfield 30, 3) := by decide +kernel
theorem dX2_readNext_57 : decode cX2_readNext 57 = .ok (.return_, 1) := by decide +kernel
set_option maxRecDepth 20000 in
theorem ggX2_hasForm_X5_at : GoodIn wsX2_hasForm wsX5_at := goodIn_r _ [8, 9, 10, 35, 36] (by decide +kernel) (by decide +kernel)
set_option maxRecDepth 20000 in
theorem gX2_hasForm_X5_at : GoodIn wsX2_hasForm (wsV RX2 41 RX5 yX5_at wsX5_at) := goodIn_app (goodIn_of _ (by decide +kernel)) ggX2_hasForm_X5_at
set_option maxRecDepth 20000 in
theorem ggX2_hasForm_X2_readNumber : GoodIn wsX2_hasForm wsX2_readNumber := goodIn_r _ [15, 1, 4, 5, 6, 7, 8, 9, 10, 16, 17, 18, 28, 29, 30, 31, 32, 33, 34, 35, 36] (by decide +kernel) (by decide +kernel)
set_option maxRecDepth 20000 in
theorem gX2_hasForm_X2_readNumber : GoodIn wsX2_hasForm (wsV RX2 47 RX2 yX2_readNumber wsX2_readNumber) := goodIn_app (goodIn_of _ (by decide +kernel)) ggX2_hasForm_X2_readNumber
set_option maxRecDepth 20000 in
theorem ggX2_hasForm_X2_readSign : GoodIn wsX2_hasForm wsX2_readSign := goodIn_r _ [22, 1, 4, 5, 6, 7, 8, 9, 10, 28, 29, 30, 31, 32, 33, 34, 35, 36] (by decide +kernel) (by decide +kernel)
set_option maxRecDepth 20000 in
theorem gX2_hasForm_X2_readSign : GoodIn wsX2_hasForm (wsV RX2 51 RX2 yX2_readSign wsX2_readSign) := goodIn_app (goodIn_of _ (by decide +kernel)) ggX2_hasForm_X2_readSign
set_option maxRecDepth 20000 in
theorem ggX2_hasForm_X2_hasFormOfWrite : GoodIn wsX2_hasForm wsX2_hasFormOfWrite := goodIn_r _ [26, 3, 27, 11, 12, 13, 14, 15, 1, 4, 5, 6, 7, 8, 9, 10, 16, 17, 18, 19, 20, 21, 22, 28, 29, 30, 31, 32, 33, 34, 35, 36] (by decide +kernel) (by decide +kernel)
set_option maxRecDepth 20000 in
theorem gX2_hasForm_X2_hasFormOfWrite : GoodIn wsX2_hasForm (wsV RX2 55 RX2 yX2_hasFormOfWrite wsX2_hasFormOfWrite) := goodIn_app (goodIn_of _ (by decide +kernel)) ggX2_hasForm_X2_hasFormOfWrite
theorem dX2_hasForm_0 : decode cX2_hasForm 0 = .ok (.aload_n 0, 1) := by decide +kernel
theorem dX2_hasForm_1 : decode cX2_hasForm 1 = .ok (.aload_n 1, 1) := by decide +kernel
theorem dX2_hasForm_2 : decode cX2_hasForm 2 = .ok (.aload_n 0, 1) := by decide +kernel
theorem dX2_hasForm_3 : decode cX2_hasForm 3 = .ok (.getfield 15, 3) := by decide +kernel
theorem dX2_hasForm_6 : decode cX2_hasForm 6 = .ok (.invokevirtual 41, 3) := by decide +kernel
theorem dX2_hasForm_9 : decode cX2_hasForm 9 = .ok (.putfield 18, 3) := by decide +kernel
theorem dX2_hasForm_12 : decode cX2_hasForm 12 = .ok (.aload_n 0, 1) := by decide +kernel
theorem dX2_hasForm_13 : decode cX2_hasForm 13 = .ok (.getfield 18, 3) := by decide +kernel
theorem dX2_hasForm_16 : decode cX2_hasForm 16 = .ok (.lookupswitch 137 #[(99, 119), (103, 119), (108, 60), (114, 60), (116, 60), (119, 103)], 60) := by decide +kernel
theorem dX2_hasForm_76 : decode cX2_hasForm 76 = .ok (.aload_n 0, 1) := by decide +kernel
theorem dX2_hasForm_77 : decode cX2_hasForm 77 = .ok (.dup, 1) := by decide +kernel
theorem dX2_hasForm_78 : decode cX2_hasForm 78 = .ok (.getfield 15, 3) := by decide +kernel
theorem dX2_hasForm_81 : decode cX2_hasForm 81 = .ok (.iconst 1, 1) := by decide +kernel
theorem dX2_hasForm_82 : decode cX2_hasForm 82 = .ok (.iadd, 1) := by decide +kernel
theorem dX2_hasForm_83 : decode cX2_hasForm 83 = .ok (.putfield 15, 3) := by decide +kernel
theorem dX2_hasForm_86 : decode cX2_hasForm 86 = .ok (.aload_n 0, 1) := by decide +kernel
theorem dX2_hasForm_87 : decode cX2_hasForm 87 = .ok (.aload_n 0, 1) := by decide +kernel
theorem dX2_hasForm_88 : decode cX2_hasForm 88 = .ok (.aload_n 1, 1) := by decide +kernel
theorem dX2_hasForm_89 : decode cX2_hasForm 89 = .ok (.invokevirtual 47, 3) := by decide +kernel
theorem dX2_hasForm_92 : decode cX2_hasForm 92 = .ok (.putfield 21, 3) := by decide +kernel
theorem dX2_hasForm_95 : decode cX2_hasForm 95 = .ok (.aload_n 0, 1) := by decide +kernel
theorem dX2_hasForm_96 : decode cX2_hasForm 96 = .ok (.getfield 21, 3) := by decide +kernel
theorem dX2_hasForm_99 : decode cX2_hasForm 99 = .ok (.iconst (-1), 1) := by decide +kernel
theorem dX2_hasForm_100 : decode cX2_hasForm 100 = .ok (.if_icmp .eq 17, 3) := by decide +kernel
theorem dX2_hasForm_103 : decode cX2_hasForm 103 = .ok (.aload_n 0, 1) := by decide +kernel
theorem dX2_hasForm_104 : decode cX2_hasForm 104 = .ok (.aload_n 1, 1) := by decide +kernel
theorem dX2_hasForm_105 : decode cX2_hasForm 105 = .ok (.bipush 59, 2) := by decide +kernel
theorem dX2_hasForm_107 : decode cX2_hasForm 107 = .ok (.invokevirtual 51, 3) := by decide +kernel
theorem dX2_hasForm_110 : decode cX2_hasForm 110 = .ok (.ifCond .eq 7, 3) := by decide +kernel
theorem dX2_hasForm_113 : decode cX2_hasForm 113 = .ok (.iconst 1, 1) := by decide +kernel
theorem dX2_hasForm_114 : decode cX2_hasForm 114 = .ok (.goto 4, 3) := by decide +kernel
theorem dX2_hasForm_117 : decode cX2_hasForm 117 = .ok (.iconst 0, 1) := by decide +kernel
theorem dX2_hasForm_118 : decode cX2_hasForm 118 = .ok (.ireturn, 1) := by decide +kernel
theorem dX2_hasForm_119 : decode cX2_hasForm 119 = .ok (.aload_n 0, 1) := by decide +kernel
theorem dX2_hasForm_120 : decode cX2_hasForm 120 = .ok (.dup, 1) := by decide +kernel
theorem dX2_hasForm_121 : decode cX2_hasForm 121 = .ok (.getfield 15, 3) := by decide +kernel
theorem dX2_hasForm_124 : decode cX2_hasForm 124 = .ok (.iconst 1, 1) := by decide +kernel
theorem dX2_hasForm_125 : decode cX2_hasForm 125 = .ok (.iadd, 1) := by decide +kernel
theorem dX2_hasForm_126 : decode cX2_hasForm 126 = .ok (.putfield 15, 3) := by decide +kernel
theorem dX2_hasForm_129 : decode cX2_hasForm 129 = .ok (.aload_n 0, 1) := by decide +kernel
theorem dX2_hasForm_130 : decode cX2_hasForm 130 = .ok (.aload_n 1, 1) := by decide +kernel
theorem dX2_hasForm_131 : decode cX2_hasForm 131 = .ok (.invokevirtual 55, 3) := by decide +kernel
theorem dX2_hasForm_134 : decode cX2_hasForm 134 = .ok (.ireturn, 1) := by decide +kernel
theorem dX2_hasForm_135 : decode cX2_hasForm 135 = .ok (.aload_n 0, 1) := by decide +kernel
theorem dX2_hasForm_136 : decode cX2_hasForm 136 = .ok (.dup, 1) := by decide +kernel
theorem dX2_hasForm_137 : decode cX2_hasForm 137 = .ok (.getfield 15, 3) := by decide +kernel
theorem dX2_hasForm_140 : decode cX2_hasForm 140 = .ok (.iconst 1, 1) := by decide +kernel
theorem dX2_hasForm_141 : decode cX2_hasForm 141 = .ok (.iadd, 1) := by decide +kernel
theorem dX2_hasForm_142 : decode cX2_hasForm 142 = .ok (.putfield 15, 3) := by decide +kernel
theorem dX2_hasForm_145 : decode cX2_hasForm 145 = .ok (.aload_n 0, 1) := by decide +kernel
theorem dX2_hasForm_146 : decode cX2_hasForm 146 = .ok (.aload_n 1, 1) := by decide +kernel
theorem dX2_hasForm_147 : decode cX2_hasForm 147 = .ok (.bipush 59, 2) := by decide +kernel
theorem dX2_hasForm_149 : decode cX2_hasForm 149 = .ok (.invokevirtual 51, 3) := by decide +kernel
theorem dX2_hasForm_152 : decode cX2_hasForm 152 = .ok (.ireturn, 1) := by decide +kernel
theorem dX2_hasForm_153 : decode cX2_hasForm 153 = .ok (.iconst 0, 1) := by decide +kernel
theorem dX2_hasForm_154 : decode cX2_hasForm 154 = .ok (.ireturn, 1) := by decide +kernel
set_option maxRecDepth 20000 in
theorem ggX2_hasFormOfWrite_X2_readNumber : GoodIn wsX2_hasFormOfWrite wsX2_readNumber := goodIn_r _ [7, 8, 9, 10, 11, 12, 13, 14, 15, 16, 17, 18, 23, 24, 25, 26, 27, 28, 29, 30, 31] (by decide +kernel) (by decide +kernel)
set_option maxRecDepth 20000 in
theorem gX2_hasFormOfWrite_X2_readNumber : GoodIn wsX2_hasFormOfWrite (wsV RX2 47 RX2 yX2_readNumber wsX2_readNumber) := goodIn_app (goodIn_of _ (by decide +kernel)) ggX2_hasFormOfWrite_X2_readNumber
set_option maxRecDepth 20000 in
theorem ggX2_hasFormOfWrite_X2_readSign : GoodIn wsX2_hasFormOfWrite wsX2_readSign := goodIn_r _ [22, 8, 9, 10, 11, 12, 13, 14, 15, 23, 24, 25, 26, 27, 28, 29, 30, 31] (by decide +kernel) (by decide +kernel)
set_option maxRecDepth 20000 in
theorem gX2_hasFormOfWrite_X2_readSign : GoodIn wsX2_hasFormOfWrite (wsV RX2 51 RX2 yX2_readSign wsX2_readSign) := goodIn_app (goodIn_of _ (by decide +kernel)) ggX2_hasFormOfWrite_X2_readSign
theorem dX2_hasFormOfWrite_0 : decode cX2_hasFormOfWrite 0 = .ok (.aload_n 0, 1) := by decide +kernel
theorem dX2_hasFormOfWrite_1 : decode cX2_hasFormOfWrite 1 = .ok (.aload_n 0, 1) := by decide +kernel
theorem dX2_hasFormOfWrite_2 : decode cX2_hasFormOfWrite 2 = .ok (.aload_n 1, 1) := by decide +kernel
theorem dX2_hasFormOfWrite_3 : decode cX2_hasFormOfWrite 3 = .ok (.invokevirtual 47, 3) := by decide +kernel
theorem dX2_hasFormOfWrite_6 : decode cX2_hasFormOfWrite 6 = .ok (.putfield 21, 3) := by decide +kernel
theorem dX2_hasFormOfWrite_9 : decode cX2_hasFormOfWrite 9 = .ok (.aload_n 0, 1) := by decide +kernel
theorem dX2_hasFormOfWrite_10 : decode cX2_hasFormOfWrite 10 = .ok (.getfield 21, 3) := by decide +kernel
theorem dX2_hasFormOfWrite_13 : decode cX2_hasFormOfWrite 13 = .ok (.iconst (-1), 1) := by decide +kernel
theorem dX2_hasFormOfWrite_14 : decode cX2_hasFormOfWrite 14 = .ok (.if_icmp .eq 13, 3) := by decide +kernel
theorem dX2_hasFormOfWrite_17 : decode cX2_hasFormOfWrite 17 = .ok (.aload_n 0, 1) := by decide +kernel
theorem dX2_hasFormOfWrite_18 : decode cX2_hasFormOfWrite 18 = .ok (.aload_n 1, 1) := by decide +kernel
theorem dX2_hasFormOfWrite_19 : decode cX2_hasFormOfWrite 19 = .ok (.bipush 61, 2) := by decide +kernel
theorem dX2_hasFormOfWrite_21 : decode cX2_hasFormOfWrite 21 = .ok (.invokevirtual 51, 3) := by decide +kernel
theorem dX2_hasFormOfWrite_24 : decode cX2_hasFormOfWrite 24 = .ok (.ifCond .ne 5, 3) := by decide +kernel
theorem dX2_hasFormOfWrite_27 : decode cX2_hasFormOfWrite 27 = .ok (.iconst 0, 1) := by decide +kernel
theorem dX2_hasFormOfWrite_28 : decode cX2_hasFormOfWrite 28 = .ok (.ireturn, 1) := by decide +kernel
theorem dX2_hasFormOfWrite_29 : decode cX2_hasFormOfWrite 29 = .ok (.aload_n 0, 1) := by decide +kernel
theorem dX2_hasFormOfWrite_30 : decode cX2_hasFormOfWrite 30 = .ok (.aload_n 0, 1) := by decide +kernel
theorem dX2_hasFormOfWrite_31 : decode cX2_hasFormOfWrite 31 = .ok (.aload_n 1, 1) := by decide +kernel
theorem dX2_hasFormOfWrite_32 : decode cX2_hasFormOfWrite 32 = .ok (.invokevirtual 47, 3) := by decide +kernel
theorem dX2_hasFormOfWrite_35 : decode cX2_hasFormOfWrite 35 = .ok (.putfield 24, 3) := by decide +kernel
theorem dX2_hasFormOfWrite_38 : decode cX2_hasFormOfWrite 38 = .ok (.aload_n 0, 1) := by decide +kernel
theorem dX2_hasFormOfWrite_39 : decode cX2_hasFormOfWrite 39 = .ok (.getfield 24, 3) := by decide +kernel
theorem dX2_hasFormOfWrite_42 : decode cX2_hasFormOfWrite 42 = .ok (.iconst (-1), 1) := by decide +kernel
theorem dX2_hasFormOfWrite_43 : decode cX2_hasFormOfWrite 43 = .ok (.if_icmp .eq 17, 3) := by decide +kernel
theorem dX2_hasFormOfWrite_46 : decode cX2_hasFormOfWrite 46 = .ok (.aload_n 0, 1) := by decide +kernel
theorem dX2_hasFormOfWrite_47 : decode cX2_hasFormOfWrite 47 = .ok (.aload_n 1, 1) := by decide +kernel
theorem dX2_hasFormOfWrite_48 : decode cX2_hasFormOfWrite 48 = .ok (.bipush 59, 2) := by decide +kernel
theorem dX2_hasFormOfWrite_50 : decode cX2_hasFormOfWrite 50 = .ok (.invokevirtual 51, 3) := by decide +kernel
theorem dX2_hasFormOfWrite_53 : decode cX2_hasFormOfWrite 53 = .ok (.ifCond .eq 7, 3) := by decide +kernel
theorem dX2_hasFormOfWrite_56 : decode cX2_hasFormOfWrite 56 = .ok (.iconst 1, 1) := by decide +kernel
theorem dX2_hasFormOfWrite_57 : decode cX2_hasFormOfWrite 57 = .ok (.goto 4, 3) := by decide +kernel
theorem dX2_hasFormOfWrite_60 : decode cX2_hasFormOfWrite 60 = .ok (.iconst 0, 1) := by decide +kernel
theorem dX2_hasFormOfWrite_61 : decode cX2_hasFormOfWrite 61 = .ok (.ireturn, 1) := by decide +kernel
set_option maxRecDepth 20000 in
theorem ggX2_readNumber_X5_at : GoodIn wsX2_readNumber wsX5_at := goodIn_r _ [6, 7, 8, 19, 20] (by decide +kernel) (by decide +kernel)
set_option maxRecDepth 20000 in
theorem gX2_readNumber_X5_at : GoodIn wsX2_readNumber (wsV RX2 41 RX5 yX5_at wsX5_at) := goodIn_app (goodIn_of _ (by decide +kernel)) ggX2_readNumber_X5_at
set_option maxRecDepth 20000 in
theorem ggX2_readNumber_X6_isWithin : GoodIn wsX2_readNumber wsX6_isWithin := goodIn_r _ [11] (by decide +kernel) (by decide +kernel)
set_option maxRecDepth 20000 in
theorem gX2_readNumber_X6_isWithin_n58 : GoodIn wsX2_readNumber (wsX6_isWithin) := ggX2_readNumber_X6_isWithin
theorem dX2_readNumber_0 : decode cX2_readNumber 0 = .ok (.iconst 0, 1) := by decide +kernel
theorem dX2_readNumber_1 : decode cX2_readNumber 1 = .ok (.istore_n 2, 1) := by decide +kernel
theorem dX2_readNumber_2 : decode cX2_readNumber 2 = .ok (.iconst 0, 1) := by decide +kernel
theorem dX2_readNumber_3 : decode cX2_readNumber 3 = .ok (.istore_n 3, 1) := by decide +kernel
theorem dX2_readNumber_4 : decode cX2_readNumber 4 = .ok (.iload_n 2, 1) := by decide +kernel
theorem dX2_readNumber_5 : decode cX2_readNumber 5 = .ok (.iconst 3, 1) := by decide +kernel
theorem dX2_readNumber_6 : decode cX2_readNumber 6 = .ok (.if_icmp .ge 54, 3) := by decide +kernel
theorem dX2_readNumber_9 : decode cX2_readNumber 9 = .ok (.aload_n 1, 1) := by decide +kernel
theorem dX2_readNumber_10 : decode cX2_readNumber 10 = .ok (.aload_n 0, 1) := by decide +kernel
theorem dX2_readNumber_11 : decode cX2_readNumber 11 = .ok (.getfield 15, 3) := by decide +kernel
theorem dX2_readNumber_14 : decode cX2_readNumber 14 = .ok (.invokevirtual 41, 3) := by decide +kernel
theorem dX2_readNumber_17 : decode cX2_readNumber 17 = .ok (.bipush 48, 2) := by decide +kernel
theorem dX2_readNumber_19 : decode cX2_readNumber 19 = .ok (.bipush 57, 2) := by decide +kernel
theorem dX2_readNumber_21 : decode cX2_readNumber 21 = .ok (.invokestatic 58, 3) := by decide +kernel
theorem dX2_readNumber_24 : decode cX2_readNumber 24 = .ok (.ifCond .eq 36, 3) := by decide +kernel
theorem dX2_readNumber_27 : decode cX2_readNumber 27 = .ok (.bipush 10, 2) := by decide +kernel
theorem dX2_readNumber_29 : decode cX2_readNumber 29 = .ok (.iload_n 3, 1) := by decide +kernel
theorem dX2_readNumber_30 : decode cX2_readNumber 30 = .ok (.imul, 1) := by decide +kernel
theorem dX2_readNumber_31 : decode cX2_readNumber 31 = .ok (.aload_n 1, 1) := by decide +kernel
theorem dX2_readNumber_32 : decode cX2_readNumber 32 = .ok (.aload_n 0, 1) := by decide +kernel
theorem dX2_readNumber_33 : decode cX2_readNumber 33 = .ok (.getfield 15, 3) := by decide +kernel
theorem dX2_readNumber_36 : decode cX2_readNumber 36 = .ok (.invokevirtual 41, 3) := by decide +kernel
theorem dX2_readNumber_39 : decode cX2_readNumber 39 = .ok (.iadd, 1) := by decide +kernel
theorem dX2_readNumber_40 : decode cX2_readNumber 40 = .ok (.bipush 48, 2) := by decide +kernel
theorem dX2_readNumber_42 : decode cX2_readNumber 42 = .ok (.isub, 1) := by decide +kernel
theorem dX2_readNumber_43 : decode cX2_readNumber 43 = .ok (.istore_n 3, 1) := by decide +kernel
theorem dX2_readNumber_44 : decode cX2_readNumber 44 = .ok (.aload_n 0, 1) := by decide +kernel
theorem dX2_readNumber_45 : decode cX2_readNumber 45 = .ok (.dup, 1) := by decide +kernel
theorem dX2_readNumber_46 : decode cX2_readNumber 46 = .ok (.getfield 15, 3) := by decide +kernel
theorem dX2_readNumber_49 : decode cX2_readNumber 49 = .ok (.iconst 1, 1) := by decide +kernel
theorem dX2_readNumber_50 : decode cX2_readNumber 50 = .ok (.iadd, 1) := by decide +kernel
theorem dX2_readNumber_51 : decode cX2_readNumber 51 = .ok (.putfield 15, 3) := by decide +kernel
theorem dX2_readNumber_54 : decode cX2_readNumber 54 = .ok (.iinc 2 1, 3) := by decide +kernel
theorem dX2_readNumber_57 : decode cX2_readNumber 57 = .ok (.goto (-53), 3) := by decide +kernel
theorem dX2_readNumber_60 : decode cX2_readNumber 60 = .ok (.iload_n 2, 1) := by decide +kernel
theorem dX2_readNumber_61 : decode cX2_readNumber 61 = .ok (.ifCond .ne 7, 3) := by decide +kernel
theorem dX2_readNumber_64 : decode cX2_readNumber 64 = .ok (.iconst (-1), 1) := by decide +kernel
theorem dX2_readNumber_65 : decode cX2_readNumber 65 = .ok (.goto 4, 3) := by decide +kernel
theorem dX2_readNumber_68 : decode cX2_readNumber 68 = .ok (.iload_n 3, 1) := by decide +kernel
theorem dX2_readNumber_69 : decode cX2_readNumber 69 = .ok (.ireturn, 1) := by decide +kernel
set_option maxRecDepth 20000 in
theorem ggX2_readSign_X5_at : GoodIn wsX2_readSign wsX5_at := goodIn_r _ [6, 7, 8, 16, 17] (by decide +kernel) (by decide +kernel)
set_option maxRecDepth 20000 in
theorem gX2_readSign_X5_at : GoodIn wsX2_readSign (wsV RX2 41 RX5 yX5_at wsX5_at) := goodIn_app (goodIn_of _ (by decide +kernel)) ggX2_readSign_X5_at
theorem dX2_readSign_0 : decode cX2_readSign 0 = .ok (.aload_n 1, 1) := by decide +kernel
theorem dX2_readSign_1 : decode cX2_readSign 1 = .ok (.aload_n 0, 1) := by decide +kernel
theorem dX2_readSign_2 : decode cX2_readSign 2 = .ok (.getfield 15, 3) := by decide +kernel
theorem dX2_readSign_5 : decode cX2_readSign 5 = .ok (.invokevirtual 41, 3) := by decide +kernel
theorem dX2_readSign_8 : decode cX2_readSign 8 = .ok (.iload_n 2, 1) := by decide +kernel
theorem dX2_readSign_9 : decode cX2_readSign 9 = .ok (.if_icmp .eq 5, 3) := by decide +kernel
theorem dX2_readSign_12 : decode cX2_readSign 12 = .ok (.iconst 0, 1) := by decide +kernel
theorem dX2_readSign_13 : decode cX2_readSign 13 = .ok (.ireturn, 1) := by decide +kernel
theorem dX2_readSign_14 : decode cX2_readSign 14 = .ok (.aload_n 0, 1) := by decide +kernel
theorem dX2_readSign_15 : decode cX2_readSign 15 = .ok (.dup, 1) := by decide +kernel
theorem dX2_readSign_16 : decode cX2_readSign 16 = .ok (.getfield 15, 3) := by decide +kernel
theorem dX2_readSign_19 : decode cX2_readSign 19 = .ok (.iconst 1, 1) := by decide +kernel
theorem dX2_readSign_20 : decode cX2_readSign 20 = .ok (.iadd, 1) := by decide +kernel
theorem dX2_readSign_21 : decode cX2_readSign 21 = .ok (.putfield 15, 3) := by decide +kernel
theorem dX2_readSign_24 : decode cX2_readSign 24 = .ok (.iconst 1, 1) := by decide +kernel
theorem dX2_readSign_25 : decode cX2_readSign 25 = .ok (.ireturn, 1) := by decide +kernel
set_option maxRecDepth 20000 in
theorem ggX2_isInRange_X6_isPlace : GoodIn wsX2_isInRange wsX6_isPlace := goodIn_r _ [5] (by decide +kernel) (by decide +kernel)
set_option maxRecDepth 20000 in
theorem gX2_isInRange_X6_isPlace_n62 : GoodIn wsX2_isInRange (wsX6_isPlace) := ggX2_isInRange_X6_isPlace
set_option maxRecDepth 20000 in
theorem ggX2_isInRange_X6_isWithin : GoodIn wsX2_isInRange wsX6_isWithin := goodIn_r _ [7] (by decide +kernel) (by decide +kernel)
set_option maxRecDepth 20000 in
theorem gX2_isInRange_X6_isWithin_n58 : GoodIn wsX2_isInRange (wsX6_isWithin) := ggX2_isInRange_X6_isWithin
theorem dX2_isInRange_0 : decode cX2_isInRange 0 = .ok (.aload_n 0, 1) := by decide +kernel
theorem dX2_isInRange_1 : decode cX2_isInRange 1 = .ok (.getfield 18, 3) := by decide +kernel
theorem dX2_isInRange_4 : decode cX2_isInRange 4 = .ok (.lookupswitch 75 #[(108, 63), (114, 44), (116, 52), (119, 44)], 44) := by decide +kernel
theorem dX2_isInRange_48 : decode cX2_isInRange 48 = .ok (.aload_n 0, 1) := by decide +kernel
theorem dX2_isInRange_49 : decode cX2_isInRange 49 = .ok (.getfield 21, 3) := by decide +kernel
theorem dX2_isInRange_52 : decode cX2_isInRange 52 = .ok (.invokestatic 62, 3) := by decide +kernel
theorem dX2_isInRange_55 : decode cX2_isInRange 55 = .ok (.ireturn, 1) := by decide +kernel
theorem dX2_isInRange_56 : decode cX2_isInRange 56 = .ok (.aload_n 0, 1) := by decide +kernel
theorem dX2_isInRange_57 : decode cX2_isInRange 57 = .ok (.getfield 21, 3) := by decide +kernel
theorem dX2_isInRange_60 : decode cX2_isInRange 60 = .ok (.iconst 1, 1) := by decide +kernel
theorem dX2_isInRange_61 : decode cX2_isInRange 61 = .ok (.bipush 99, 2) := by decide +kernel
theorem dX2_isInRange_63 : decode cX2_isInRange 63 = .ok (.invokestatic 58, 3) := by decide +kernel
theorem dX2_isInRange_66 : decode cX2_isInRange 66 = .ok (.ireturn, 1) := by decide +kernel
theorem dX2_isInRange_67 : decode cX2_isInRange 67 = .ok (.aload_n 0, 1) := by decide +kernel
theorem dX2_isInRange_68 : decode cX2_isInRange 68 = .ok (.getfield 21, 3) := by decide +kernel
theorem dX2_isInRange_71 : decode cX2_isInRange 71 = .ok (.iconst 1, 1) := by decide +kernel
theorem dX2_isInRange_72 : decode cX2_isInRange 72 = .ok (.sipush 999, 3) := by decide +kernel
theorem dX2_isInRange_75 : decode cX2_isInRange 75 = .ok (.invokestatic 58, 3) := by decide +kernel
theorem dX2_isInRange_78 : decode cX2_isInRange 78 = .ok (.ireturn, 1) := by decide +kernel
theorem dX2_isInRange_79 : decode cX2_isInRange 79 = .ok (.iconst 1, 1) := by decide +kernel
theorem dX2_isInRange_80 : decode cX2_isInRange 80 = .ok (.ireturn, 1) := by decide +kernel
set_option maxRecDepth 20000 in
theorem ggX3_init_X4_init : GoodIn wsX3_init wsX4_init := goodIn_r _ [14, 15, 2, 3, 16, 17, 18, 19, 20, 21, 22, 23, 24, 25, 26, 27, 28, 29, 30, 31, 32, 33, 34, 35, 36, 37, 38, 39, 40, 41, 42, 43, 44, 45, 46, 84, 85, 86, 87, 88, 89, 90, 57, 58, 59, 60, 61, 62, 63, 64, 65, 66, 67, 68, 69, 70, 71, 72, 73] (by decide +kernel) (by decide +kernel)
set_option maxRecDepth 20000 in
theorem gX3_init_X4_init_n11 : GoodIn wsX3_init (wsX4_init) := ggX3_init_X4_init
set_option maxRecDepth 20000 in
theorem ggX3_init_X2_init : GoodIn wsX3_init wsX2_init := goodIn_r _ [48, 49, 2, 3, 50, 51, 52, 53, 54, 55, 56, 77, 78, 79, 80, 81, 82, 83] (by decide +kernel) (by decide +kernel)
set_option maxRecDepth 20000 in
theorem gX3_init_X2_init_n20 : GoodIn wsX3_init (wsX2_init) := ggX3_init_X2_init
theorem dX3_init_0 : decode cX3_init 0 = .ok (.aload_n 0, 1) := by decide +kernel
theorem dX3_init_1 : decode cX3_init 1 = .ok (.invokespecial 3, 3) := by decide +kernel
theorem dX3_init_4 : decode cX3_init 4 = .ok (.aload_n 0, 1) := by decide +kernel
theorem dX3_init_5 : decode cX3_init 5 = .ok (.new 9, 3) := by decide +kernel
theorem dX3_init_8 : decode cX3_init 8 = .ok (.dup, 1) := by decide +kernel
theorem dX3_init_9 : decode cX3_init 9 = .ok (.invokespecial 11, 3) := by decide +kernel
theorem dX3_init_12 : decode cX3_init 12 = .ok (.putfield 12, 3) := by decide +kernel
theorem dX3_init_15 : decode cX3_init 15 = .ok (.aload_n 0, 1) := by decide +kernel
theorem dX3_init_16 : decode cX3_init 16 = .ok (.new 18, 3) := by decide +kernel
theorem dX3_init_19 : decode cX3_init 19 = .ok (.dup, 1) := by decide +kernel
theorem dX3_init_20 : decode cX3_init 20 = .ok (.invokespecial 20, 3) := by decide +kernel
theorem dX3_init_23 : decode cX3_init 23 = .ok (.putfield 21, 3) := by decide +kernel
theorem dX3_init_26 : decode cX3_init 26 = .ok (.aload_n 0, 1) := by decide +kernel
theorem dX3_init_27 : decode cX3_init 27 = .ok (.iconst 0, 1) := by decide +kernel
theorem dX3_init_28 : decode cX3_init 28 = .ok (.putfield 25, 3) := by decide +kernel
theorem dX3_init_31 : decode cX3_init 31 = .ok (.return_, 1) := by decide +kernel
set_option maxRecDepth 20000 in
theorem ggX3_run_X4_copy : GoodIn wsX3_run wsX4_copy := goodIn_r _ [10, 11, 12, 13, 14, 15, 16, 17, 18, 19, 20, 21, 22, 23, 24, 25, 26, 27, 28, 29, 30, 31, 32, 33, 34, 35, 36, 37, 38, 39, 40, 41, 42, 43, 44, 45, 46, 47, 48, 49, 50, 250, 251, 252, 253, 254, 255, 256, 257, 258, 259, 260, 261, 262, 263, 264, 265, 266, 267, 268, 269, 270, 271, 272, 273] (by decide +kernel) (by decide +kernel)
set_option maxRecDepth 20000 in
theorem gX3_run_X4_copy : GoodIn wsX3_run (va_wsS RX3 29 yX4_copy wsX4_copy) := goodIn_app (goodIn_of _ (by decide +kernel)) ggX3_run_X4_copy
set_option maxRecDepth 20000 in
theorem ggX3_run_X2_beginText : GoodIn wsX3_run wsX2_beginText := goodIn_r _ [55, 56, 57, 241, 242, 243, 244, 245, 246, 247] (by decide +kernel) (by decide +kernel)
set_option maxRecDepth 20000 in
theorem gX3_run_X2_beginText : GoodIn wsX3_run (wsV RX3 33 RX2 yX2_beginText wsX2_beginText) := goodIn_app (goodIn_of _ (by decide +kernel)) ggX3_run_X2_beginText
set_option maxRecDepth 20000 in
theorem ggX3_run_X2_readNext : GoodIn wsX3_run wsX2_readNext := goodIn_r _ [61, 56, 62, 57, 63, 64, 65, 66, 67, 54, 68, 69, 70, 71, 72, 73, 74, 75, 76, 77, 78, 79, 80, 81, 41, 82, 83, 84, 85, 86, 87, 88, 89, 90, 91, 92, 93, 94, 95, 96, 97, 241, 242, 243, 244, 245, 246, 247, 248, 249] (by decide +kernel) (by decide +kernel)
set_option maxRecDepth 20000 in
theorem gX3_run_X2_readNext : GoodIn wsX3_run (wsV RX3 44 RX2 yX2_readNext wsX2_readNext) := goodIn_app (goodIn_of _ (by decide +kernel)) ggX3_run_X2_readNext
set_option maxRecDepth 20000 in
theorem ggX3_run_X3_isPossible : GoodIn wsX3_run wsX3_isPossible := goodIn_r _ [102, 2, 103, 1, 104, 105, 238, 239, 240, 241, 242, 243, 244, 245, 246, 247, 250, 251, 252, 253, 254, 255, 256, 257, 258, 259, 260, 261, 262, 263, 264, 265, 266, 267, 268, 269, 270, 271, 272, 273] (by decide +kernel) (by decide +kernel)
set_option maxRecDepth 20000 in
theorem gX3_run_X3_isPossible : GoodIn wsX3_run (wsV RX3 51 RX3 yX3_isPossible wsX3_isPossible) := goodIn_app (goodIn_of _ (by decide +kernel)) ggX3_run_X3_isPossible
set_option maxRecDepth 20000 in
theorem ggX3_run_X3_perform : GoodIn wsX3_run wsX3_perform := goodIn_r _ [109, 2, 103, 1, 110, 111, 112, 113, 114, 9, 115, 16, 116, 117, 118, 119, 20, 21, 18, 17, 120, 121, 122, 123, 14, 15, 124, 41, 125, 126, 127, 128, 129, 130, 131, 132, 133, 134, 135, 136, 137, 138, 139, 140, 141, 22, 142, 143, 144, 145, 12, 13, 27, 96, 97, 146, 147, 148, 149, 150, 151, 152, 153, 11, 23, 154, 155, 156, 157, 158, 159, 160, 161, 162, 163, 164, 165, 166, 167, 168, 169, 170, 171, 31, 172, 35, 173, 174, 175, 176, 33, 37, 36, 177, 44, 45, 46, 178, 179, 180, 181, 19, 26, 182, 183, 184, 185, 38, 186, 187, 188, 189, 39, 34, 190, 191, 192, 193, 194, 195, 196, 197, 198, 199, 200, 201, 202, 203, 204, 205, 206, 207, 208, 209, 210, 211, 212, 213, 214, 215, 216, 217, 218, 24, 25, 219, 220, 221, 222, 223, 224, 225, 226, 227, 228, 229, 230, 231, 232, 233, 234, 235, 236, 237, 238, 239, 240, 241, 242, 243, 244, 245, 246, 247, 250, 251, 252, 253, 254, 255, 256, 257, 258, 259, 260, 261, 262, 263, 264, 265, 266, 267, 268, 269, 270, 271, 272, 273] (by decide +kernel) (by decide +kernel)
set_option maxRecDepth 20000 in
theorem gX3_run_X3_perform : GoodIn wsX3_run (wsV RX3 55 RX3 yX3_perform wsX3_perform) := goodIn_app (goodIn_of _ (by decide +kernel)) ggX3_run_X3_perform
theorem dX3_run_0 : decode cX3_run 0 = .ok (.aload_n 2, 1) := by decide +kernel
theorem dX3_run_1 : decode cX3_run 1 = .ok (.aload_n 0, 1) := by decide +kernel
theorem dX3_run_2 : decode cX3_run 2 = .ok (.getfield 12, 3) := by decide +kernel
theorem dX3_run_5 : decode cX3_run 5 = .ok (.invokestatic 29, 3) := by decide +kernel
theorem dX3_run_8 : decode cX3_run 8 = .ok (.aload_n 0, 1) := by decide +kernel
theorem dX3_run_9 : decode cX3_run 9 = .ok (.getfield 21, 3) := by decide +kernel
theorem dX3_run_12 : decode cX3_run 12 = .ok (.invokevirtual 33, 3) := by decide +kernel
theorem dX3_run_15 : decode cX3_run 15 = .ok (.aload_n 0, 1) := by decide +kernel
theorem dX3_run_16 : decode cX3_run 16 = .ok (.iconst 0, 1) := by decide +kernel
theorem dX3_run_17 : decode cX3_run 17 = .ok (.putfield 25, 3) := by decide +kernel
theorem dX3_run_20 : decode cX3_run 20 = .ok (.iconst 0, 1) := by decide +kernel
theorem dX3_run_21 : decode cX3_run 21 = .ok (.istore_n 3, 1) := by decide +kernel
theorem dX3_run_22 : decode cX3_run 22 = .ok (.iload_n 3, 1) := by decide +kernel
theorem dX3_run_23 : decode cX3_run 23 = .ok (.bipush 60, 2) := by decide +kernel
theorem dX3_run_25 : decode cX3_run 25 = .ok (.if_icmp .ge 81, 3) := by decide +kernel
theorem dX3_run_28 : decode cX3_run 28 = .ok (.aload_n 0, 1) := by decide +kernel
theorem dX3_run_29 : decode cX3_run 29 = .ok (.getfield 21, 3) := by decide +kernel
theorem dX3_run_32 : decode cX3_run 32 = .ok (.getfield 36, 3) := by decide +kernel
theorem dX3_run_35 : decode cX3_run 35 = .ok (.aload_n 1, 1) := by decide +kernel
theorem dX3_run_36 : decode cX3_run 36 = .ok (.getfield 39, 3) := by decide +kernel
theorem dX3_run_39 : decode cX3_run 39 = .ok (.if_icmp .ge 67, 3) := by decide +kernel
theorem dX3_run_42 : decode cX3_run 42 = .ok (.aload_n 0, 1) := by decide +kernel
theorem dX3_run_43 : decode cX3_run 43 = .ok (.getfield 21, 3) := by decide +kernel
theorem dX3_run_46 : decode cX3_run 46 = .ok (.aload_n 1, 1) := by decide +kernel
theorem dX3_run_47 : decode cX3_run 47 = .ok (.invokevirtual 44, 3) := by decide +kernel
theorem dX3_run_50 : decode cX3_run 50 = .ok (.aload_n 0, 1) := by decide +kernel
theorem dX3_run_51 : decode cX3_run 51 = .ok (.getfield 21, 3) := by decide +kernel
theorem dX3_run_54 : decode cX3_run 54 = .ok (.getfield 48, 3) := by decide +kernel
theorem dX3_run_57 : decode cX3_run 57 = .ok (.ifCond .ne 18, 3) := by decide +kernel
theorem dX3_run_60 : decode cX3_run 60 = .ok (.aload_n 0, 1) := by decide +kernel
theorem dX3_run_61 : decode cX3_run 61 = .ok (.invokevirtual 51, 3) := by decide +kernel
theorem dX3_run_64 : decode cX3_run 64 = .ok (.ifCond .ne 11, 3) := by decide +kernel
theorem dX3_run_67 : decode cX3_run 67 = .ok (.aload_n 0, 1) := by decide +kernel
theorem dX3_run_68 : decode cX3_run 68 = .ok (.getfield 21, 3) := by decide +kernel
theorem dX3_run_71 : decode cX3_run 71 = .ok (.iconst 3, 1) := by decide +kernel
theorem dX3_run_72 : decode cX3_run 72 = .ok (.putfield 48, 3) := by decide +kernel
theorem dX3_run_75 : decode cX3_run 75 = .ok (.aload_n 0, 1) := by decide +kernel
theorem dX3_run_76 : decode cX3_run 76 = .ok (.getfield 21, 3) := by decide +kernel
theorem dX3_run_79 : decode cX3_run 79 = .ok (.getfield 48, 3) := by decide +kernel
theorem dX3_run_82 : decode cX3_run 82 = .ok (.ifCond .eq 4, 3) := by decide +kernel
theorem dX3_run_85 : decode cX3_run 85 = .ok (.return_, 1) := by decide +kernel
theorem dX3_run_86 : decode cX3_run 86 = .ok (.aload_n 0, 1) := by decide +kernel
theorem dX3_run_87 : decode cX3_run 87 = .ok (.invokevirtual 55, 3) := by decide +kernel
theorem dX3_run_90 : decode cX3_run 90 = .ok (.aload_n 0, 1) := by decide +kernel
theorem dX3_run_91 : decode cX3_run 91 = .ok (.dup, 1) := by decide +kernel
theorem dX3_run_92 : decode cX3_run 92 = .ok (.getfield 25, 3) := by decide +kernel
theorem dX3_run_95 : decode cX3_run 95 = .ok (.iconst 1, 1) := by decide +kernel
theorem dX3_run_96 : decode cX3_run 96 = .ok (.iadd, 1) := by decide +kernel
theorem dX3_run_97 : decode cX3_run 97 = .ok (.putfield 25, 3) := by decide +kernel
theorem dX3_run_100 : decode cX3_run 100 = .ok (.iinc 3 1, 3) := by decide +kernel
theorem dX3_run_103 : decode cX3_run 103 = .ok (.goto (-81), 3) := by decide +kernel
theorem dX3_run_106 : decode cX3_run 106 = .ok (.return_, 1) := by decide +kernel
theorem dX3_isPossible_0 : decode cX3_isPossible 0 = .ok (.aload_n 0, 1) := by decide +kernel
theorem dX3_isPossible_1 : decode cX3_isPossible 1 = .ok (.getfield 21, 3) := by decide +kernel
theorem dX3_isPossible_4 : decode cX3_isPossible 4 = .ok (.getfield 58, 3) := by decide +kernel
theorem dX3_isPossible_7 : decode cX3_isPossible 7 = .ok (.bipush 103, 2) := by decide +kernel
theorem dX3_isPossible_9 : decode cX3_isPossible 9 = .ok (.if_icmp .ne 16, 3) := by decide +kernel
theorem dX3_isPossible_12 : decode cX3_isPossible 12 = .ok (.aload_n 0, 1) := by decide +kernel
theorem dX3_isPossible_13 : decode cX3_isPossible 13 = .ok (.getfield 12, 3) := by decide +kernel
theorem dX3_isPossible_16 : decode cX3_isPossible 16 = .ok (.getfield 61, 3) := by decide +kernel
theorem dX3_isPossible_19 : decode cX3_isPossible 19 = .ok (.getfield 65, 3) := by decide +kernel
theorem dX3_isPossible_22 : decode cX3_isPossible 22 = .ok (.ifCond .ne 7, 3) := by decide +kernel
theorem dX3_isPossible_25 : decode cX3_isPossible 25 = .ok (.iconst 1, 1) := by decide +kernel
theorem dX3_isPossible_26 : decode cX3_isPossible 26 = .ok (.goto 4, 3) := by decide +kernel
theorem dX3_isPossible_29 : decode cX3_isPossible 29 = .ok (.iconst 0, 1) := by decide +kernel
theorem dX3_isPossible_30 : decode cX3_isPossible 30 = .ok (.ireturn, 1) := by decide +kernel
set_option maxRecDepth 20000 in
theorem ggX3_perform_X4_readPlace : GoodIn wsX3_perform wsX4_readPlace := goodIn_r _ [10, 11, 12, 13, 14, 9, 15, 16, 17, 18, 19, 20, 21, 22, 23, 24, 25, 26, 27, 28, 29, 30, 31, 32, 33, 34, 35, 36, 37, 38, 39, 40, 41, 42, 43, 44, 45, 46, 47, 48, 49, 50, 51, 52, 53, 54, 55, 56, 57, 58, 174, 175, 176, 177, 178, 179, 180, 181, 182, 183, 184, 185, 186, 187, 188, 189, 190] (by decide +kernel) (by decide +kernel)
set_option maxRecDepth 20000 in
theorem gX3_perform_X4_readPlace : GoodIn wsX3_perform (wsV RX3 73 RX4 yX4_readPlace wsX4_readPlace) := goodIn_app (goodIn_of _ (by decide +kernel)) ggX3_perform_X4_readPlace
set_option maxRecDepth 20000 in
theorem ggX3_perform_X4_writePlace : GoodIn wsX3_perform wsX4_writePlace := goodIn_r _ [62, 11, 24, 63, 64, 12, 13, 14, 9, 15, 16, 17, 18, 19, 20, 21, 22, 23, 25, 26, 27, 28, 29, 30, 31, 32, 33, 34, 35, 36, 37, 38, 39, 40, 41, 42, 43, 44, 45, 46, 47, 48, 49, 50, 51, 52, 53, 54, 55, 56, 57, 58, 65, 66, 67, 68, 69, 70, 71, 72, 73, 74, 75, 76, 77, 78, 79, 80, 81, 82, 83, 84, 85, 86, 87, 88, 89, 90, 91, 92, 93, 94, 95, 96, 174, 175, 176, 177, 178, 179, 180, 181, 182, 183, 184, 185, 186, 187, 188, 189, 190, 191, 192, 193, 194, 195, 196, 197] (by decide +kernel) (by decide +kernel)
set_option maxRecDepth 20000 in
theorem gX3_perform_X4_writePlace : GoodIn wsX3_perform (wsV RX3 80 RX4 yX4_writePlace wsX4_writePlace) := goodIn_app (goodIn_of _ (by decide +kernel)) ggX3_perform_X4_writePlace
set_option maxRecDepth 20000 in
theorem ggX3_perform_X4_passTicks : GoodIn wsX3_perform wsX4_passTicks := goodIn_r _ [100, 45, 101, 63, 102, 103, 104, 105, 83, 106, 85, 90, 107, 93, 94, 95, 96, 108, 109, 110, 111, 112, 113, 114, 115, 116, 117, 118, 119, 120, 121, 122, 123, 124, 125, 126, 127, 9, 128, 129, 65, 66, 67, 68, 69, 70, 71, 72, 24, 73, 74, 75, 76, 77, 78, 79, 80, 81, 82, 84, 86, 87, 88, 89, 91, 92, 130, 131, 132, 133, 37, 38, 39, 40, 19, 41, 42, 43, 44, 25, 11, 26, 27, 28, 46, 47, 48, 49, 50, 51, 52, 53, 54, 174, 175, 176, 177, 178, 179, 180, 181, 182, 183, 184, 185, 186, 187, 188, 189, 190, 191, 192, 193, 194, 195, 196, 197] (by decide +kernel) (by decide +kernel)
set_option maxRecDepth 20000 in
theorem gX3_perform_X4_passTicks : GoodIn wsX3_perform (wsV RX3 84 RX4 yX4_passTicks wsX4_passTicks) := goodIn_app (goodIn_of _ (by decide +kernel)) ggX3_perform_X4_passTicks
set_option maxRecDepth 20000 in
theorem ggX3_perform_X4_putLoad : GoodIn wsX3_perform wsX4_putLoad := goodIn_r _ [137, 63, 138, 115, 116, 83, 117, 90, 118, 119, 95, 120, 125, 126, 127, 9, 128, 129, 65, 66, 67, 68, 69, 70, 71, 72, 24, 73, 74, 75, 76, 77, 78, 79, 80, 81, 82, 84, 85, 86, 87, 88, 89, 91, 92, 93, 94, 96, 130, 131, 132, 133, 37, 38, 39, 40, 19, 41, 42, 43, 44, 25, 11, 45, 26, 27, 28, 46, 47, 48, 49, 50, 51, 52, 53, 54, 174, 175, 176, 177, 178, 179, 180, 181, 182, 183, 184, 185, 186, 187, 188, 189, 190, 191, 192, 193, 194, 195, 196, 197] (by decide +kernel) (by decide +kernel)
set_option maxRecDepth 20000 in
theorem gX3_perform_X4_putLoad : GoodIn wsX3_perform (wsV RX3 87 RX4 yX4_putLoad wsX4_putLoad) := goodIn_app (goodIn_of _ (by decide +kernel)) ggX3_perform_X4_putLoad
set_option maxRecDepth 20000 in
theorem ggX3_perform_X4_cutPower : GoodIn wsX3_perform wsX4_cutPower := goodIn_r _ [142, 63, 24, 143, 144, 145, 146, 147, 9, 148, 149, 94, 95, 96, 65, 66, 67, 68, 69, 70, 71, 72, 73, 74, 75, 76, 77, 78, 79, 150, 87, 88, 83, 89, 90, 91, 92, 93, 130, 131, 132, 133, 37, 38, 39, 40, 19, 41, 42, 43, 44, 25, 11, 45, 26, 27, 28, 46, 47, 48, 49, 50, 51, 52, 53, 54, 151, 152, 153, 154, 85, 155, 156, 157, 158, 114, 115, 116, 117, 118, 119, 120, 174, 175, 176, 177, 178, 179, 180, 181, 182, 183, 184, 185, 186, 187, 188, 189, 190, 191, 192, 193, 194, 195, 196, 197] (by decide +kernel) (by decide +kernel)
set_option maxRecDepth 20000 in
theorem gX3_perform_X4_cutPower : GoodIn wsX3_perform (wsV RX3 90 RX4 yX4_cutPower wsX4_cutPower) := goodIn_app (goodIn_of _ (by decide +kernel)) ggX3_perform_X4_cutPower
set_option maxRecDepth 20000 in
theorem ggX3_perform_X4_beginCycle : GoodIn wsX3_perform wsX4_beginCycle := goodIn_r _ [162, 63, 163, 125, 126, 127, 9, 128, 129, 119, 95, 120, 65, 66, 67, 68, 69, 70, 71, 72, 24, 73, 74, 75, 76, 77, 78, 79, 80, 81, 82, 83, 84, 85, 86, 87, 88, 89, 90, 91, 92, 93, 94, 96, 130, 131, 132, 133, 37, 38, 39, 40, 19, 41, 42, 43, 44, 25, 11, 45, 26, 27, 28, 46, 47, 48, 49, 50, 51, 52, 53, 54, 174, 175, 176, 177, 178, 179, 180, 181, 182, 183, 184, 185, 186, 187, 188, 189, 190, 191, 192, 193, 194, 195, 196, 197] (by decide +kernel) (by decide +kernel)
set_option maxRecDepth 20000 in
theorem gX3_perform_X4_beginCycle : GoodIn wsX3_perform (wsV RX3 94 RX4 yX4_beginCycle wsX4_beginCycle) := goodIn_app (goodIn_of _ (by decide +kernel)) ggX3_perform_X4_beginCycle
theorem dX3_perform_0 : decode cX3_perform 0 = .ok (.aload_n 0, 1) := by decide +kernel
theorem dX3_perform_1 : decode cX3_perform 1 = .ok (.getfield 21, 3) := by decide +kernel
theorem dX3_perform_4 : decode cX3_perform 4 = .ok (.getfield 58, 3) := by decide +kernel
theorem dX3_perform_7 : decode cX3_perform 7 = .ok (.lookupswitch 139 #[(99, 128), (108, 110), (114, 49), (116, 92), (119, 67)], 49) := by decide +kernel
theorem dX3_perform_56 : decode cX3_perform 56 = .ok (.aload_n 0, 1) := by decide +kernel
theorem dX3_perform_57 : decode cX3_perform 57 = .ok (.getfield 12, 3) := by decide +kernel
theorem dX3_perform_60 : decode cX3_perform 60 = .ok (.aload_n 0, 1) := by decide +kernel
theorem dX3_perform_61 : decode cX3_perform 61 = .ok (.getfield 21, 3) := by decide +kernel
theorem dX3_perform_64 : decode cX3_perform 64 = .ok (.getfield 70, 3) := by decide +kernel
theorem dX3_perform_67 : decode cX3_perform 67 = .ok (.invokevirtual 73, 3) := by decide +kernel
theorem dX3_perform_70 : decode cX3_perform 70 = .ok (.pop, 1) := by decide +kernel
theorem dX3_perform_71 : decode cX3_perform 71 = .ok (.goto 83, 3) := by decide +kernel
theorem dX3_perform_74 : decode cX3_perform 74 = .ok (.aload_n 0, 1) := by decide +kernel
theorem dX3_perform_75 : decode cX3_perform 75 = .ok (.getfield 12, 3) := by decide +kernel
theorem dX3_perform_78 : decode cX3_perform 78 = .ok (.aload_n 0, 1) := by decide +kernel
theorem dX3_perform_79 : decode cX3_perform 79 = .ok (.getfield 21, 3) := by decide +kernel
theorem dX3_perform_82 : decode cX3_perform 82 = .ok (.getfield 70, 3) := by decide +kernel
theorem dX3_perform_85 : decode cX3_perform 85 = .ok (.aload_n 0, 1) := by decide +kernel
theorem dX3_perform_86 : decode cX3_perform 86 = .ok (.getfield 21, 3) := by decide +kernel
theorem dX3_perform_89 : decode cX3_perform 89 = .ok (.getfield 77, 3) := by decide +kernel
theorem dX3_perform_92 : decode cX3_perform 92 = .ok (.invokevirtual 80, 3) := by decide +kernel
theorem dX3_perform_95 : decode cX3_perform 95 = .ok (.pop, 1) := by decide +kernel
theorem dX3_perform_96 : decode cX3_perform 96 = .ok (.goto 58, 3) := by decide +kernel
theorem dX3_perform_99 : decode cX3_perform 99 = .ok (.aload_n 0, 1) := by decide +kernel
theorem dX3_perform_100 : decode cX3_perform 100 = .ok (.getfield 12, 3) := by decide +kernel
theorem dX3_perform_103 : decode cX3_perform 103 = .ok (.aload_n 0, 1) := by decide +kernel
theorem dX3_perform_104 : decode cX3_perform 104 = .ok (.getfield 21, 3) := by decide +kernel
theorem dX3_perform_107 : decode cX3_perform 107 = .ok (.getfield 70, 3) := by decide +kernel
theorem dX3_perform_110 : decode cX3_perform 110 = .ok (.invokevirtual 84, 3) := by decide +kernel
theorem dX3_perform_113 : decode cX3_perform 113 = .ok (.pop, 1) := by decide +kernel
theorem dX3_perform_114 : decode cX3_perform 114 = .ok (.goto 40, 3) := by decide +kernel
theorem dX3_perform_117 : decode cX3_perform 117 = .ok (.aload_n 0, 1) := by decide +kernel
theorem dX3_perform_118 : decode cX3_perform 118 = .ok (.getfield 12, 3) := by decide +kernel
theorem dX3_perform_121 : decode cX3_perform 121 = .ok (.aload_n 0, 1) := by decide +kernel
theorem dX3_perform_122 : decode cX3_perform 122 = .ok (.getfield 21, 3) := by decide +kernel
theorem dX3_perform_125 : decode cX3_perform 125 = .ok (.getfield 70, 3) := by decide +kernel
theorem dX3_perform_128 : decode cX3_perform 128 = .ok (.invokevirtual 87, 3) := by decide +kernel
theorem dX3_perform_131 : decode cX3_perform 131 = .ok (.pop, 1) := by decide +kernel
theorem dX3_perform_132 : decode cX3_perform 132 = .ok (.goto 22, 3) := by decide +kernel
theorem dX3_perform_135 : decode cX3_perform 135 = .ok (.aload_n 0, 1) := by decide +kernel
theorem dX3_perform_136 : decode cX3_perform 136 = .ok (.getfield 12, 3) := by decide +kernel
theorem dX3_perform_139 : decode cX3_perform 139 = .ok (.invokevirtual 90, 3) := by decide +kernel
theorem dX3_perform_142 : decode cX3_perform 142 = .ok (.pop, 1) := by decide +kernel
theorem dX3_perform_143 : decode cX3_perform 143 = .ok (.goto 11, 3) := by decide +kernel
theorem dX3_perform_146 : decode cX3_perform 146 = .ok (.aload_n 0, 1) := by decide +kernel
theorem dX3_perform_147 : decode cX3_perform 147 = .ok (.getfield 12, 3) := by decide +kernel
theorem dX3_perform_150 : decode cX3_perform 150 = .ok (.invokevirtual 94, 3) := by decide +kernel
theorem dX3_perform_153 : decode cX3_perform 153 = .ok (.pop, 1) := by decide +kernel
theorem dX3_perform_154 : decode cX3_perform 154 = .ok (.return_, 1) := by decide +kernel
set_option maxRecDepth 20000 in
theorem ggX4_init_X0_init : GoodIn wsX4_init wsX0_init := goodIn_r _ [26, 27, 2, 3, 28, 29, 30, 31, 32, 33, 34, 35, 36, 37, 38, 39, 40, 41] (by decide +kernel) (by decide +kernel)
set_option maxRecDepth 20000 in
theorem gX4_init_X0_init_n11 : GoodIn wsX4_init (wsX0_init) := ggX4_init_X0_init
theorem dX4_init_0 : decode cX4_init 0 = .ok (.aload_n 0, 1) := by decide +kernel
theorem dX4_init_1 : decode cX4_init 1 = .ok (.invokespecial 3, 3) := by decide +kernel
theorem dX4_init_4 : decode cX4_init 4 = .ok (.aload_n 0, 1) := by decide +kernel
theorem dX4_init_5 : decode cX4_init 5 = .ok (.new 9, 3) := by decide +kernel
theorem dX4_init_8 : decode cX4_init 8 = .ok (.dup, 1) := by decide +kernel
theorem dX4_init_9 : decode cX4_init 9 = .ok (.invokespecial 11, 3) := by decide +kernel
theorem dX4_init_12 : decode cX4_init 12 = .ok (.putfield 12, 3) := by decide +kernel
theorem dX4_init_15 : decode cX4_init 15 = .ok (.aload_n 0, 1) := by decide +kernel
theorem dX4_init_16 : decode cX4_init 16 = .ok (.bipush 64, 2) := by decide +kernel
theorem dX4_init_18 : decode cX4_init 18 = .ok (.newarray .int, 2) := by decide +kernel
theorem dX4_init_20 : decode cX4_init 20 = .ok (.putfield 18, 3) := by decide +kernel
theorem dX4_init_23 : decode cX4_init 23 = .ok (.aload_n 0, 1) := by decide +kernel
theorem dX4_init_24 : decode cX4_init 24 = .ok (.bipush 64, 2) := by decide +kernel
theorem dX4_init_26 : decode cX4_init 26 = .ok (.newarray .int, 2) := by decide +kernel
theorem dX4_init_28 : decode cX4_init 28 = .ok (.putfield 22, 3) := by decide +kernel
theorem dX4_init_31 : decode cX4_init 31 = .ok (.aload_n 0, 1) := by decide +kernel
theorem dX4_init_32 : decode cX4_init 32 = .ok (.bipush 8, 2) := by decide +kernel
theorem dX4_init_34 : decode cX4_init 34 = .ok (.newarray .int, 2) := by decide +kernel
theorem dX4_init_36 : decode cX4_init 36 = .ok (.putfield 25, 3) := by decide +kernel
theorem dX4_init_39 : decode cX4_init 39 = .ok (.aload_n 0, 1) := by decide +kernel
theorem dX4_init_40 : decode cX4_init 40 = .ok (.bipush 8, 2) := by decide +kernel
theorem dX4_init_42 : decode cX4_init 42 = .ok (.newarray .int, 2) := by decide +kernel
theorem dX4_init_44 : decode cX4_init 44 = .ok (.putfield 28, 3) := by decide +kernel
theorem dX4_init_47 : decode cX4_init 47 = .ok (.aload_n 0, 1) := by decide +kernel
theorem dX4_init_48 : decode cX4_init 48 = .ok (.bipush 8, 2) := by decide +kernel
theorem dX4_init_50 : decode cX4_init 50 = .ok (.newarray .int, 2) := by decide +kernel
theorem dX4_init_52 : decode cX4_init 52 = .ok (.putfield 31, 3) := by decide +kernel
theorem dX4_init_55 : decode cX4_init 55 = .ok (.aload_n 0, 1) := by decide +kernel
theorem dX4_init_56 : decode cX4_init 56 = .ok (.bipush 8, 2) := by decide +kernel
theorem dX4_init_58 : decode cX4_init 58 = .ok (.newarray .int, 2) := by decide +kernel
theorem dX4_init_60 : decode cX4_init 60 = .ok (.putfield 34, 3) := by decide +kernel
theorem dX4_init_63 : decode cX4_init 63 = .ok (.aload_n 0, 1) := by decide +kernel
theorem dX4_init_64 : decode cX4_init 64 = .ok (.iconst 0, 1) := by decide +kernel
theorem dX4_init_65 : decode cX4_init 65 = .ok (.putfield 37, 3) := by decide +kernel
theorem dX4_init_68 : decode cX4_init 68 = .ok (.aload_n 0, 1) := by decide +kernel
theorem dX4_init_69 : decode cX4_init 69 = .ok (.iconst 0, 1) := by decide +kernel
theorem dX4_init_70 : decode cX4_init 70 = .ok (.putfield 41, 3) := by decide +kernel
theorem dX4_init_73 : decode cX4_init 73 = .ok (.aload_n 0, 1) := by decide +kernel
theorem dX4_init_74 : decode cX4_init 74 = .ok (.iconst 0, 1) := by decide +kernel
theorem dX4_init_75 : decode cX4_init 75 = .ok (.putfield 44, 3) := by decide +kernel
theorem dX4_init_78 : decode cX4_init 78 = .ok (.aload_n 0, 1) := by decide +kernel
theorem dX4_init_79 : decode cX4_init 79 = .ok (.iconst 0, 1) := by decide +kernel
theorem dX4_init_80 : decode cX4_init 80 = .ok (.putfield 47, 3) := by decide +kernel
theorem dX4_init_83 : decode cX4_init 83 = .ok (.aload_n 0, 1) := by decide +kernel
theorem dX4_init_84 : decode cX4_init 84 = .ok (.iconst 0, 1) := by decide +kernel
theorem dX4_init_85 : decode cX4_init 85 = .ok (.putfield 50, 3) := by decide +kernel
theorem dX4_init_88 : decode cX4_init 88 = .ok (.aload_n 0, 1) := by decide +kernel
theorem dX4_init_89 : decode cX4_init 89 = .ok (.iconst 0, 1) := by decide +kernel
theorem dX4_init_90 : decode cX4_init 90 = .ok (.putfield 53, 3) := by decide +kernel
theorem dX4_init_93 : decode cX4_init 93 = .ok (.aload_n 0, 1) := by decide +kernel
theorem dX4_init_94 : decode cX4_init 94 = .ok (.iconst 0, 1) := by decide +kernel
theorem dX4_init_95 : decode cX4_init 95 = .ok (.putfield 56, 3) := by decide +kernel
theorem dX4_init_98 : decode cX4_init 98 = .ok (.aload_n 0, 1) := by decide +kernel
theorem dX4_init_99 : decode cX4_init 99 = .ok (.iconst 0, 1) := by decide +kernel
theorem dX4_init_100 : decode cX4_init 100 = .ok (.putfield 59, 3) := by decide +kernel
theorem dX4_init_103 : decode cX4_init 103 = .ok (.aload_n 0, 1) := by decide +kernel
theorem dX4_init_104 : decode cX4_init 104 = .ok (.iconst 0, 1) := by decide +kernel
theorem dX4_init_105 : decode cX4_init 105 = .ok (.putfield 62, 3) := by decide +kernel
theorem dX4_init_108 : decode cX4_init 108 = .ok (.aload_n 0, 1) := by decide +kernel
theorem dX4_init_109 : decode cX4_init 109 = .ok (.iconst 0, 1) := by decide +kernel
theorem dX4_init_110 : decode cX4_init 110 = .ok (.putfield 65, 3) := by decide +kernel
theorem dX4_init_113 : decode cX4_init 113 = .ok (.return_, 1) := by decide +kernel
set_option maxRecDepth 20000 in
theorem ggX4_copy_X0_copyFrom : GoodIn wsX4_copy wsX0_copyFrom := goodIn_r _ [22, 23, 24, 25, 26, 27, 28, 29, 58, 59, 60, 61, 62, 63, 64] (by decide +kernel) (by decide +kernel)
set_option maxRecDepth 20000 in
theorem gX4_copy_X0_copyFrom : GoodIn wsX4_copy (wsV RX4 68 RX0 yX0_copyFrom wsX0_copyFrom) := goodIn_app (goodIn_of _ (by decide +kernel)) ggX4_copy_X0_copyFrom
set_option maxRecDepth 20000 in
theorem ggX4_copy_X6_copyRow : GoodIn wsX4_copy wsX6_copyRow := goodIn_r _ [32, 33, 34, 35, 36, 37, 38, 39, 40] (by decide +kernel) (by decide +kernel)
set_option maxRecDepth 20000 in
theorem gX4_copy_X6_copyRow_n72 : GoodIn wsX4_copy (wsX6_copyRow) := ggX4_copy_X6_copyRow
theorem dX4_copy_0 : decode cX4_copy 0 = .ok (.aload_n 0, 1) := by decide +kernel
theorem dX4_copy_1 : decode cX4_copy 1 = .ok (.ifnull 7, 3) := by decide +kernel
theorem dX4_copy_4 : decode cX4_copy 4 = .ok (.aload_n 1, 1) := by decide +kernel
theorem dX4_copy_5 : decode cX4_copy 5 = .ok (.ifnonnull 4, 3) := by decide +kernel
theorem dX4_copy_8 : decode cX4_copy 8 = .ok (.return_, 1) := by decide +kernel
theorem dX4_copy_9 : decode cX4_copy 9 = .ok (.aload_n 1, 1) := by decide +kernel
theorem dX4_copy_10 : decode cX4_copy 10 = .ok (.getfield 12, 3) := by decide +kernel
theorem dX4_copy_13 : decode cX4_copy 13 = .ok (.aload_n 0, 1) := by decide +kernel
theorem dX4_copy_14 : decode cX4_copy 14 = .ok (.getfield 12, 3) := by decide +kernel
theorem dX4_copy_17 : decode cX4_copy 17 = .ok (.invokevirtual 68, 3) := by decide +kernel
theorem dX4_copy_20 : decode cX4_copy 20 = .ok (.aload_n 0, 1) := by decide +kernel
theorem dX4_copy_21 : decode cX4_copy 21 = .ok (.getfield 18, 3) := by decide +kernel
theorem dX4_copy_24 : decode cX4_copy 24 = .ok (.aload_n 1, 1) := by decide +kernel
theorem dX4_copy_25 : decode cX4_copy 25 = .ok (.getfield 18, 3) := by decide +kernel
theorem dX4_copy_28 : decode cX4_copy 28 = .ok (.invokestatic 72, 3) := by decide +kernel
theorem dX4_copy_31 : decode cX4_copy 31 = .ok (.aload_n 0, 1) := by decide +kernel
theorem dX4_copy_32 : decode cX4_copy 32 = .ok (.getfield 22, 3) := by decide +kernel
theorem dX4_copy_35 : decode cX4_copy 35 = .ok (.aload_n 1, 1) := by decide +kernel
theorem dX4_copy_36 : decode cX4_copy 36 = .ok (.getfield 22, 3) := by decide +kernel
theorem dX4_copy_39 : decode cX4_copy 39 = .ok (.invokestatic 72, 3) := by decide +kernel
theorem dX4_copy_42 : decode cX4_copy 42 = .ok (.aload_n 0, 1) := by decide +kernel
theorem dX4_copy_43 : decode cX4_copy 43 = .ok (.getfield 25, 3) := by decide +kernel
theorem dX4_copy_46 : decode cX4_copy 46 = .ok (.aload_n 1, 1) := by decide +kernel
theorem dX4_copy_47 : decode cX4_copy 47 = .ok (.getfield 25, 3) := by decide +kernel
theorem dX4_copy_50 : decode cX4_copy 50 = .ok (.invokestatic 72, 3) := by decide +kernel
theorem dX4_copy_53 : decode cX4_copy 53 = .ok (.aload_n 0, 1) := by decide +kernel
theorem dX4_copy_54 : decode cX4_copy 54 = .ok (.getfield 28, 3) := by decide +kernel
theorem dX4_copy_57 : decode cX4_copy 57 = .ok (.aload_n 1, 1) := by decide +kernel
theorem dX4_copy_58 : decode cX4_copy 58 = .ok (.getfield 28, 3) := by decide +kernel
theorem dX4_copy_61 : decode cX4_copy 61 = .ok (.invokestatic 72, 3) := by decide +kernel
theorem dX4_copy_64 : decode cX4_copy 64 = .ok (.aload_n 0, 1) := by decide +kernel
theorem dX4_copy_65 : decode cX4_copy 65 = .ok (.getfield 31, 3) := by decide +kernel
theorem dX4_copy_68 : decode cX4_copy 68 = .ok (.aload_n 1, 1) := by decide +kernel
theorem dX4_copy_69 : decode cX4_copy 69 = .ok (.getfield 31, 3) := by decide +kernel
theorem dX4_copy_72 : decode cX4_copy 72 = .ok (.invokestatic 72, 3) := by decide +kernel
theorem dX4_copy_75 : decode cX4_copy 75 = .ok (.aload_n 0, 1) := by decide +kernel
theorem dX4_copy_76 : decode cX4_copy 76 = .ok (.getfield 34, 3) := by decide +kernel
theorem dX4_copy_79 : decode cX4_copy 79 = .ok (.aload_n 1, 1) := by decide +kernel
theorem dX4_copy_80 : decode cX4_copy 80 = .ok (.getfield 34, 3) := by decide +kernel
theorem dX4_copy_83 : decode cX4_copy 83 = .ok (.invokestatic 72, 3) := by decide +kernel
theorem dX4_copy_86 : decode cX4_copy 86 = .ok (.aload_n 1, 1) := by decide +kernel
theorem dX4_copy_87 : decode cX4_copy 87 = .ok (.aload_n 0, 1) := by decide +kernel
theorem dX4_copy_88 : decode cX4_copy 88 = .ok (.getfield 37, 3) := by decide +kernel
theorem dX4_copy_91 : decode cX4_copy 91 = .ok (.putfield 37, 3) := by decide +kernel
theorem dX4_copy_94 : decode cX4_copy 94 = .ok (.aload_n 1, 1) := by decide +kernel
theorem dX4_copy_95 : decode cX4_copy 95 = .ok (.aload_n 0, 1) := by decide +kernel
theorem dX4_copy_96 : decode cX4_copy 96 = .ok (.getfield 41, 3) := by decide +kernel
theorem dX4_copy_99 : decode cX4_copy 99 = .ok (.putfield 41, 3) := by decide +kernel
theorem dX4_copy_102 : decode cX4_copy 102 = .ok (.aload_n 1, 1) := by decide +kernel
theorem dX4_copy_103 : decode cX4_copy 103 = .ok (.aload_n 0, 1) := by decide +kernel
theorem dX4_copy_104 : decode cX4_copy 104 = .ok (.getfield 44, 3) := by decide +kernel
theorem dX4_copy_107 : decode cX4_copy 107 = .ok (.putfield 44, 3) := by decide +kernel
theorem dX4_copy_110 : decode cX4_copy 110 = .ok (.aload_n 1, 1) := by decide +kernel
theorem dX4_copy_111 : decode cX4_copy 111 = .ok (.aload_n 0, 1) := by decide +kernel
theorem dX4_copy_112 : decode cX4_copy 112 = .ok (.getfield 47, 3) := by decide +kernel
theorem dX4_copy_115 : decode cX4_copy 115 = .ok (.putfield 47, 3) := by decide +kernel
theorem dX4_copy_118 : decode cX4_copy 118 = .ok (.aload_n 1, 1) := by decide +kernel
theorem dX4_copy_119 : decode cX4_copy 119 = .ok (.aload_n 0, 1) := by decide +kernel
theorem dX4_copy_120 : decode cX4_copy 120 = .ok (.getfield 50, 3) := by decide +kernel
theorem dX4_copy_123 : decode cX4_copy 123 = .ok (.putfield 50, 3) := by decide +kernel
theorem dX4_copy_126 : decode cX4_copy 126 = .ok (.aload_n 1, 1) := by decide +kernel
theorem dX4_copy_127 : decode cX4_copy 127 = .ok (.aload_n 0, 1) := by decide +kernel
theorem dX4_copy_128 : decode cX4_copy 128 = .ok (.getfield 53, 3) := by decide +kernel
theorem dX4_copy_131 : decode cX4_copy 131 = .ok (.putfield 53, 3) := by decide +kernel
theorem dX4_copy_134 : decode cX4_copy 134 = .ok (.aload_n 1, 1) := by decide +kernel
theorem dX4_copy_135 : decode cX4_copy 135 = .ok (.aload_n 0, 1) := by decide +kernel
theorem dX4_copy_136 : decode cX4_copy 136 = .ok (.getfield 56, 3) := by decide +kernel
theorem dX4_copy_139 : decode cX4_copy 139 = .ok (.putfield 56, 3) := by decide +kernel
theorem dX4_copy_142 : decode cX4_copy 142 = .ok (.aload_n 1, 1) := by decide +kernel
theorem dX4_copy_143 : decode cX4_copy 143 = .ok (.aload_n 0, 1) := by decide +kernel
theorem dX4_copy_144 : decode cX4_copy 144 = .ok (.getfield 59, 3) := by decide +kernel
theorem dX4_copy_147 : decode cX4_copy 147 = .ok (.putfield 59, 3) := by decide +kernel
theorem dX4_copy_150 : decode cX4_copy 150 = .ok (.aload_n 1, 1) := by decide +kernel
theorem dX4_copy_151 : decode cX4_copy 151 = .ok (.aload_n 0, 1) := by decide +kernel
theorem dX4_copy_152 : decode cX4_copy 152 = .ok (.getfield 62, 3) := by decide +kernel
theorem dX4_copy_155 : decode cX4_copy 155 = .ok (.putfield 62, 3) := by decide +kernel
theorem dX4_copy_158 : decode cX4_copy 158 = .ok (.aload_n 1, 1) := by decide +kernel
theorem dX4_copy_159 : decode cX4_copy 159 = .ok (.aload_n 0, 1) := by decide +kernel
theorem dX4_copy_160 : decode cX4_copy 160 = .ok (.getfield 65, 3) := by decide +kernel
theorem dX4_copy_163 : decode cX4_copy 163 = .ok (.putfield 65, 3) := by decide +kernel
theorem dX4_copy_166 : decode cX4_copy 166 = .ok (.return_, 1) := by decide +kernel
set_option maxRecDepth 20000 in
theorem ggX4_readPlace_X4_lineFor : GoodIn wsX4_readPlace wsX4_lineFor := goodIn_r _ [6, 7, 8, 9, 10, 11, 12, 13, 5, 14, 15, 16, 17, 18, 19, 20, 21, 22, 23, 24, 25, 26, 27, 28, 29, 30, 31, 32, 33, 34, 35, 1, 36, 37, 38, 39, 40, 41, 42, 43, 44, 45, 46, 47, 48, 49, 50, 51, 52, 53, 54, 55, 56, 57, 58, 59, 60, 61, 62, 63, 64, 65, 66] (by decide +kernel) (by decide +kernel)
set_option maxRecDepth 20000 in
theorem gX4_readPlace_X4_lineFor : GoodIn wsX4_readPlace (wsV RX4 76 RX4 yX4_lineFor wsX4_lineFor) := goodIn_app (goodIn_of _ (by decide +kernel)) ggX4_readPlace_X4_lineFor
set_option maxRecDepth 20000 in
theorem ggX4_readPlace_X6_isLine : GoodIn wsX4_readPlace wsX6_isLine := goodIn_r _ [19] (by decide +kernel) (by decide +kernel)
set_option maxRecDepth 20000 in
theorem gX4_readPlace_X6_isLine_n80 : GoodIn wsX4_readPlace (wsX6_isLine) := ggX4_readPlace_X6_isLine
theorem dX4_readPlace_0 : decode cX4_readPlace 0 = .ok (.aload_n 0, 1) := by decide +kernel
theorem dX4_readPlace_1 : decode cX4_readPlace 1 = .ok (.iload_n 1, 1) := by decide +kernel
theorem dX4_readPlace_2 : decode cX4_readPlace 2 = .ok (.invokevirtual 76, 3) := by decide +kernel
theorem dX4_readPlace_5 : decode cX4_readPlace 5 = .ok (.istore_n 2, 1) := by decide +kernel
theorem dX4_readPlace_6 : decode cX4_readPlace 6 = .ok (.iload_n 2, 1) := by decide +kernel
theorem dX4_readPlace_7 : decode cX4_readPlace 7 = .ok (.invokestatic 80, 3) := by decide +kernel
theorem dX4_readPlace_10 : decode cX4_readPlace 10 = .ok (.ifCond .eq 12, 3) := by decide +kernel
theorem dX4_readPlace_13 : decode cX4_readPlace 13 = .ok (.aload_n 0, 1) := by decide +kernel
theorem dX4_readPlace_14 : decode cX4_readPlace 14 = .ok (.getfield 31, 3) := by decide +kernel
theorem dX4_readPlace_17 : decode cX4_readPlace 17 = .ok (.iload_n 2, 1) := by decide +kernel
theorem dX4_readPlace_18 : decode cX4_readPlace 18 = .ok (.iaload, 1) := by decide +kernel
theorem dX4_readPlace_19 : decode cX4_readPlace 19 = .ok (.goto 4, 3) := by decide +kernel
theorem dX4_readPlace_22 : decode cX4_readPlace 22 = .ok (.iconst 0, 1) := by decide +kernel
theorem dX4_readPlace_23 : decode cX4_readPlace 23 = .ok (.ireturn, 1) := by decide +kernel
set_option maxRecDepth 20000 in
theorem ggX4_writePlace_X4_lineFor : GoodIn wsX4_writePlace wsX4_lineFor := goodIn_r _ [9, 10, 11, 12, 13, 14, 15, 16, 8, 17, 2, 18, 19, 20, 21, 22, 23, 24, 25, 26, 27, 28, 29, 30, 31, 32, 33, 34, 35, 36, 37, 1, 38, 39, 40, 41, 42, 43, 44, 45, 46, 47, 48, 49, 50, 51, 84, 85, 86, 87, 88, 89, 90, 91, 92, 93, 94, 95, 96, 97, 98, 99, 100] (by decide +kernel) (by decide +kernel)
set_option maxRecDepth 20000 in
theorem gX4_writePlace_X4_lineFor : GoodIn wsX4_writePlace (wsV RX4 76 RX4 yX4_lineFor wsX4_lineFor) := goodIn_app (goodIn_of _ (by decide +kernel)) ggX4_writePlace_X4_lineFor
set_option maxRecDepth 20000 in
theorem ggX4_writePlace_X6_isLine : GoodIn wsX4_writePlace wsX6_isLine := goodIn_r _ [21] (by decide +kernel) (by decide +kernel)
set_option maxRecDepth 20000 in
theorem gX4_writePlace_X6_isLine_n80 : GoodIn wsX4_writePlace (wsX6_isLine) := ggX4_writePlace_X6_isLine
set_option maxRecDepth 20000 in
theorem ggX4_writePlace_X4_numberOf : GoodIn wsX4_writePlace wsX4_numberOf := goodIn_r _ [55, 56, 57, 58, 8, 59, 2, 60, 61, 62, 63, 64, 65, 66, 84, 85, 86, 87, 88, 89, 90, 91, 92, 93, 94, 95, 96, 97, 98, 99, 100] (by decide +kernel) (by decide +kernel)
set_option maxRecDepth 20000 in
theorem gX4_writePlace_X4_numberOf : GoodIn wsX4_writePlace (wsV RX4 84 RX4 yX4_numberOf wsX4_numberOf) := goodIn_app (goodIn_of _ (by decide +kernel)) ggX4_writePlace_X4_numberOf
set_option maxRecDepth 20000 in
theorem ggX4_writePlace_X0_allowance : GoodIn wsX4_writePlace wsX0_allowance := goodIn_r _ [71, 72, 73, 74, 75, 70, 76, 77, 78, 79, 80, 81, 82, 83, 101, 102, 103, 104, 105, 106, 107] (by decide +kernel) (by decide +kernel)
set_option maxRecDepth 20000 in
theorem gX4_writePlace_X0_allowance : GoodIn wsX4_writePlace (wsV RX4 87 RX0 yX0_allowance wsX0_allowance) := goodIn_app (goodIn_of _ (by decide +kernel)) ggX4_writePlace_X0_allowance
set_option maxRecDepth 20000 in
theorem ggX4_writePlace_X4_layOnDisk : GoodIn wsX4_writePlace wsX4_layOnDisk := goodIn_r _ [42, 43, 44, 45, 46, 20, 47, 84, 85, 86, 87, 88, 89, 90, 91, 92, 93, 94, 95, 96, 97, 98, 99, 100] (by decide +kernel) (by decide +kernel)
set_option maxRecDepth 20000 in
theorem gX4_writePlace_X4_layOnDisk : GoodIn wsX4_writePlace (wsV RX4 91 RX4 yX4_layOnDisk wsX4_layOnDisk) := goodIn_app (goodIn_of _ (by decide +kernel)) ggX4_writePlace_X4_layOnDisk
theorem dX4_writePlace_0 : decode cX4_writePlace 0 = .ok (.aload_n 0, 1) := by decide +kernel
theorem dX4_writePlace_1 : decode cX4_writePlace 1 = .ok (.iload_n 1, 1) := by decide +kernel
theorem dX4_writePlace_2 : decode cX4_writePlace 2 = .ok (.invokevirtual 76, 3) := by decide +kernel
theorem dX4_writePlace_5 : decode cX4_writePlace 5 = .ok (.istore_n 3, 1) := by decide +kernel
theorem dX4_writePlace_6 : decode cX4_writePlace 6 = .ok (.iload_n 3, 1) := by decide +kernel
theorem dX4_writePlace_7 : decode cX4_writePlace 7 = .ok (.invokestatic 80, 3) := by decide +kernel
theorem dX4_writePlace_10 : decode cX4_writePlace 10 = .ok (.ifCond .ne 5, 3) := by decide +kernel
theorem dX4_writePlace_13 : decode cX4_writePlace 13 = .ok (.iconst 0, 1) := by decide +kernel
theorem dX4_writePlace_14 : decode cX4_writePlace 14 = .ok (.ireturn, 1) := by decide +kernel
theorem dX4_writePlace_15 : decode cX4_writePlace 15 = .ok (.aload_n 0, 1) := by decide +kernel
theorem dX4_writePlace_16 : decode cX4_writePlace 16 = .ok (.getfield 31, 3) := by decide +kernel
theorem dX4_writePlace_19 : decode cX4_writePlace 19 = .ok (.iload_n 3, 1) := by decide +kernel
theorem dX4_writePlace_20 : decode cX4_writePlace 20 = .ok (.iload_n 2, 1) := by decide +kernel
theorem dX4_writePlace_21 : decode cX4_writePlace 21 = .ok (.iastore, 1) := by decide +kernel
theorem dX4_writePlace_22 : decode cX4_writePlace 22 = .ok (.aload_n 0, 1) := by decide +kernel
theorem dX4_writePlace_23 : decode cX4_writePlace 23 = .ok (.getfield 25, 3) := by decide +kernel
theorem dX4_writePlace_26 : decode cX4_writePlace 26 = .ok (.iload_n 3, 1) := by decide +kernel
theorem dX4_writePlace_27 : decode cX4_writePlace 27 = .ok (.iaload, 1) := by decide +kernel
theorem dX4_writePlace_28 : decode cX4_writePlace 28 = .ok (.iconst 2, 1) := by decide +kernel
theorem dX4_writePlace_29 : decode cX4_writePlace 29 = .ok (.if_icmp .eq 18, 3) := by decide +kernel
theorem dX4_writePlace_32 : decode cX4_writePlace 32 = .ok (.aload_n 0, 1) := by decide +kernel
theorem dX4_writePlace_33 : decode cX4_writePlace 33 = .ok (.iconst 2, 1) := by decide +kernel
theorem dX4_writePlace_34 : decode cX4_writePlace 34 = .ok (.invokevirtual 84, 3) := by decide +kernel
theorem dX4_writePlace_37 : decode cX4_writePlace 37 = .ok (.aload_n 0, 1) := by decide +kernel
theorem dX4_writePlace_38 : decode cX4_writePlace 38 = .ok (.getfield 12, 3) := by decide +kernel
theorem dX4_writePlace_41 : decode cX4_writePlace 41 = .ok (.invokevirtual 87, 3) := by decide +kernel
theorem dX4_writePlace_44 : decode cX4_writePlace 44 = .ok (.if_icmp .ge 12, 3) := by decide +kernel
theorem dX4_writePlace_47 : decode cX4_writePlace 47 = .ok (.aload_n 0, 1) := by decide +kernel
theorem dX4_writePlace_48 : decode cX4_writePlace 48 = .ok (.getfield 25, 3) := by decide +kernel
theorem dX4_writePlace_51 : decode cX4_writePlace 51 = .ok (.iload_n 3, 1) := by decide +kernel
theorem dX4_writePlace_52 : decode cX4_writePlace 52 = .ok (.iconst 2, 1) := by decide +kernel
theorem dX4_writePlace_53 : decode cX4_writePlace 53 = .ok (.iastore, 1) := by decide +kernel
theorem dX4_writePlace_54 : decode cX4_writePlace 54 = .ok (.iconst 0, 1) := by decide +kernel
theorem dX4_writePlace_55 : decode cX4_writePlace 55 = .ok (.ireturn, 1) := by decide +kernel
theorem dX4_writePlace_56 : decode cX4_writePlace 56 = .ok (.aload_n 0, 1) := by decide +kernel
theorem dX4_writePlace_57 : decode cX4_writePlace 57 = .ok (.iload_n 1, 1) := by decide +kernel
theorem dX4_writePlace_58 : decode cX4_writePlace 58 = .ok (.iload_n 2, 1) := by decide +kernel
theorem dX4_writePlace_59 : decode cX4_writePlace 59 = .ok (.invokevirtual 91, 3) := by decide +kernel
theorem dX4_writePlace_62 : decode cX4_writePlace 62 = .ok (.aload_n 0, 1) := by decide +kernel
theorem dX4_writePlace_63 : decode cX4_writePlace 63 = .ok (.dup, 1) := by decide +kernel
theorem dX4_writePlace_64 : decode cX4_writePlace 64 = .ok (.getfield 53, 3) := by decide +kernel
theorem dX4_writePlace_67 : decode cX4_writePlace 67 = .ok (.iconst 1, 1) := by decide +kernel
theorem dX4_writePlace_68 : decode cX4_writePlace 68 = .ok (.iadd, 1) := by decide +kernel
theorem dX4_writePlace_69 : decode cX4_writePlace 69 = .ok (.putfield 53, 3) := by decide +kernel
theorem dX4_writePlace_72 : decode cX4_writePlace 72 = .ok (.iconst 1, 1) := by decide +kernel
theorem dX4_writePlace_73 : decode cX4_writePlace 73 = .ok (.ireturn, 1) := by decide +kernel
set_option maxRecDepth 20000 in
theorem ggX4_lineFor_X4_holderOf : GoodIn wsX4_lineFor wsX4_holderOf := goodIn_r _ [9, 10, 11, 46, 47, 48, 49, 50, 51, 52, 53, 54, 55, 56, 57, 58, 59, 60, 61, 62] (by decide +kernel) (by decide +kernel)
set_option maxRecDepth 20000 in
theorem gX4_lineFor_X4_holderOf : GoodIn wsX4_lineFor (wsV RX4 95 RX4 yX4_holderOf wsX4_holderOf) := goodIn_app (goodIn_of _ (by decide +kernel)) ggX4_lineFor_X4_holderOf
set_option maxRecDepth 20000 in
theorem ggX4_lineFor_X6_isLine : GoodIn wsX4_lineFor wsX6_isLine := goodIn_r _ [14] (by decide +kernel) (by decide +kernel)
set_option maxRecDepth 20000 in
theorem gX4_lineFor_X6_isLine_n80 : GoodIn wsX4_lineFor (wsX6_isLine) := ggX4_lineFor_X6_isLine
set_option maxRecDepth 20000 in
theorem ggX4_lineFor_X4_lineToTake : GoodIn wsX4_lineFor wsX4_lineToTake := goodIn_r _ [18, 19, 20, 21, 8, 22, 10, 23, 24, 25, 26, 4, 46, 47, 48, 49, 50, 51, 52, 53, 54, 55, 56, 57, 58, 59, 60, 61, 62] (by decide +kernel) (by decide +kernel)
set_option maxRecDepth 20000 in
theorem gX4_lineFor_X4_lineToTake : GoodIn wsX4_lineFor (wsV RX4 98 RX4 yX4_lineToTake wsX4_lineToTake) := goodIn_app (goodIn_of _ (by decide +kernel)) ggX4_lineFor_X4_lineToTake
set_option maxRecDepth 20000 in
theorem ggX4_lineFor_X4_flushLine : GoodIn wsX4_lineFor wsX4_flushLine := goodIn_r _ [30, 10, 11, 31, 32, 12, 13, 14, 33, 34, 35, 8, 36, 37, 38, 39, 40, 41, 46, 47, 48, 49, 50, 51, 52, 53, 54, 55, 56, 57, 58, 59, 60, 61, 62] (by decide +kernel) (by decide +kernel)
set_option maxRecDepth 20000 in
theorem gX4_lineFor_X4_flushLine : GoodIn wsX4_lineFor (wsV RX4 101 RX4 yX4_flushLine wsX4_flushLine) := goodIn_app (goodIn_of _ (by decide +kernel)) ggX4_lineFor_X4_flushLine
set_option maxRecDepth 20000 in
theorem ggX4_lineFor_X4_layIntoLine : GoodIn wsX4_lineFor wsX4_layIntoLine := goodIn_r _ [45, 10, 11, 31, 37, 12, 13, 14, 40, 41, 46, 47, 48, 49, 50, 51, 52, 53, 54, 55, 56, 57, 58, 59, 60, 61, 62] (by decide +kernel) (by decide +kernel)
set_option maxRecDepth 20000 in
theorem gX4_lineFor_X4_layIntoLine : GoodIn wsX4_lineFor (wsV RX4 105 RX4 yX4_layIntoLine wsX4_layIntoLine) := goodIn_app (goodIn_of _ (by decide +kernel)) ggX4_lineFor_X4_layIntoLine
theorem dX4_lineFor_0 : decode cX4_lineFor 0 = .ok (.aload_n 0, 1) := by decide +kernel
theorem dX4_lineFor_1 : decode cX4_lineFor 1 = .ok (.iload_n 1, 1) := by decide +kernel
theorem dX4_lineFor_2 : decode cX4_lineFor 2 = .ok (.invokevirtual 95, 3) := by decide +kernel
theorem dX4_lineFor_5 : decode cX4_lineFor 5 = .ok (.istore_n 2, 1) := by decide +kernel
theorem dX4_lineFor_6 : decode cX4_lineFor 6 = .ok (.iload_n 2, 1) := by decide +kernel
theorem dX4_lineFor_7 : decode cX4_lineFor 7 = .ok (.invokestatic 80, 3) := by decide +kernel
theorem dX4_lineFor_10 : decode cX4_lineFor 10 = .ok (.ifCond .eq 16, 3) := by decide +kernel
theorem dX4_lineFor_13 : decode cX4_lineFor 13 = .ok (.aload_n 0, 1) := by decide +kernel
theorem dX4_lineFor_14 : decode cX4_lineFor 14 = .ok (.dup, 1) := by decide +kernel
theorem dX4_lineFor_15 : decode cX4_lineFor 15 = .ok (.getfield 44, 3) := by decide +kernel
theorem dX4_lineFor_18 : decode cX4_lineFor 18 = .ok (.iconst 1, 1) := by decide +kernel
theorem dX4_lineFor_19 : decode cX4_lineFor 19 = .ok (.iadd, 1) := by decide +kernel
theorem dX4_lineFor_20 : decode cX4_lineFor 20 = .ok (.putfield 44, 3) := by decide +kernel
theorem dX4_lineFor_23 : decode cX4_lineFor 23 = .ok (.goto 29, 3) := by decide +kernel
theorem dX4_lineFor_26 : decode cX4_lineFor 26 = .ok (.aload_n 0, 1) := by decide +kernel
theorem dX4_lineFor_27 : decode cX4_lineFor 27 = .ok (.dup, 1) := by decide +kernel
theorem dX4_lineFor_28 : decode cX4_lineFor 28 = .ok (.getfield 47, 3) := by decide +kernel
theorem dX4_lineFor_31 : decode cX4_lineFor 31 = .ok (.iconst 1, 1) := by decide +kernel
theorem dX4_lineFor_32 : decode cX4_lineFor 32 = .ok (.iadd, 1) := by decide +kernel
theorem dX4_lineFor_33 : decode cX4_lineFor 33 = .ok (.putfield 47, 3) := by decide +kernel
theorem dX4_lineFor_36 : decode cX4_lineFor 36 = .ok (.aload_n 0, 1) := by decide +kernel
theorem dX4_lineFor_37 : decode cX4_lineFor 37 = .ok (.invokevirtual 98, 3) := by decide +kernel
theorem dX4_lineFor_40 : decode cX4_lineFor 40 = .ok (.istore_n 2, 1) := by decide +kernel
theorem dX4_lineFor_41 : decode cX4_lineFor 41 = .ok (.aload_n 0, 1) := by decide +kernel
theorem dX4_lineFor_42 : decode cX4_lineFor 42 = .ok (.iload_n 2, 1) := by decide +kernel
theorem dX4_lineFor_43 : decode cX4_lineFor 43 = .ok (.invokevirtual 101, 3) := by decide +kernel
theorem dX4_lineFor_46 : decode cX4_lineFor 46 = .ok (.aload_n 0, 1) := by decide +kernel
theorem dX4_lineFor_47 : decode cX4_lineFor 47 = .ok (.iload_n 2, 1) := by decide +kernel
theorem dX4_lineFor_48 : decode cX4_lineFor 48 = .ok (.iload_n 1, 1) := by decide +kernel
theorem dX4_lineFor_49 : decode cX4_lineFor 49 = .ok (.invokevirtual 105, 3) := by decide +kernel
theorem dX4_lineFor_52 : decode cX4_lineFor 52 = .ok (.iload_n 2, 1) := by decide +kernel
theorem dX4_lineFor_53 : decode cX4_lineFor 53 = .ok (.invokestatic 80, 3) := by decide +kernel
theorem dX4_lineFor_56 : decode cX4_lineFor 56 = .ok (.ifCond .eq 23, 3) := by decide +kernel
theorem dX4_lineFor_59 : decode cX4_lineFor 59 = .ok (.aload_n 0, 1) := by decide +kernel
theorem dX4_lineFor_60 : decode cX4_lineFor 60 = .ok (.dup, 1) := by decide +kernel
theorem dX4_lineFor_61 : decode cX4_lineFor 61 = .ok (.getfield 37, 3) := by decide +kernel
theorem dX4_lineFor_64 : decode cX4_lineFor 64 = .ok (.iconst 1, 1) := by decide +kernel
theorem dX4_lineFor_65 : decode cX4_lineFor 65 = .ok (.iadd, 1) := by decide +kernel
theorem dX4_lineFor_66 : decode cX4_lineFor 66 = .ok (.putfield 37, 3) := by decide +kernel
theorem dX4_lineFor_69 : decode cX4_lineFor 69 = .ok (.aload_n 0, 1) := by decide +kernel
theorem dX4_lineFor_70 : decode cX4_lineFor 70 = .ok (.getfield 34, 3) := by decide +kernel
theorem dX4_lineFor_73 : decode cX4_lineFor 73 = .ok (.iload_n 2, 1) := by decide +kernel
theorem dX4_lineFor_74 : decode cX4_lineFor 74 = .ok (.aload_n 0, 1) := by decide +kernel
theorem dX4_lineFor_75 : decode cX4_lineFor 75 = .ok (.getfield 37, 3) := by decide +kernel
theorem dX4_lineFor_78 : decode cX4_lineFor 78 = .ok (.iastore, 1) := by decide +kernel
theorem dX4_lineFor_79 : decode cX4_lineFor 79 = .ok (.iload_n 2, 1) := by decide +kernel
theorem dX4_lineFor_80 : decode cX4_lineFor 80 = .ok (.ireturn, 1) := by decide +kernel
set_option maxRecDepth 20000 in
theorem ggX4_lineToTake_X4_lowestEmpty : GoodIn wsX4_lineToTake wsX4_lowestEmpty := goodIn_r _ [5, 6, 12, 13, 14, 15, 16, 17, 18, 19, 20, 21, 22, 23, 24, 25, 26, 27, 28] (by decide +kernel) (by decide +kernel)
set_option maxRecDepth 20000 in
theorem gX4_lineToTake_X4_lowestEmpty : GoodIn wsX4_lineToTake (wsV RX4 108 RX4 yX4_lowestEmpty wsX4_lowestEmpty) := goodIn_app (goodIn_of _ (by decide +kernel)) ggX4_lineToTake_X4_lowestEmpty
set_option maxRecDepth 20000 in
theorem ggX4_lineToTake_X4_lowestTurn : GoodIn wsX4_lineToTake wsX4_lowestTurn := goodIn_r _ [10, 6, 11, 12, 13, 14, 15, 16, 17, 18, 19, 20, 21, 22, 23, 24, 25, 26, 27, 28] (by decide +kernel) (by decide +kernel)
set_option maxRecDepth 20000 in
theorem gX4_lineToTake_X4_lowestTurn : GoodIn wsX4_lineToTake (wsV RX4 111 RX4 yX4_lowestTurn wsX4_lowestTurn) := goodIn_app (goodIn_of _ (by decide +kernel)) ggX4_lineToTake_X4_lowestTurn
theorem dX4_lineToTake_0 : decode cX4_lineToTake 0 = .ok (.aload_n 0, 1) := by decide +kernel
theorem dX4_lineToTake_1 : decode cX4_lineToTake 1 = .ok (.invokevirtual 108, 3) := by decide +kernel
theorem dX4_lineToTake_4 : decode cX4_lineToTake 4 = .ok (.istore_n 1, 1) := by decide +kernel
theorem dX4_lineToTake_5 : decode cX4_lineToTake 5 = .ok (.iload_n 1, 1) := by decide +kernel
theorem dX4_lineToTake_6 : decode cX4_lineToTake 6 = .ok (.iconst (-1), 1) := by decide +kernel
theorem dX4_lineToTake_7 : decode cX4_lineToTake 7 = .ok (.if_icmp .ne 9, 3) := by decide +kernel
theorem dX4_lineToTake_10 : decode cX4_lineToTake 10 = .ok (.aload_n 0, 1) := by decide +kernel
theorem dX4_lineToTake_11 : decode cX4_lineToTake 11 = .ok (.iconst 1, 1) := by decide +kernel
theorem dX4_lineToTake_12 : decode cX4_lineToTake 12 = .ok (.invokevirtual 111, 3) := by decide +kernel
theorem dX4_lineToTake_15 : decode cX4_lineToTake 15 = .ok (.istore_n 1, 1) := by decide +kernel
theorem dX4_lineToTake_16 : decode cX4_lineToTake 16 = .ok (.iload_n 1, 1) := by decide +kernel
theorem dX4_lineToTake_17 : decode cX4_lineToTake 17 = .ok (.iconst (-1), 1) := by decide +kernel
theorem dX4_lineToTake_18 : decode cX4_lineToTake 18 = .ok (.if_icmp .ne 9, 3) := by decide +kernel
theorem dX4_lineToTake_21 : decode cX4_lineToTake 21 = .ok (.aload_n 0, 1) := by decide +kernel
theorem dX4_lineToTake_22 : decode cX4_lineToTake 22 = .ok (.iconst 2, 1) := by decide +kernel
theorem dX4_lineToTake_23 : decode cX4_lineToTake 23 = .ok (.invokevirtual 111, 3) := by decide +kernel
theorem dX4_lineToTake_26 : decode cX4_lineToTake 26 = .ok (.istore_n 1, 1) := by decide +kernel
theorem dX4_lineToTake_27 : decode cX4_lineToTake 27 = .ok (.iload_n 1, 1) := by decide +kernel
theorem dX4_lineToTake_28 : decode cX4_lineToTake 28 = .ok (.ireturn, 1) := by decide +kernel
set_option maxRecDepth 20000 in
theorem ggX4_layIntoLine_X6_isLine : GoodIn wsX4_layIntoLine wsX6_isLine := goodIn_r _ [7] (by decide +kernel) (by decide +kernel)
set_option maxRecDepth 20000 in
theorem gX4_layIntoLine_X6_isLine_n80 : GoodIn wsX4_layIntoLine (wsX6_isLine) := ggX4_layIntoLine_X6_isLine
set_option maxRecDepth 20000 in
theorem ggX4_layIntoLine_X6_isPlace : GoodIn wsX4_layIntoLine wsX6_isPlace := goodIn_r _ [9] (by decide +kernel) (by decide +kernel)
set_option maxRecDepth 20000 in
theorem gX4_layIntoLine_X6_isPlace_n114 : GoodIn wsX4_layIntoLine (wsX6_isPlace) := ggX4_layIntoLine_X6_isPlace
theorem dX4_layIntoLine_0 : decode cX4_layIntoLine 0 = .ok (.iload_n 1, 1) := by decide +kernel
theorem dX4_layIntoLine_1 : decode cX4_layIntoLine 1 = .ok (.invokestatic 80, 3) := by decide +kernel
theorem dX4_layIntoLine_4 : decode cX4_layIntoLine 4 = .ok (.ifCond .eq 36, 3) := by decide +kernel
theorem dX4_layIntoLine_7 : decode cX4_layIntoLine 7 = .ok (.iload_n 2, 1) := by decide +kernel
theorem dX4_layIntoLine_8 : decode cX4_layIntoLine 8 = .ok (.invokestatic 114, 3) := by decide +kernel
theorem dX4_layIntoLine_11 : decode cX4_layIntoLine 11 = .ok (.ifCond .eq 29, 3) := by decide +kernel
theorem dX4_layIntoLine_14 : decode cX4_layIntoLine 14 = .ok (.aload_n 0, 1) := by decide +kernel
theorem dX4_layIntoLine_15 : decode cX4_layIntoLine 15 = .ok (.getfield 25, 3) := by decide +kernel
theorem dX4_layIntoLine_18 : decode cX4_layIntoLine 18 = .ok (.iload_n 1, 1) := by decide +kernel
theorem dX4_layIntoLine_19 : decode cX4_layIntoLine 19 = .ok (.iconst 1, 1) := by decide +kernel
theorem dX4_layIntoLine_20 : decode cX4_layIntoLine 20 = .ok (.iastore, 1) := by decide +kernel
theorem dX4_layIntoLine_21 : decode cX4_layIntoLine 21 = .ok (.aload_n 0, 1) := by decide +kernel
theorem dX4_layIntoLine_22 : decode cX4_layIntoLine 22 = .ok (.getfield 28, 3) := by decide +kernel
theorem dX4_layIntoLine_25 : decode cX4_layIntoLine 25 = .ok (.iload_n 1, 1) := by decide +kernel
theorem dX4_layIntoLine_26 : decode cX4_layIntoLine 26 = .ok (.iload_n 2, 1) := by decide +kernel
theorem dX4_layIntoLine_27 : decode cX4_layIntoLine 27 = .ok (.iastore, 1) := by decide +kernel
theorem dX4_layIntoLine_28 : decode cX4_layIntoLine 28 = .ok (.aload_n 0, 1) := by decide +kernel
theorem dX4_layIntoLine_29 : decode cX4_layIntoLine 29 = .ok (.getfield 31, 3) := by decide +kernel
theorem dX4_layIntoLine_32 : decode cX4_layIntoLine 32 = .ok (.iload_n 1, 1) := by decide +kernel
theorem dX4_layIntoLine_33 : decode cX4_layIntoLine 33 = .ok (.aload_n 0, 1) := by decide +kernel
theorem dX4_layIntoLine_34 : decode cX4_layIntoLine 34 = .ok (.getfield 18, 3) := by decide +kernel
theorem dX4_layIntoLine_37 : decode cX4_layIntoLine 37 = .ok (.iload_n 2, 1) := by decide +kernel
theorem dX4_layIntoLine_38 : decode cX4_layIntoLine 38 = .ok (.iaload, 1) := by decide +kernel
theorem dX4_layIntoLine_39 : decode cX4_layIntoLine 39 = .ok (.iastore, 1) := by decide +kernel
theorem dX4_layIntoLine_40 : decode cX4_layIntoLine 40 = .ok (.return_, 1) := by decide +kernel
set_option maxRecDepth 20000 in
theorem ggX4_flushLine_X6_isLine : GoodIn wsX4_flushLine wsX6_isLine := goodIn_r _ [7] (by decide +kernel) (by decide +kernel)
set_option maxRecDepth 20000 in
theorem gX4_flushLine_X6_isLine_n80 : GoodIn wsX4_flushLine (wsX6_isLine) := ggX4_flushLine_X6_isLine
set_option maxRecDepth 20000 in
theorem ggX4_flushLine_X4_layOnDisk : GoodIn wsX4_flushLine wsX4_layOnDisk := goodIn_r _ [12, 13, 14, 15, 16, 6, 17, 18, 19, 20, 21, 22, 23, 24, 25, 26, 27, 28, 29, 30, 31, 32, 33, 34] (by decide +kernel) (by decide +kernel)
set_option maxRecDepth 20000 in
theorem gX4_flushLine_X4_layOnDisk : GoodIn wsX4_flushLine (wsV RX4 91 RX4 yX4_layOnDisk wsX4_layOnDisk) := goodIn_app (goodIn_of _ (by decide +kernel)) ggX4_flushLine_X4_layOnDisk
theorem dX4_flushLine_0 : decode cX4_flushLine 0 = .ok (.iload_n 1, 1) := by decide +kernel
theorem dX4_flushLine_1 : decode cX4_flushLine 1 = .ok (.invokestatic 80, 3) := by decide +kernel
theorem dX4_flushLine_4 : decode cX4_flushLine 4 = .ok (.ifCond .eq 46, 3) := by decide +kernel
theorem dX4_flushLine_7 : decode cX4_flushLine 7 = .ok (.aload_n 0, 1) := by decide +kernel
theorem dX4_flushLine_8 : decode cX4_flushLine 8 = .ok (.getfield 25, 3) := by decide +kernel
theorem dX4_flushLine_11 : decode cX4_flushLine 11 = .ok (.iload_n 1, 1) := by decide +kernel
theorem dX4_flushLine_12 : decode cX4_flushLine 12 = .ok (.iaload, 1) := by decide +kernel
theorem dX4_flushLine_13 : decode cX4_flushLine 13 = .ok (.iconst 2, 1) := by decide +kernel
theorem dX4_flushLine_14 : decode cX4_flushLine 14 = .ok (.if_icmp .ne 36, 3) := by decide +kernel
theorem dX4_flushLine_17 : decode cX4_flushLine 17 = .ok (.aload_n 0, 1) := by decide +kernel
theorem dX4_flushLine_18 : decode cX4_flushLine 18 = .ok (.getfield 25, 3) := by decide +kernel
theorem dX4_flushLine_21 : decode cX4_flushLine 21 = .ok (.iload_n 1, 1) := by decide +kernel
theorem dX4_flushLine_22 : decode cX4_flushLine 22 = .ok (.iconst 1, 1) := by decide +kernel
theorem dX4_flushLine_23 : decode cX4_flushLine 23 = .ok (.iastore, 1) := by decide +kernel
theorem dX4_flushLine_24 : decode cX4_flushLine 24 = .ok (.aload_n 0, 1) := by decide +kernel
theorem dX4_flushLine_25 : decode cX4_flushLine 25 = .ok (.aload_n 0, 1) := by decide +kernel
theorem dX4_flushLine_26 : decode cX4_flushLine 26 = .ok (.getfield 28, 3) := by decide +kernel
theorem dX4_flushLine_29 : decode cX4_flushLine 29 = .ok (.iload_n 1, 1) := by decide +kernel
theorem dX4_flushLine_30 : decode cX4_flushLine 30 = .ok (.iaload, 1) := by decide +kernel
theorem dX4_flushLine_31 : decode cX4_flushLine 31 = .ok (.aload_n 0, 1) := by decide +kernel
theorem dX4_flushLine_32 : decode cX4_flushLine 32 = .ok (.getfield 31, 3) := by decide +kernel
theorem dX4_flushLine_35 : decode cX4_flushLine 35 = .ok (.iload_n 1, 1) := by decide +kernel
theorem dX4_flushLine_36 : decode cX4_flushLine 36 = .ok (.iaload, 1) := by decide +kernel
theorem dX4_flushLine_37 : decode cX4_flushLine 37 = .ok (.invokevirtual 91, 3) := by decide +kernel
theorem dX4_flushLine_40 : decode cX4_flushLine 40 = .ok (.aload_n 0, 1) := by decide +kernel
theorem dX4_flushLine_41 : decode cX4_flushLine 41 = .ok (.dup, 1) := by decide +kernel
theorem dX4_flushLine_42 : decode cX4_flushLine 42 = .ok (.getfield 50, 3) := by decide +kernel
theorem dX4_flushLine_45 : decode cX4_flushLine 45 = .ok (.iconst 1, 1) := by decide +kernel
theorem dX4_flushLine_46 : decode cX4_flushLine 46 = .ok (.iadd, 1) := by decide +kernel
theorem dX4_flushLine_47 : decode cX4_flushLine 47 = .ok (.putfield 50, 3) := by decide +kernel
theorem dX4_flushLine_50 : decode cX4_flushLine 50 = .ok (.return_, 1) := by decide +kernel
set_option maxRecDepth 20000 in
theorem ggX4_layOnDisk_X6_isPlace : GoodIn wsX4_layOnDisk wsX6_isPlace := goodIn_r _ [6] (by decide +kernel) (by decide +kernel)
set_option maxRecDepth 20000 in
theorem gX4_layOnDisk_X6_isPlace_n114 : GoodIn wsX4_layOnDisk (wsX6_isPlace) := ggX4_layOnDisk_X6_isPlace
theorem dX4_layOnDisk_0 : decode cX4_layOnDisk 0 = .ok (.iload_n 1, 1) := by decide +kernel
theorem dX4_layOnDisk_1 : decode cX4_layOnDisk 1 = .ok (.invokestatic 114, 3) := by decide +kernel
theorem dX4_layOnDisk_4 : decode cX4_layOnDisk 4 = .ok (.ifCond .eq 30, 3) := by decide +kernel
theorem dX4_layOnDisk_7 : decode cX4_layOnDisk 7 = .ok (.aload_n 0, 1) := by decide +kernel
theorem dX4_layOnDisk_8 : decode cX4_layOnDisk 8 = .ok (.getfield 18, 3) := by decide +kernel
theorem dX4_layOnDisk_11 : decode cX4_layOnDisk 11 = .ok (.iload_n 1, 1) := by decide +kernel
theorem dX4_layOnDisk_12 : decode cX4_layOnDisk 12 = .ok (.iload_n 2, 1) := by decide +kernel
theorem dX4_layOnDisk_13 : decode cX4_layOnDisk 13 = .ok (.iastore, 1) := by decide +kernel
theorem dX4_layOnDisk_14 : decode cX4_layOnDisk 14 = .ok (.aload_n 0, 1) := by decide +kernel
theorem dX4_layOnDisk_15 : decode cX4_layOnDisk 15 = .ok (.getfield 22, 3) := by decide +kernel
theorem dX4_layOnDisk_18 : decode cX4_layOnDisk 18 = .ok (.iload_n 1, 1) := by decide +kernel
theorem dX4_layOnDisk_19 : decode cX4_layOnDisk 19 = .ok (.dup2, 1) := by decide +kernel
theorem dX4_layOnDisk_20 : decode cX4_layOnDisk 20 = .ok (.iaload, 1) := by decide +kernel
theorem dX4_layOnDisk_21 : decode cX4_layOnDisk 21 = .ok (.iconst 1, 1) := by decide +kernel
theorem dX4_layOnDisk_22 : decode cX4_layOnDisk 22 = .ok (.iadd, 1) := by decide +kernel
theorem dX4_layOnDisk_23 : decode cX4_layOnDisk 23 = .ok (.iastore, 1) := by decide +kernel
theorem dX4_layOnDisk_24 : decode cX4_layOnDisk 24 = .ok (.aload_n 0, 1) := by decide +kernel
theorem dX4_layOnDisk_25 : decode cX4_layOnDisk 25 = .ok (.dup, 1) := by decide +kernel
theorem dX4_layOnDisk_26 : decode cX4_layOnDisk 26 = .ok (.getfield 65, 3) := by decide +kernel
theorem dX4_layOnDisk_29 : decode cX4_layOnDisk 29 = .ok (.iconst 1, 1) := by decide +kernel
theorem dX4_layOnDisk_30 : decode cX4_layOnDisk 30 = .ok (.iadd, 1) := by decide +kernel
theorem dX4_layOnDisk_31 : decode cX4_layOnDisk 31 = .ok (.putfield 65, 3) := by decide +kernel
theorem dX4_layOnDisk_34 : decode cX4_layOnDisk 34 = .ok (.return_, 1) := by decide +kernel
set_option maxRecDepth 20000 in
theorem ggX4_passTicks_X0_passTick : GoodIn wsX4_passTicks wsX0_passTick := goodIn_r _ [9, 10, 11, 12, 13, 14, 15, 16, 17, 18, 19, 8, 20, 21, 22, 23, 24, 25, 26, 27, 28, 29, 30, 31, 32, 33, 110, 111, 112, 113, 114, 115, 116] (by decide +kernel) (by decide +kernel)
set_option maxRecDepth 20000 in
theorem gX4_passTicks_X0_passTick : GoodIn wsX4_passTicks (wsV RX4 117 RX0 yX0_passTick wsX0_passTick) := goodIn_app (goodIn_of _ (by decide +kernel)) ggX4_passTicks_X0_passTick
set_option maxRecDepth 20000 in
theorem ggX4_passTicks_X4_tooMany : GoodIn wsX4_passTicks wsX4_tooMany := goodIn_r _ [38, 3, 39, 28, 15, 29, 40, 41, 42, 37, 43, 44, 45, 46, 47, 48, 49, 50, 51, 52, 53, 54, 55, 56, 57, 58, 8, 59, 10, 60, 61, 62, 63, 11, 64, 65, 13, 14, 16, 93, 94, 95, 96, 97, 98, 99, 100, 101, 102, 103, 104, 105, 106, 107, 108, 109, 110, 111, 112, 113, 114, 115, 116] (by decide +kernel) (by decide +kernel)
set_option maxRecDepth 20000 in
theorem gX4_passTicks_X4_tooMany : GoodIn wsX4_passTicks (wsV RX4 121 RX4 yX4_tooMany wsX4_tooMany) := goodIn_app (goodIn_of _ (by decide +kernel)) ggX4_passTicks_X4_tooMany
set_option maxRecDepth 20000 in
theorem ggX4_passTicks_X4_flushLowest : GoodIn wsX4_passTicks wsX4_flushLowest := goodIn_r _ [69, 70, 71, 72, 37, 73, 48, 74, 75, 76, 77, 78, 79, 80, 1, 81, 82, 83, 84, 85, 86, 87, 88, 89, 90, 91, 92, 93, 94, 95, 96, 97, 98, 99, 100, 101, 102, 103, 104, 105, 106, 107, 108, 109] (by decide +kernel) (by decide +kernel)
set_option maxRecDepth 20000 in
theorem gX4_passTicks_X4_flushLowest : GoodIn wsX4_passTicks (wsV RX4 124 RX4 yX4_flushLowest wsX4_flushLowest) := goodIn_app (goodIn_of _ (by decide +kernel)) ggX4_passTicks_X4_flushLowest
theorem dX4_passTicks_0 : decode cX4_passTicks 0 = .ok (.aload_n 0, 1) := by decide +kernel
theorem dX4_passTicks_1 : decode cX4_passTicks 1 = .ok (.getfield 50, 3) := by decide +kernel
theorem dX4_passTicks_4 : decode cX4_passTicks 4 = .ok (.istore_n 2, 1) := by decide +kernel
theorem dX4_passTicks_5 : decode cX4_passTicks 5 = .ok (.iconst 0, 1) := by decide +kernel
theorem dX4_passTicks_6 : decode cX4_passTicks 6 = .ok (.istore_n 3, 1) := by decide +kernel
theorem dX4_passTicks_7 : decode cX4_passTicks 7 = .ok (.iload_n 3, 1) := by decide +kernel
theorem dX4_passTicks_8 : decode cX4_passTicks 8 = .ok (.iload_n 1, 1) := by decide +kernel
theorem dX4_passTicks_9 : decode cX4_passTicks 9 = .ok (.if_icmp .ge 48, 3) := by decide +kernel
theorem dX4_passTicks_12 : decode cX4_passTicks 12 = .ok (.aload_n 0, 1) := by decide +kernel
theorem dX4_passTicks_13 : decode cX4_passTicks 13 = .ok (.dup, 1) := by decide +kernel
theorem dX4_passTicks_14 : decode cX4_passTicks 14 = .ok (.getfield 41, 3) := by decide +kernel
theorem dX4_passTicks_17 : decode cX4_passTicks 17 = .ok (.iconst 1, 1) := by decide +kernel
theorem dX4_passTicks_18 : decode cX4_passTicks 18 = .ok (.iadd, 1) := by decide +kernel
theorem dX4_passTicks_19 : decode cX4_passTicks 19 = .ok (.putfield 41, 3) := by decide +kernel
theorem dX4_passTicks_22 : decode cX4_passTicks 22 = .ok (.aload_n 0, 1) := by decide +kernel
theorem dX4_passTicks_23 : decode cX4_passTicks 23 = .ok (.getfield 12, 3) := by decide +kernel
theorem dX4_passTicks_26 : decode cX4_passTicks 26 = .ok (.invokevirtual 117, 3) := by decide +kernel
theorem dX4_passTicks_29 : decode cX4_passTicks 29 = .ok (.ifCond .eq 13, 3) := by decide +kernel
theorem dX4_passTicks_32 : decode cX4_passTicks 32 = .ok (.aload_n 0, 1) := by decide +kernel
theorem dX4_passTicks_33 : decode cX4_passTicks 33 = .ok (.dup, 1) := by decide +kernel
theorem dX4_passTicks_34 : decode cX4_passTicks 34 = .ok (.getfield 62, 3) := by decide +kernel
theorem dX4_passTicks_37 : decode cX4_passTicks 37 = .ok (.iconst 1, 1) := by decide +kernel
theorem dX4_passTicks_38 : decode cX4_passTicks 38 = .ok (.iadd, 1) := by decide +kernel
theorem dX4_passTicks_39 : decode cX4_passTicks 39 = .ok (.putfield 62, 3) := by decide +kernel
theorem dX4_passTicks_42 : decode cX4_passTicks 42 = .ok (.aload_n 0, 1) := by decide +kernel
theorem dX4_passTicks_43 : decode cX4_passTicks 43 = .ok (.aload_n 0, 1) := by decide +kernel
theorem dX4_passTicks_44 : decode cX4_passTicks 44 = .ok (.invokevirtual 121, 3) := by decide +kernel
theorem dX4_passTicks_47 : decode cX4_passTicks 47 = .ok (.invokevirtual 124, 3) := by decide +kernel
theorem dX4_passTicks_50 : decode cX4_passTicks 50 = .ok (.pop, 1) := by decide +kernel
theorem dX4_passTicks_51 : decode cX4_passTicks 51 = .ok (.iinc 3 1, 3) := by decide +kernel
theorem dX4_passTicks_54 : decode cX4_passTicks 54 = .ok (.goto (-47), 3) := by decide +kernel
theorem dX4_passTicks_57 : decode cX4_passTicks 57 = .ok (.aload_n 0, 1) := by decide +kernel
theorem dX4_passTicks_58 : decode cX4_passTicks 58 = .ok (.getfield 50, 3) := by decide +kernel
theorem dX4_passTicks_61 : decode cX4_passTicks 61 = .ok (.iload_n 2, 1) := by decide +kernel
theorem dX4_passTicks_62 : decode cX4_passTicks 62 = .ok (.isub, 1) := by decide +kernel
theorem dX4_passTicks_63 : decode cX4_passTicks 63 = .ok (.ireturn, 1) := by decide +kernel
set_option maxRecDepth 20000 in
theorem ggX4_putLoad_X0_useUp : GoodIn wsX4_putLoad wsX0_useUp := goodIn_r _ [6, 7, 8, 9, 10, 11, 93, 94, 95, 96, 97, 98, 99] (by decide +kernel) (by decide +kernel)
set_option maxRecDepth 20000 in
theorem gX4_putLoad_X0_useUp : GoodIn wsX4_putLoad (wsV RX4 127 RX0 yX0_useUp wsX0_useUp) := goodIn_app (goodIn_of _ (by decide +kernel)) ggX4_putLoad_X0_useUp
set_option maxRecDepth 20000 in
theorem ggX4_putLoad_X4_tooMany : GoodIn wsX4_putLoad wsX4_tooMany := goodIn_r _ [16, 1, 17, 9, 10, 11, 18, 19, 20, 15, 21, 22, 23, 24, 25, 26, 27, 28, 29, 30, 31, 32, 33, 34, 35, 36, 5, 37, 38, 39, 40, 41, 42, 7, 43, 44, 45, 46, 47, 76, 77, 78, 79, 80, 81, 82, 83, 84, 85, 86, 87, 88, 89, 90, 91, 92, 93, 94, 95, 96, 97, 98, 99] (by decide +kernel) (by decide +kernel)
set_option maxRecDepth 20000 in
theorem gX4_putLoad_X4_tooMany : GoodIn wsX4_putLoad (wsV RX4 121 RX4 yX4_tooMany wsX4_tooMany) := goodIn_app (goodIn_of _ (by decide +kernel)) ggX4_putLoad_X4_tooMany
set_option maxRecDepth 20000 in
theorem ggX4_putLoad_X4_flushLowest : GoodIn wsX4_putLoad wsX4_flushLowest := goodIn_r _ [51, 52, 53, 54, 15, 55, 26, 56, 57, 58, 59, 60, 61, 62, 63, 64, 65, 66, 67, 68, 69, 70, 71, 72, 73, 74, 75, 76, 77, 78, 79, 80, 81, 82, 83, 84, 85, 86, 87, 88, 89, 90, 91, 92] (by decide +kernel) (by decide +kernel)
set_option maxRecDepth 20000 in
theorem gX4_putLoad_X4_flushLowest : GoodIn wsX4_putLoad (wsV RX4 124 RX4 yX4_flushLowest wsX4_flushLowest) := goodIn_app (goodIn_of _ (by decide +kernel)) ggX4_putLoad_X4_flushLowest
theorem dX4_putLoad_0 : decode cX4_putLoad 0 = .ok (.aload_n 0, 1) := by decide +kernel
theorem dX4_putLoad_1 : decode cX4_putLoad 1 = .ok (.getfield 12, 3) := by decide +kernel
theorem dX4_putLoad_4 : decode cX4_putLoad 4 = .ok (.iload_n 1, 1) := by decide +kernel
theorem dX4_putLoad_5 : decode cX4_putLoad 5 = .ok (.invokevirtual 127, 3) := by decide +kernel
theorem dX4_putLoad_8 : decode cX4_putLoad 8 = .ok (.aload_n 0, 1) := by decide +kernel
theorem dX4_putLoad_9 : decode cX4_putLoad 9 = .ok (.aload_n 0, 1) := by decide +kernel
theorem dX4_putLoad_10 : decode cX4_putLoad 10 = .ok (.invokevirtual 121, 3) := by decide +kernel
theorem dX4_putLoad_13 : decode cX4_putLoad 13 = .ok (.invokevirtual 124, 3) := by decide +kernel
theorem dX4_putLoad_16 : decode cX4_putLoad 16 = .ok (.ireturn, 1) := by decide +kernel
set_option maxRecDepth 20000 in
theorem ggX4_beginCycle_X4_tooMany : GoodIn wsX4_beginCycle wsX4_tooMany := goodIn_r _ [7, 1, 8, 9, 10, 11, 12, 13, 14, 6, 15, 16, 17, 18, 19, 20, 21, 22, 23, 24, 25, 26, 27, 28, 29, 30, 31, 32, 33, 34, 35, 36, 37, 38, 39, 40, 41, 42, 43, 72, 73, 74, 75, 76, 77, 78, 79, 80, 81, 82, 83, 84, 85, 86, 87, 88, 89, 90, 91, 92, 93, 94, 95] (by decide +kernel) (by decide +kernel)
set_option maxRecDepth 20000 in
theorem gX4_beginCycle_X4_tooMany : GoodIn wsX4_beginCycle (wsV RX4 121 RX4 yX4_tooMany wsX4_tooMany) := goodIn_app (goodIn_of _ (by decide +kernel)) ggX4_beginCycle_X4_tooMany
set_option maxRecDepth 20000 in
theorem ggX4_beginCycle_X4_flushLowest : GoodIn wsX4_beginCycle wsX4_flushLowest := goodIn_r _ [47, 48, 49, 50, 6, 51, 20, 52, 53, 54, 55, 56, 57, 58, 59, 60, 61, 62, 63, 64, 65, 66, 67, 68, 69, 70, 71, 72, 73, 74, 75, 76, 77, 78, 79, 80, 81, 82, 83, 84, 85, 86, 87, 88] (by decide +kernel) (by decide +kernel)
set_option maxRecDepth 20000 in
theorem gX4_beginCycle_X4_flushLowest : GoodIn wsX4_beginCycle (wsV RX4 124 RX4 yX4_flushLowest wsX4_flushLowest) := goodIn_app (goodIn_of _ (by decide +kernel)) ggX4_beginCycle_X4_flushLowest
theorem dX4_beginCycle_0 : decode cX4_beginCycle 0 = .ok (.aload_n 0, 1) := by decide +kernel
theorem dX4_beginCycle_1 : decode cX4_beginCycle 1 = .ok (.getfield 12, 3) := by decide +kernel
theorem dX4_beginCycle_4 : decode cX4_beginCycle 4 = .ok (.iconst 1, 1) := by decide +kernel
theorem dX4_beginCycle_5 : decode cX4_beginCycle 5 = .ok (.putfield 130, 3) := by decide +kernel
theorem dX4_beginCycle_8 : decode cX4_beginCycle 8 = .ok (.aload_n 0, 1) := by decide +kernel
theorem dX4_beginCycle_9 : decode cX4_beginCycle 9 = .ok (.aload_n 0, 1) := by decide +kernel
theorem dX4_beginCycle_10 : decode cX4_beginCycle 10 = .ok (.invokevirtual 121, 3) := by decide +kernel
theorem dX4_beginCycle_13 : decode cX4_beginCycle 13 = .ok (.invokevirtual 124, 3) := by decide +kernel
theorem dX4_beginCycle_16 : decode cX4_beginCycle 16 = .ok (.ireturn, 1) := by decide +kernel
set_option maxRecDepth 20000 in
theorem ggX4_cutPower_X4_savedByCut : GoodIn wsX4_cutPower wsX4_savedByCut := goodIn_r _ [9, 1, 10, 11, 12, 13, 14, 15, 16, 8, 17, 18, 19, 20, 21, 2, 22, 23, 24, 25, 26, 27, 28, 29, 30, 31, 32, 33, 34, 35, 36, 37, 82, 83, 84, 85, 86, 87, 88, 89, 90, 91, 92, 93, 94, 95, 96, 97, 98, 99, 100, 101, 102, 103, 104, 105] (by decide +kernel) (by decide +kernel)
set_option maxRecDepth 20000 in
theorem gX4_cutPower_X4_savedByCut : GoodIn wsX4_cutPower (wsV RX4 133 RX4 yX4_savedByCut wsX4_savedByCut) := goodIn_app (goodIn_of _ (by decide +kernel)) ggX4_cutPower_X4_savedByCut
set_option maxRecDepth 20000 in
theorem ggX4_cutPower_X4_flushLowest : GoodIn wsX4_cutPower wsX4_flushLowest := goodIn_r _ [41, 42, 43, 44, 8, 45, 2, 46, 47, 48, 49, 50, 51, 52, 53, 54, 55, 56, 57, 58, 59, 60, 61, 62, 63, 64, 65, 82, 83, 84, 85, 86, 87, 88, 89, 90, 91, 92, 93, 94, 95, 96, 97, 98] (by decide +kernel) (by decide +kernel)
set_option maxRecDepth 20000 in
theorem gX4_cutPower_X4_flushLowest : GoodIn wsX4_cutPower (wsV RX4 124 RX4 yX4_flushLowest wsX4_flushLowest) := goodIn_app (goodIn_of _ (by decide +kernel)) ggX4_cutPower_X4_flushLowest
set_option maxRecDepth 20000 in
theorem ggX4_cutPower_X0_saveAtCut : GoodIn wsX4_cutPower wsX0_saveAtCut := goodIn_r _ [69, 70, 71, 72, 73, 32, 74, 35, 36, 75, 76, 77, 78, 34, 79, 80, 12, 81, 99, 100, 101, 102, 103, 104, 105] (by decide +kernel) (by decide +kernel)
set_option maxRecDepth 20000 in
theorem gX4_cutPower_X0_saveAtCut : GoodIn wsX4_cutPower (wsV RX4 136 RX0 yX0_saveAtCut wsX0_saveAtCut) := goodIn_app (goodIn_of _ (by decide +kernel)) ggX4_cutPower_X0_saveAtCut
set_option maxRecDepth 20000 in
theorem ggX4_cutPower_X4_numberOf : GoodIn wsX4_cutPower wsX4_numberOf := goodIn_r _ [17, 18, 19, 20, 8, 21, 2, 22, 23, 24, 25, 26, 27, 28, 82, 83, 84, 85, 86, 87, 88, 89, 90, 91, 92, 93, 94, 95, 96, 97, 98] (by decide +kernel) (by decide +kernel)
set_option maxRecDepth 20000 in
theorem gX4_cutPower_X4_numberOf : GoodIn wsX4_cutPower (wsV RX4 84 RX4 yX4_numberOf wsX4_numberOf) := goodIn_app (goodIn_of _ (by decide +kernel)) ggX4_cutPower_X4_numberOf
theorem dX4_cutPower_0 : decode cX4_cutPower 0 = .ok (.aload_n 0, 1) := by decide +kernel
theorem dX4_cutPower_1 : decode cX4_cutPower 1 = .ok (.invokevirtual 133, 3) := by decide +kernel
theorem dX4_cutPower_4 : decode cX4_cutPower 4 = .ok (.istore_n 1, 1) := by decide +kernel
theorem dX4_cutPower_5 : decode cX4_cutPower 5 = .ok (.aload_n 0, 1) := by decide +kernel
theorem dX4_cutPower_6 : decode cX4_cutPower 6 = .ok (.iload_n 1, 1) := by decide +kernel
theorem dX4_cutPower_7 : decode cX4_cutPower 7 = .ok (.invokevirtual 124, 3) := by decide +kernel
theorem dX4_cutPower_10 : decode cX4_cutPower 10 = .ok (.pop, 1) := by decide +kernel
theorem dX4_cutPower_11 : decode cX4_cutPower 11 = .ok (.aload_n 0, 1) := by decide +kernel
theorem dX4_cutPower_12 : decode cX4_cutPower 12 = .ok (.getfield 12, 3) := by decide +kernel
theorem dX4_cutPower_15 : decode cX4_cutPower 15 = .ok (.iload_n 1, 1) := by decide +kernel
theorem dX4_cutPower_16 : decode cX4_cutPower 16 = .ok (.invokevirtual 136, 3) := by decide +kernel
theorem dX4_cutPower_19 : decode cX4_cutPower 19 = .ok (.aload_n 0, 1) := by decide +kernel
theorem dX4_cutPower_20 : decode cX4_cutPower 20 = .ok (.iconst 2, 1) := by decide +kernel
theorem dX4_cutPower_21 : decode cX4_cutPower 21 = .ok (.invokevirtual 84, 3) := by decide +kernel
theorem dX4_cutPower_24 : decode cX4_cutPower 24 = .ok (.istore_n 2, 1) := by decide +kernel
theorem dX4_cutPower_25 : decode cX4_cutPower 25 = .ok (.iconst 0, 1) := by decide +kernel
theorem dX4_cutPower_26 : decode cX4_cutPower 26 = .ok (.istore_n 3, 1) := by decide +kernel
theorem dX4_cutPower_27 : decode cX4_cutPower 27 = .ok (.iload_n 3, 1) := by decide +kernel
theorem dX4_cutPower_28 : decode cX4_cutPower 28 = .ok (.bipush 8, 2) := by decide +kernel
theorem dX4_cutPower_30 : decode cX4_cutPower 30 = .ok (.if_icmp .ge 16, 3) := by decide +kernel
theorem dX4_cutPower_33 : decode cX4_cutPower 33 = .ok (.aload_n 0, 1) := by decide +kernel
theorem dX4_cutPower_34 : decode cX4_cutPower 34 = .ok (.getfield 25, 3) := by decide +kernel
theorem dX4_cutPower_37 : decode cX4_cutPower 37 = .ok (.iload_n 3, 1) := by decide +kernel
theorem dX4_cutPower_38 : decode cX4_cutPower 38 = .ok (.iconst 0, 1) := by decide +kernel
theorem dX4_cutPower_39 : decode cX4_cutPower 39 = .ok (.iastore, 1) := by decide +kernel
theorem dX4_cutPower_40 : decode cX4_cutPower 40 = .ok (.iinc 3 1, 3) := by decide +kernel
theorem dX4_cutPower_43 : decode cX4_cutPower 43 = .ok (.goto (-16), 3) := by decide +kernel
theorem dX4_cutPower_46 : decode cX4_cutPower 46 = .ok (.aload_n 0, 1) := by decide +kernel
theorem dX4_cutPower_47 : decode cX4_cutPower 47 = .ok (.dup, 1) := by decide +kernel
theorem dX4_cutPower_48 : decode cX4_cutPower 48 = .ok (.getfield 56, 3) := by decide +kernel
theorem dX4_cutPower_51 : decode cX4_cutPower 51 = .ok (.iload_n 2, 1) := by decide +kernel
theorem dX4_cutPower_52 : decode cX4_cutPower 52 = .ok (.iadd, 1) := by decide +kernel
theorem dX4_cutPower_53 : decode cX4_cutPower 53 = .ok (.putfield 56, 3) := by decide +kernel
theorem dX4_cutPower_56 : decode cX4_cutPower 56 = .ok (.aload_n 0, 1) := by decide +kernel
theorem dX4_cutPower_57 : decode cX4_cutPower 57 = .ok (.dup, 1) := by decide +kernel
theorem dX4_cutPower_58 : decode cX4_cutPower 58 = .ok (.getfield 59, 3) := by decide +kernel
theorem dX4_cutPower_61 : decode cX4_cutPower 61 = .ok (.iconst 1, 1) := by decide +kernel
theorem dX4_cutPower_62 : decode cX4_cutPower 62 = .ok (.iadd, 1) := by decide +kernel
theorem dX4_cutPower_63 : decode cX4_cutPower 63 = .ok (.putfield 59, 3) := by decide +kernel
theorem dX4_cutPower_66 : decode cX4_cutPower 66 = .ok (.iload_n 2, 1) := by decide +kernel
theorem dX4_cutPower_67 : decode cX4_cutPower 67 = .ok (.ireturn, 1) := by decide +kernel
set_option maxRecDepth 20000 in
theorem ggX4_tooMany_X4_numberOf : GoodIn wsX4_tooMany wsX4_numberOf := goodIn_r _ [10, 11, 12, 13, 9, 14, 15, 16, 17, 18, 19, 20, 21, 22, 39, 40, 41, 42, 43, 44, 45, 46, 47, 48, 49, 50, 51, 52, 53, 54, 55] (by decide +kernel) (by decide +kernel)
set_option maxRecDepth 20000 in
theorem gX4_tooMany_X4_numberOf : GoodIn wsX4_tooMany (wsV RX4 84 RX4 yX4_numberOf wsX4_numberOf) := goodIn_app (goodIn_of _ (by decide +kernel)) ggX4_tooMany_X4_numberOf
set_option maxRecDepth 20000 in
theorem ggX4_tooMany_X0_allowance : GoodIn wsX4_tooMany wsX0_allowance := goodIn_r _ [27, 28, 29, 30, 31, 26, 32, 33, 34, 35, 36, 37, 4, 38, 56, 57, 58, 59, 60, 61, 62] (by decide +kernel) (by decide +kernel)
set_option maxRecDepth 20000 in
theorem gX4_tooMany_X0_allowance : GoodIn wsX4_tooMany (wsV RX4 87 RX0 yX0_allowance wsX0_allowance) := goodIn_app (goodIn_of _ (by decide +kernel)) ggX4_tooMany_X0_allowance
theorem dX4_tooMany_0 : decode cX4_tooMany 0 = .ok (.aload_n 0, 1) := by decide +kernel
theorem dX4_tooMany_1 : decode cX4_tooMany 1 = .ok (.iconst 2, 1) := by decide +kernel
theorem dX4_tooMany_2 : decode cX4_tooMany 2 = .ok (.invokevirtual 84, 3) := by decide +kernel
theorem dX4_tooMany_5 : decode cX4_tooMany 5 = .ok (.aload_n 0, 1) := by decide +kernel
theorem dX4_tooMany_6 : decode cX4_tooMany 6 = .ok (.getfield 12, 3) := by decide +kernel
theorem dX4_tooMany_9 : decode cX4_tooMany 9 = .ok (.invokevirtual 87, 3) := by decide +kernel
theorem dX4_tooMany_12 : decode cX4_tooMany 12 = .ok (.isub, 1) := by decide +kernel
theorem dX4_tooMany_13 : decode cX4_tooMany 13 = .ok (.iconst 0, 1) := by decide +kernel
theorem dX4_tooMany_14 : decode cX4_tooMany 14 = .ok (.invokestatic 139, 3) := by decide +kernel
theorem dX4_tooMany_17 : decode cX4_tooMany 17 = .ok (.ireturn, 1) := by decide +kernel
set_option maxRecDepth 20000 in
theorem ggX4_flushLowest_X4_lowestTurn : GoodIn wsX4_flushLowest wsX4_lowestTurn := goodIn_r _ [5, 6, 7, 27, 28, 29, 30, 31, 32, 33, 34, 35, 36, 37, 38, 39, 40, 41, 42, 43] (by decide +kernel) (by decide +kernel)
set_option maxRecDepth 20000 in
theorem gX4_flushLowest_X4_lowestTurn : GoodIn wsX4_flushLowest (wsV RX4 111 RX4 yX4_lowestTurn wsX4_lowestTurn) := goodIn_app (goodIn_of _ (by decide +kernel)) ggX4_flushLowest_X4_lowestTurn
set_option maxRecDepth 20000 in
theorem ggX4_flushLowest_X4_flushLine : GoodIn wsX4_flushLowest wsX4_flushLine := goodIn_r _ [11, 6, 12, 13, 14, 15, 16, 17, 18, 19, 20, 4, 21, 22, 23, 24, 25, 26, 27, 28, 29, 30, 31, 32, 33, 34, 35, 36, 37, 38, 39, 40, 41, 42, 43] (by decide +kernel) (by decide +kernel)
set_option maxRecDepth 20000 in
theorem gX4_flushLowest_X4_flushLine : GoodIn wsX4_flushLowest (wsV RX4 101 RX4 yX4_flushLine wsX4_flushLine) := goodIn_app (goodIn_of _ (by decide +kernel)) ggX4_flushLowest_X4_flushLine
theorem dX4_flushLowest_0 : decode cX4_flushLowest 0 = .ok (.iconst 0, 1) := by decide +kernel
theorem dX4_flushLowest_1 : decode cX4_flushLowest 1 = .ok (.istore_n 2, 1) := by decide +kernel
theorem dX4_flushLowest_2 : decode cX4_flushLowest 2 = .ok (.iload_n 2, 1) := by decide +kernel
theorem dX4_flushLowest_3 : decode cX4_flushLowest 3 = .ok (.iload_n 1, 1) := by decide +kernel
theorem dX4_flushLowest_4 : decode cX4_flushLowest 4 = .ok (.if_icmp .ge 18, 3) := by decide +kernel
theorem dX4_flushLowest_7 : decode cX4_flushLowest 7 = .ok (.aload_n 0, 1) := by decide +kernel
theorem dX4_flushLowest_8 : decode cX4_flushLowest 8 = .ok (.aload_n 0, 1) := by decide +kernel
theorem dX4_flushLowest_9 : decode cX4_flushLowest 9 = .ok (.iconst 2, 1) := by decide +kernel
theorem dX4_flushLowest_10 : decode cX4_flushLowest 10 = .ok (.invokevirtual 111, 3) := by decide +kernel
theorem dX4_flushLowest_13 : decode cX4_flushLowest 13 = .ok (.invokevirtual 101, 3) := by decide +kernel
theorem dX4_flushLowest_16 : decode cX4_flushLowest 16 = .ok (.iinc 2 1, 3) := by decide +kernel
theorem dX4_flushLowest_19 : decode cX4_flushLowest 19 = .ok (.goto (-17), 3) := by decide +kernel
theorem dX4_flushLowest_22 : decode cX4_flushLowest 22 = .ok (.iload_n 1, 1) := by decide +kernel
theorem dX4_flushLowest_23 : decode cX4_flushLowest 23 = .ok (.ireturn, 1) := by decide +kernel
set_option maxRecDepth 20000 in
theorem ggX4_savedByCut_X4_numberOf : GoodIn wsX4_savedByCut wsX4_numberOf := goodIn_r _ [10, 11, 12, 13, 9, 14, 15, 16, 17, 18, 19, 20, 21, 22, 32, 33, 34, 35, 36, 37, 38, 39, 40, 41, 42, 43, 44, 45, 46, 47, 48] (by decide +kernel) (by decide +kernel)
set_option maxRecDepth 20000 in
theorem gX4_savedByCut_X4_numberOf : GoodIn wsX4_savedByCut (wsV RX4 84 RX4 yX4_numberOf wsX4_numberOf) := goodIn_app (goodIn_of _ (by decide +kernel)) ggX4_savedByCut_X4_numberOf
set_option maxRecDepth 20000 in
theorem ggX4_savedByCut_X0_savable : GoodIn wsX4_savedByCut wsX0_savable := goodIn_r _ [27, 28, 29, 30, 31, 3, 4, 5, 49, 50, 51, 52, 53, 54, 55] (by decide +kernel) (by decide +kernel)
set_option maxRecDepth 20000 in
theorem gX4_savedByCut_X0_savable : GoodIn wsX4_savedByCut (wsV RX4 145 RX0 yX0_savable wsX0_savable) := goodIn_app (goodIn_of _ (by decide +kernel)) ggX4_savedByCut_X0_savable
theorem dX4_savedByCut_0 : decode cX4_savedByCut 0 = .ok (.aload_n 0, 1) := by decide +kernel
theorem dX4_savedByCut_1 : decode cX4_savedByCut 1 = .ok (.iconst 2, 1) := by decide +kernel
theorem dX4_savedByCut_2 : decode cX4_savedByCut 2 = .ok (.invokevirtual 84, 3) := by decide +kernel
theorem dX4_savedByCut_5 : decode cX4_savedByCut 5 = .ok (.aload_n 0, 1) := by decide +kernel
theorem dX4_savedByCut_6 : decode cX4_savedByCut 6 = .ok (.getfield 12, 3) := by decide +kernel
theorem dX4_savedByCut_9 : decode cX4_savedByCut 9 = .ok (.invokevirtual 145, 3) := by decide +kernel
theorem dX4_savedByCut_12 : decode cX4_savedByCut 12 = .ok (.invokestatic 148, 3) := by decide +kernel
theorem dX4_savedByCut_15 : decode cX4_savedByCut 15 = .ok (.ireturn, 1) := by decide +kernel
set_option maxRecDepth 20000 in
theorem ggX4_lostByCut_X4_savedByCut : GoodIn wsX4_lostByCut wsX4_savedByCut := goodIn_r _ [6, 7, 8, 9, 10, 11, 12, 13, 14, 5, 15, 16, 17, 18, 19, 1, 20, 21, 22, 23, 24, 25, 26, 27, 28, 29, 30, 31, 32, 33, 34, 35, 44, 45, 46, 47, 48, 49, 50, 51, 52, 53, 54, 55, 56, 57, 58, 59, 60, 61, 62, 63, 64, 65, 66, 67] (by decide +kernel) (by decide +kernel)
set_option maxRecDepth 20000 in
theorem gX4_lostByCut_X4_savedByCut : GoodIn wsX4_lostByCut (wsV RX4 133 RX4 yX4_savedByCut wsX4_savedByCut) := goodIn_app (goodIn_of _ (by decide +kernel)) ggX4_lostByCut_X4_savedByCut
set_option maxRecDepth 20000 in
theorem ggX4_lostByCut_X4_linesAhead : GoodIn wsX4_lostByCut wsX4_linesAhead := goodIn_r _ [39, 1, 40, 41, 42, 43, 44, 45, 46, 47, 48, 49, 50, 51, 52, 53, 54, 55, 56, 57, 58, 59, 60] (by decide +kernel) (by decide +kernel)
set_option maxRecDepth 20000 in
theorem gX4_lostByCut_X4_linesAhead : GoodIn wsX4_lostByCut (wsV RX4 151 RX4 yX4_linesAhead wsX4_linesAhead) := goodIn_app (goodIn_of _ (by decide +kernel)) ggX4_lostByCut_X4_linesAhead
theorem dX4_lostByCut_0 : decode cX4_lostByCut 0 = .ok (.aload_n 0, 1) := by decide +kernel
theorem dX4_lostByCut_1 : decode cX4_lostByCut 1 = .ok (.invokevirtual 133, 3) := by decide +kernel
theorem dX4_lostByCut_4 : decode cX4_lostByCut 4 = .ok (.istore_n 1, 1) := by decide +kernel
theorem dX4_lostByCut_5 : decode cX4_lostByCut 5 = .ok (.iconst 0, 1) := by decide +kernel
theorem dX4_lostByCut_6 : decode cX4_lostByCut 6 = .ok (.istore_n 2, 1) := by decide +kernel
theorem dX4_lostByCut_7 : decode cX4_lostByCut 7 = .ok (.iconst 0, 1) := by decide +kernel
theorem dX4_lostByCut_8 : decode cX4_lostByCut 8 = .ok (.istore_n 3, 1) := by decide +kernel
theorem dX4_lostByCut_9 : decode cX4_lostByCut 9 = .ok (.iload_n 3, 1) := by decide +kernel
theorem dX4_lostByCut_10 : decode cX4_lostByCut 10 = .ok (.bipush 8, 2) := by decide +kernel
theorem dX4_lostByCut_12 : decode cX4_lostByCut 12 = .ok (.if_icmp .ge 35, 3) := by decide +kernel
theorem dX4_lostByCut_15 : decode cX4_lostByCut 15 = .ok (.aload_n 0, 1) := by decide +kernel
theorem dX4_lostByCut_16 : decode cX4_lostByCut 16 = .ok (.getfield 25, 3) := by decide +kernel
theorem dX4_lostByCut_19 : decode cX4_lostByCut 19 = .ok (.iload_n 3, 1) := by decide +kernel
theorem dX4_lostByCut_20 : decode cX4_lostByCut 20 = .ok (.iaload, 1) := by decide +kernel
theorem dX4_lostByCut_21 : decode cX4_lostByCut 21 = .ok (.iconst 2, 1) := by decide +kernel
theorem dX4_lostByCut_22 : decode cX4_lostByCut 22 = .ok (.if_icmp .ne 19, 3) := by decide +kernel
theorem dX4_lostByCut_25 : decode cX4_lostByCut 25 = .ok (.aload_n 0, 1) := by decide +kernel
theorem dX4_lostByCut_26 : decode cX4_lostByCut 26 = .ok (.iload_n 3, 1) := by decide +kernel
theorem dX4_lostByCut_27 : decode cX4_lostByCut 27 = .ok (.iconst 2, 1) := by decide +kernel
theorem dX4_lostByCut_28 : decode cX4_lostByCut 28 = .ok (.invokevirtual 151, 3) := by decide +kernel
theorem dX4_lostByCut_31 : decode cX4_lostByCut 31 = .ok (.iload_n 1, 1) := by decide +kernel
theorem dX4_lostByCut_32 : decode cX4_lostByCut 32 = .ok (.if_icmp .lt 9, 3) := by decide +kernel
theorem dX4_lostByCut_35 : decode cX4_lostByCut 35 = .ok (.iload_n 2, 1) := by decide +kernel
theorem dX4_lostByCut_36 : decode cX4_lostByCut 36 = .ok (.iconst 1, 1) := by decide +kernel
theorem dX4_lostByCut_37 : decode cX4_lostByCut 37 = .ok (.iload_n 3, 1) := by decide +kernel
theorem dX4_lostByCut_38 : decode cX4_lostByCut 38 = .ok (.ishl, 1) := by decide +kernel
theorem dX4_lostByCut_39 : decode cX4_lostByCut 39 = .ok (.ior, 1) := by decide +kernel
theorem dX4_lostByCut_40 : decode cX4_lostByCut 40 = .ok (.istore_n 2, 1) := by decide +kernel
theorem dX4_lostByCut_41 : decode cX4_lostByCut 41 = .ok (.iinc 3 1, 3) := by decide +kernel
theorem dX4_lostByCut_44 : decode cX4_lostByCut 44 = .ok (.goto (-35), 3) := by decide +kernel
theorem dX4_lostByCut_47 : decode cX4_lostByCut 47 = .ok (.iload_n 2, 1) := by decide +kernel
theorem dX4_lostByCut_48 : decode cX4_lostByCut 48 = .ok (.ireturn, 1) := by decide +kernel
theorem dX4_holderOf_0 : decode cX4_holderOf 0 = .ok (.iconst 0, 1) := by decide +kernel
theorem dX4_holderOf_1 : decode cX4_holderOf 1 = .ok (.istore_n 2, 1) := by decide +kernel
theorem dX4_holderOf_2 : decode cX4_holderOf 2 = .ok (.iload_n 2, 1) := by decide +kernel
theorem dX4_holderOf_3 : decode cX4_holderOf 3 = .ok (.bipush 8, 2) := by decide +kernel
theorem dX4_holderOf_5 : decode cX4_holderOf 5 = .ok (.if_icmp .ge 30, 3) := by decide +kernel
theorem dX4_holderOf_8 : decode cX4_holderOf 8 = .ok (.aload_n 0, 1) := by decide +kernel
theorem dX4_holderOf_9 : decode cX4_holderOf 9 = .ok (.getfield 25, 3) := by decide +kernel
theorem dX4_holderOf_12 : decode cX4_holderOf 12 = .ok (.iload_n 2, 1) := by decide +kernel
theorem dX4_holderOf_13 : decode cX4_holderOf 13 = .ok (.iaload, 1) := by decide +kernel
theorem dX4_holderOf_14 : decode cX4_holderOf 14 = .ok (.ifCond .eq 15, 3) := by decide +kernel
theorem dX4_holderOf_17 : decode cX4_holderOf 17 = .ok (.aload_n 0, 1) := by decide +kernel
theorem dX4_holderOf_18 : decode cX4_holderOf 18 = .ok (.getfield 28, 3) := by decide +kernel
theorem dX4_holderOf_21 : decode cX4_holderOf 21 = .ok (.iload_n 2, 1) := by decide +kernel
theorem dX4_holderOf_22 : decode cX4_holderOf 22 = .ok (.iaload, 1) := by decide +kernel
theorem dX4_holderOf_23 : decode cX4_holderOf 23 = .ok (.iload_n 1, 1) := by decide +kernel
theorem dX4_holderOf_24 : decode cX4_holderOf 24 = .ok (.if_icmp .ne 5, 3) := by decide +kernel
theorem dX4_holderOf_27 : decode cX4_holderOf 27 = .ok (.iload_n 2, 1) := by decide +kernel
theorem dX4_holderOf_28 : decode cX4_holderOf 28 = .ok (.ireturn, 1) := by decide +kernel
theorem dX4_holderOf_29 : decode cX4_holderOf 29 = .ok (.iinc 2 1, 3) := by decide +kernel
theorem dX4_holderOf_32 : decode cX4_holderOf 32 = .ok (.goto (-30), 3) := by decide +kernel
theorem dX4_holderOf_35 : decode cX4_holderOf 35 = .ok (.iconst (-1), 1) := by decide +kernel
theorem dX4_holderOf_36 : decode cX4_holderOf 36 = .ok (.ireturn, 1) := by decide +kernel
theorem dX4_lowestEmpty_0 : decode cX4_lowestEmpty 0 = .ok (.iconst 0, 1) := by decide +kernel
theorem dX4_lowestEmpty_1 : decode cX4_lowestEmpty 1 = .ok (.istore_n 1, 1) := by decide +kernel
theorem dX4_lowestEmpty_2 : decode cX4_lowestEmpty 2 = .ok (.iload_n 1, 1) := by decide +kernel
theorem dX4_lowestEmpty_3 : decode cX4_lowestEmpty 3 = .ok (.bipush 8, 2) := by decide +kernel
theorem dX4_lowestEmpty_5 : decode cX4_lowestEmpty 5 = .ok (.if_icmp .ge 20, 3) := by decide +kernel
theorem dX4_lowestEmpty_8 : decode cX4_lowestEmpty 8 = .ok (.aload_n 0, 1) := by decide +kernel
theorem dX4_lowestEmpty_9 : decode cX4_lowestEmpty 9 = .ok (.getfield 25, 3) := by decide +kernel
theorem dX4_lowestEmpty_12 : decode cX4_lowestEmpty 12 = .ok (.iload_n 1, 1) := by decide +kernel
theorem dX4_lowestEmpty_13 : decode cX4_lowestEmpty 13 = .ok (.iaload, 1) := by decide +kernel
theorem dX4_lowestEmpty_14 : decode cX4_lowestEmpty 14 = .ok (.ifCond .ne 5, 3) := by decide +kernel
theorem dX4_lowestEmpty_17 : decode cX4_lowestEmpty 17 = .ok (.iload_n 1, 1) := by decide +kernel
theorem dX4_lowestEmpty_18 : decode cX4_lowestEmpty 18 = .ok (.ireturn, 1) := by decide +kernel
theorem dX4_lowestEmpty_19 : decode cX4_lowestEmpty 19 = .ok (.iinc 1 1, 3) := by decide +kernel
theorem dX4_lowestEmpty_22 : decode cX4_lowestEmpty 22 = .ok (.goto (-20), 3) := by decide +kernel
theorem dX4_lowestEmpty_25 : decode cX4_lowestEmpty 25 = .ok (.iconst (-1), 1) := by decide +kernel
theorem dX4_lowestEmpty_26 : decode cX4_lowestEmpty 26 = .ok (.ireturn, 1) := by decide +kernel
theorem dX4_lowestTurn_0 : decode cX4_lowestTurn 0 = .ok (.iconst (-1), 1) := by decide +kernel
theorem dX4_lowestTurn_1 : decode cX4_lowestTurn 1 = .ok (.istore_n 2, 1) := by decide +kernel
theorem dX4_lowestTurn_2 : decode cX4_lowestTurn 2 = .ok (.iconst 0, 1) := by decide +kernel
theorem dX4_lowestTurn_3 : decode cX4_lowestTurn 3 = .ok (.istore_n 3, 1) := by decide +kernel
theorem dX4_lowestTurn_4 : decode cX4_lowestTurn 4 = .ok (.iconst 0, 1) := by decide +kernel
theorem dX4_lowestTurn_5 : decode cX4_lowestTurn 5 = .ok (.istore 4, 2) := by decide +kernel
theorem dX4_lowestTurn_7 : decode cX4_lowestTurn 7 = .ok (.iload 4, 2) := by decide +kernel
theorem dX4_lowestTurn_9 : decode cX4_lowestTurn 9 = .ok (.bipush 8, 2) := by decide +kernel
theorem dX4_lowestTurn_11 : decode cX4_lowestTurn 11 = .ok (.if_icmp .ge 47, 3) := by decide +kernel
theorem dX4_lowestTurn_14 : decode cX4_lowestTurn 14 = .ok (.aload_n 0, 1) := by decide +kernel
theorem dX4_lowestTurn_15 : decode cX4_lowestTurn 15 = .ok (.getfield 25, 3) := by decide +kernel
theorem dX4_lowestTurn_18 : decode cX4_lowestTurn 18 = .ok (.iload 4, 2) := by decide +kernel
theorem dX4_lowestTurn_20 : decode cX4_lowestTurn 20 = .ok (.iaload, 1) := by decide +kernel
theorem dX4_lowestTurn_21 : decode cX4_lowestTurn 21 = .ok (.iload_n 1, 1) := by decide +kernel
theorem dX4_lowestTurn_22 : decode cX4_lowestTurn 22 = .ok (.if_icmp .ne 30, 3) := by decide +kernel
theorem dX4_lowestTurn_25 : decode cX4_lowestTurn 25 = .ok (.iload_n 2, 1) := by decide +kernel
theorem dX4_lowestTurn_26 : decode cX4_lowestTurn 26 = .ok (.iconst (-1), 1) := by decide +kernel
theorem dX4_lowestTurn_27 : decode cX4_lowestTurn 27 = .ok (.if_icmp .eq 14, 3) := by decide +kernel
theorem dX4_lowestTurn_30 : decode cX4_lowestTurn 30 = .ok (.aload_n 0, 1) := by decide +kernel
theorem dX4_lowestTurn_31 : decode cX4_lowestTurn 31 = .ok (.getfield 34, 3) := by decide +kernel
theorem dX4_lowestTurn_34 : decode cX4_lowestTurn 34 = .ok (.iload 4, 2) := by decide +kernel
theorem dX4_lowestTurn_36 : decode cX4_lowestTurn 36 = .ok (.iaload, 1) := by decide +kernel
theorem dX4_lowestTurn_37 : decode cX4_lowestTurn 37 = .ok (.iload_n 3, 1) := by decide +kernel
theorem dX4_lowestTurn_38 : decode cX4_lowestTurn 38 = .ok (.if_icmp .ge 14, 3) := by decide +kernel
theorem dX4_lowestTurn_41 : decode cX4_lowestTurn 41 = .ok (.iload 4, 2) := by decide +kernel
theorem dX4_lowestTurn_43 : decode cX4_lowestTurn 43 = .ok (.istore_n 2, 1) := by decide +kernel
theorem dX4_lowestTurn_44 : decode cX4_lowestTurn 44 = .ok (.aload_n 0, 1) := by decide +kernel
theorem dX4_lowestTurn_45 : decode cX4_lowestTurn 45 = .ok (.getfield 34, 3) := by decide +kernel
theorem dX4_lowestTurn_48 : decode cX4_lowestTurn 48 = .ok (.iload 4, 2) := by decide +kernel
theorem dX4_lowestTurn_50 : decode cX4_lowestTurn 50 = .ok (.iaload, 1) := by decide +kernel
theorem dX4_lowestTurn_51 : decode cX4_lowestTurn 51 = .ok (.istore_n 3, 1) := by decide +kernel
theorem dX4_lowestTurn_52 : decode cX4_lowestTurn 52 = .ok (.iinc 4 1, 3) := by decide +kernel
theorem dX4_lowestTurn_55 : decode cX4_lowestTurn 55 = .ok (.goto (-48), 3) := by decide +kernel
theorem dX4_lowestTurn_58 : decode cX4_lowestTurn 58 = .ok (.iload_n 2, 1) := by decide +kernel
theorem dX4_lowestTurn_59 : decode cX4_lowestTurn 59 = .ok (.ireturn, 1) := by decide +kernel
set_option maxRecDepth 20000 in
theorem ggX4_linesAhead_X6_isLine : GoodIn wsX4_linesAhead wsX6_isLine := goodIn_r _ [5] (by decide +kernel) (by decide +kernel)
set_option maxRecDepth 20000 in
theorem gX4_linesAhead_X6_isLine_n80 : GoodIn wsX4_linesAhead (wsX6_isLine) := ggX4_linesAhead_X6_isLine
theorem dX4_linesAhead_0 : decode cX4_linesAhead 0 = .ok (.iconst 0, 1) := by decide +kernel
theorem dX4_linesAhead_1 : decode cX4_linesAhead 1 = .ok (.istore_n 3, 1) := by decide +kernel
theorem dX4_linesAhead_2 : decode cX4_linesAhead 2 = .ok (.iconst 0, 1) := by decide +kernel
theorem dX4_linesAhead_3 : decode cX4_linesAhead 3 = .ok (.istore 4, 2) := by decide +kernel
theorem dX4_linesAhead_5 : decode cX4_linesAhead 5 = .ok (.iload_n 1, 1) := by decide +kernel
theorem dX4_linesAhead_6 : decode cX4_linesAhead 6 = .ok (.invokestatic 80, 3) := by decide +kernel
theorem dX4_linesAhead_9 : decode cX4_linesAhead 9 = .ok (.ifCond .eq 46, 3) := by decide +kernel
theorem dX4_linesAhead_12 : decode cX4_linesAhead 12 = .ok (.iload 4, 2) := by decide +kernel
theorem dX4_linesAhead_14 : decode cX4_linesAhead 14 = .ok (.bipush 8, 2) := by decide +kernel
theorem dX4_linesAhead_16 : decode cX4_linesAhead 16 = .ok (.if_icmp .ge 39, 3) := by decide +kernel
theorem dX4_linesAhead_19 : decode cX4_linesAhead 19 = .ok (.aload_n 0, 1) := by decide +kernel
theorem dX4_linesAhead_20 : decode cX4_linesAhead 20 = .ok (.getfield 25, 3) := by decide +kernel
theorem dX4_linesAhead_23 : decode cX4_linesAhead 23 = .ok (.iload 4, 2) := by decide +kernel
theorem dX4_linesAhead_25 : decode cX4_linesAhead 25 = .ok (.iaload, 1) := by decide +kernel
theorem dX4_linesAhead_26 : decode cX4_linesAhead 26 = .ok (.iload_n 2, 1) := by decide +kernel
theorem dX4_linesAhead_27 : decode cX4_linesAhead 27 = .ok (.if_icmp .lt 22, 3) := by decide +kernel
theorem dX4_linesAhead_30 : decode cX4_linesAhead 30 = .ok (.aload_n 0, 1) := by decide +kernel
theorem dX4_linesAhead_31 : decode cX4_linesAhead 31 = .ok (.getfield 34, 3) := by decide +kernel
theorem dX4_linesAhead_34 : decode cX4_linesAhead 34 = .ok (.iload 4, 2) := by decide +kernel
theorem dX4_linesAhead_36 : decode cX4_linesAhead 36 = .ok (.iaload, 1) := by decide +kernel
theorem dX4_linesAhead_37 : decode cX4_linesAhead 37 = .ok (.aload_n 0, 1) := by decide +kernel
theorem dX4_linesAhead_38 : decode cX4_linesAhead 38 = .ok (.getfield 34, 3) := by decide +kernel
theorem dX4_linesAhead_41 : decode cX4_linesAhead 41 = .ok (.iload_n 1, 1) := by decide +kernel
theorem dX4_linesAhead_42 : decode cX4_linesAhead 42 = .ok (.iaload, 1) := by decide +kernel
theorem dX4_linesAhead_43 : decode cX4_linesAhead 43 = .ok (.if_icmp .ge 6, 3) := by decide +kernel
theorem dX4_linesAhead_46 : decode cX4_linesAhead 46 = .ok (.iinc 3 1, 3) := by decide +kernel
theorem dX4_linesAhead_49 : decode cX4_linesAhead 49 = .ok (.iinc 4 1, 3) := by decide +kernel
theorem dX4_linesAhead_52 : decode cX4_linesAhead 52 = .ok (.goto (-47), 3) := by decide +kernel
theorem dX4_linesAhead_55 : decode cX4_linesAhead 55 = .ok (.iload_n 3, 1) := by decide +kernel
theorem dX4_linesAhead_56 : decode cX4_linesAhead 56 = .ok (.ireturn, 1) := by decide +kernel
set_option maxRecDepth 20000 in
theorem ggX4_numberOf_X4_setOf : GoodIn wsX4_numberOf wsX4_setOf := goodIn_r _ [5, 6, 14, 15, 16, 17, 18, 19, 20, 21, 22, 23, 24, 25, 26, 27, 28, 29, 30] (by decide +kernel) (by decide +kernel)
set_option maxRecDepth 20000 in
theorem gX4_numberOf_X4_setOf : GoodIn wsX4_numberOf (wsV RX4 154 RX4 yX4_setOf wsX4_setOf) := goodIn_app (goodIn_of _ (by decide +kernel)) ggX4_numberOf_X4_setOf
set_option maxRecDepth 20000 in
theorem ggX4_numberOf_J6_bitCount_0f7a4 : GoodIn wsX4_numberOf wsJ6_bitCount_0f7a4 := goodIn_r _ [10, 11, 12, 13] (by decide +kernel) (by decide +kernel)
set_option maxRecDepth 20000 in
theorem gX4_numberOf_J6_bitCount_0f7a4 : GoodIn wsX4_numberOf (va_wsS RX4 157 yJ6_bitCount_0f7a4 wsJ6_bitCount_0f7a4) := goodIn_app (goodIn_of _ (by decide +kernel)) ggX4_numberOf_J6_bitCount_0f7a4
theorem dX4_numberOf_0 : decode cX4_numberOf 0 = .ok (.aload_n 0, 1) := by decide +kernel
theorem dX4_numberOf_1 : decode cX4_numberOf 1 = .ok (.iload_n 1, 1) := by decide +kernel
theorem dX4_numberOf_2 : decode cX4_numberOf 2 = .ok (.invokevirtual 154, 3) := by decide +kernel
theorem dX4_numberOf_5 : decode cX4_numberOf 5 = .ok (.invokestatic 157, 3) := by decide +kernel
theorem dX4_numberOf_8 : decode cX4_numberOf 8 = .ok (.ireturn, 1) := by decide +kernel
theorem dX4_setOf_0 : decode cX4_setOf 0 = .ok (.iconst 0, 1) := by decide +kernel
theorem dX4_setOf_1 : decode cX4_setOf 1 = .ok (.istore_n 2, 1) := by decide +kernel
theorem dX4_setOf_2 : decode cX4_setOf 2 = .ok (.iconst 0, 1) := by decide +kernel
theorem dX4_setOf_3 : decode cX4_setOf 3 = .ok (.istore_n 3, 1) := by decide +kernel
theorem dX4_setOf_4 : decode cX4_setOf 4 = .ok (.iload_n 3, 1) := by decide +kernel
theorem dX4_setOf_5 : decode cX4_setOf 5 = .ok (.bipush 8, 2) := by decide +kernel
theorem dX4_setOf_7 : decode cX4_setOf 7 = .ok (.if_icmp .ge 25, 3) := by decide +kernel
theorem dX4_setOf_10 : decode cX4_setOf 10 = .ok (.aload_n 0, 1) := by decide +kernel
theorem dX4_setOf_11 : decode cX4_setOf 11 = .ok (.getfield 25, 3) := by decide +kernel
theorem dX4_setOf_14 : decode cX4_setOf 14 = .ok (.iload_n 3, 1) := by decide +kernel
theorem dX4_setOf_15 : decode cX4_setOf 15 = .ok (.iaload, 1) := by decide +kernel
theorem dX4_setOf_16 : decode cX4_setOf 16 = .ok (.iload_n 1, 1) := by decide +kernel
theorem dX4_setOf_17 : decode cX4_setOf 17 = .ok (.if_icmp .ne 9, 3) := by decide +kernel
theorem dX4_setOf_20 : decode cX4_setOf 20 = .ok (.iload_n 2, 1) := by decide +kernel
theorem dX4_setOf_21 : decode cX4_setOf 21 = .ok (.iconst 1, 1) := by decide +kernel
theorem dX4_setOf_22 : decode cX4_setOf 22 = .ok (.iload_n 3, 1) := by decide +kernel
theorem dX4_setOf_23 : decode cX4_setOf 23 = .ok (.ishl, 1) := by decide +kernel
theorem dX4_setOf_24 : decode cX4_setOf 24 = .ok (.ior, 1) := by decide +kernel
theorem dX4_setOf_25 : decode cX4_setOf 25 = .ok (.istore_n 2, 1) := by decide +kernel
theorem dX4_setOf_26 : decode cX4_setOf 26 = .ok (.iinc 3 1, 3) := by decide +kernel
theorem dX4_setOf_29 : decode cX4_setOf 29 = .ok (.goto (-25), 3) := by decide +kernel
theorem dX4_setOf_32 : decode cX4_setOf 32 = .ok (.iload_n 2, 1) := by decide +kernel
theorem dX4_setOf_33 : decode cX4_setOf 33 = .ok (.ireturn, 1) := by decide +kernel
set_option maxRecDepth 20000 in
theorem ggX4_nearestPair_X4_distanceToDirty : GoodIn wsX4_nearestPair wsX4_distanceToDirty := goodIn_r _ [7, 1, 8, 9, 10, 11, 12, 13, 14, 15, 16, 17, 18, 19, 20, 21, 22, 23, 24, 25, 26, 27, 28, 29, 30, 31, 32, 33, 34, 35] (by decide +kernel) (by decide +kernel)
set_option maxRecDepth 20000 in
theorem gX4_nearestPair_X4_distanceToDirty : GoodIn wsX4_nearestPair (wsV RX4 162 RX4 yX4_distanceToDirty wsX4_distanceToDirty) := goodIn_app (goodIn_of _ (by decide +kernel)) ggX4_nearestPair_X4_distanceToDirty
set_option maxRecDepth 20000 in
theorem ggX4_nearestPair_X6_isLine : GoodIn wsX4_nearestPair wsX6_isLine := goodIn_r _ [18] (by decide +kernel) (by decide +kernel)
set_option maxRecDepth 20000 in
theorem gX4_nearestPair_X6_isLine_n80 : GoodIn wsX4_nearestPair (wsX6_isLine) := ggX4_nearestPair_X6_isLine
theorem dX4_nearestPair_0 : decode cX4_nearestPair 0 = .ok (.iconst (-1), 1) := by decide +kernel
theorem dX4_nearestPair_1 : decode cX4_nearestPair 1 = .ok (.istore_n 1, 1) := by decide +kernel
theorem dX4_nearestPair_2 : decode cX4_nearestPair 2 = .ok (.bipush 64, 2) := by decide +kernel
theorem dX4_nearestPair_4 : decode cX4_nearestPair 4 = .ok (.istore_n 2, 1) := by decide +kernel
theorem dX4_nearestPair_5 : decode cX4_nearestPair 5 = .ok (.iconst 0, 1) := by decide +kernel
theorem dX4_nearestPair_6 : decode cX4_nearestPair 6 = .ok (.istore_n 3, 1) := by decide +kernel
theorem dX4_nearestPair_7 : decode cX4_nearestPair 7 = .ok (.iload_n 3, 1) := by decide +kernel
theorem dX4_nearestPair_8 : decode cX4_nearestPair 8 = .ok (.bipush 8, 2) := by decide +kernel
theorem dX4_nearestPair_10 : decode cX4_nearestPair 10 = .ok (.if_icmp .ge 82, 3) := by decide +kernel
theorem dX4_nearestPair_13 : decode cX4_nearestPair 13 = .ok (.aload_n 0, 1) := by decide +kernel
theorem dX4_nearestPair_14 : decode cX4_nearestPair 14 = .ok (.getfield 25, 3) := by decide +kernel
theorem dX4_nearestPair_17 : decode cX4_nearestPair 17 = .ok (.iload_n 3, 1) := by decide +kernel
theorem dX4_nearestPair_18 : decode cX4_nearestPair 18 = .ok (.iaload, 1) := by decide +kernel
theorem dX4_nearestPair_19 : decode cX4_nearestPair 19 = .ok (.iconst 2, 1) := by decide +kernel
theorem dX4_nearestPair_20 : decode cX4_nearestPair 20 = .ok (.if_icmp .ne 11, 3) := by decide +kernel
theorem dX4_nearestPair_23 : decode cX4_nearestPair 23 = .ok (.aload_n 0, 1) := by decide +kernel
theorem dX4_nearestPair_24 : decode cX4_nearestPair 24 = .ok (.iload_n 3, 1) := by decide +kernel
theorem dX4_nearestPair_25 : decode cX4_nearestPair 25 = .ok (.invokevirtual 162, 3) := by decide +kernel
theorem dX4_nearestPair_28 : decode cX4_nearestPair 28 = .ok (.goto 5, 3) := by decide +kernel
theorem dX4_nearestPair_31 : decode cX4_nearestPair 31 = .ok (.bipush 64, 2) := by decide +kernel
theorem dX4_nearestPair_33 : decode cX4_nearestPair 33 = .ok (.istore 4, 2) := by decide +kernel
theorem dX4_nearestPair_35 : decode cX4_nearestPair 35 = .ok (.iload 4, 2) := by decide +kernel
theorem dX4_nearestPair_37 : decode cX4_nearestPair 37 = .ok (.iload_n 2, 1) := by decide +kernel
theorem dX4_nearestPair_38 : decode cX4_nearestPair 38 = .ok (.if_icmp .ne 29, 3) := by decide +kernel
theorem dX4_nearestPair_41 : decode cX4_nearestPair 41 = .ok (.iload_n 1, 1) := by decide +kernel
theorem dX4_nearestPair_42 : decode cX4_nearestPair 42 = .ok (.invokestatic 80, 3) := by decide +kernel
theorem dX4_nearestPair_45 : decode cX4_nearestPair 45 = .ok (.ifCond .eq 22, 3) := by decide +kernel
theorem dX4_nearestPair_48 : decode cX4_nearestPair 48 = .ok (.aload_n 0, 1) := by decide +kernel
theorem dX4_nearestPair_49 : decode cX4_nearestPair 49 = .ok (.getfield 34, 3) := by decide +kernel
theorem dX4_nearestPair_52 : decode cX4_nearestPair 52 = .ok (.iload_n 3, 1) := by decide +kernel
theorem dX4_nearestPair_53 : decode cX4_nearestPair 53 = .ok (.iaload, 1) := by decide +kernel
theorem dX4_nearestPair_54 : decode cX4_nearestPair 54 = .ok (.aload_n 0, 1) := by decide +kernel
theorem dX4_nearestPair_55 : decode cX4_nearestPair 55 = .ok (.getfield 34, 3) := by decide +kernel
theorem dX4_nearestPair_58 : decode cX4_nearestPair 58 = .ok (.iload_n 1, 1) := by decide +kernel
theorem dX4_nearestPair_59 : decode cX4_nearestPair 59 = .ok (.iaload, 1) := by decide +kernel
theorem dX4_nearestPair_60 : decode cX4_nearestPair 60 = .ok (.if_icmp .ge 7, 3) := by decide +kernel
theorem dX4_nearestPair_63 : decode cX4_nearestPair 63 = .ok (.iconst 1, 1) := by decide +kernel
theorem dX4_nearestPair_64 : decode cX4_nearestPair 64 = .ok (.goto 4, 3) := by decide +kernel
theorem dX4_nearestPair_67 : decode cX4_nearestPair 67 = .ok (.iconst 0, 1) := by decide +kernel
theorem dX4_nearestPair_68 : decode cX4_nearestPair 68 = .ok (.istore 5, 2) := by decide +kernel
theorem dX4_nearestPair_70 : decode cX4_nearestPair 70 = .ok (.iload 4, 2) := by decide +kernel
theorem dX4_nearestPair_72 : decode cX4_nearestPair 72 = .ok (.iload_n 2, 1) := by decide +kernel
theorem dX4_nearestPair_73 : decode cX4_nearestPair 73 = .ok (.if_icmp .lt 8, 3) := by decide +kernel
theorem dX4_nearestPair_76 : decode cX4_nearestPair 76 = .ok (.iload 5, 2) := by decide +kernel
theorem dX4_nearestPair_78 : decode cX4_nearestPair 78 = .ok (.ifCond .eq 8, 3) := by decide +kernel
theorem dX4_nearestPair_81 : decode cX4_nearestPair 81 = .ok (.iload_n 3, 1) := by decide +kernel
theorem dX4_nearestPair_82 : decode cX4_nearestPair 82 = .ok (.istore_n 1, 1) := by decide +kernel
theorem dX4_nearestPair_83 : decode cX4_nearestPair 83 = .ok (.iload 4, 2) := by decide +kernel
theorem dX4_nearestPair_85 : decode cX4_nearestPair 85 = .ok (.istore_n 2, 1) := by decide +kernel
theorem dX4_nearestPair_86 : decode cX4_nearestPair 86 = .ok (.iinc 3 1, 3) := by decide +kernel
theorem dX4_nearestPair_89 : decode cX4_nearestPair 89 = .ok (.goto (-82), 3) := by decide +kernel
theorem dX4_nearestPair_92 : decode cX4_nearestPair 92 = .ok (.iload_n 1, 1) := by decide +kernel
theorem dX4_nearestPair_93 : decode cX4_nearestPair 93 = .ok (.ireturn, 1) := by decide +kernel
set_option maxRecDepth 20000 in
theorem ggX4_distanceToDirty_X6_isLine : GoodIn wsX4_distanceToDirty wsX6_isLine := goodIn_r _ [12] (by decide +kernel) (by decide +kernel)
set_option maxRecDepth 20000 in
theorem gX4_distanceToDirty_X6_isLine_n80 : GoodIn wsX4_distanceToDirty (wsX6_isLine) := ggX4_distanceToDirty_X6_isLine
theorem dX4_distanceToDirty_0 : decode cX4_distanceToDirty 0 = .ok (.bipush 64, 2) := by decide +kernel
theorem dX4_distanceToDirty_2 : decode cX4_distanceToDirty 2 = .ok (.istore_n 2, 1) := by decide +kernel
theorem dX4_distanceToDirty_3 : decode cX4_distanceToDirty 3 = .ok (.iconst 0, 1) := by decide +kernel
theorem dX4_distanceToDirty_4 : decode cX4_distanceToDirty 4 = .ok (.istore_n 3, 1) := by decide +kernel
theorem dX4_distanceToDirty_5 : decode cX4_distanceToDirty 5 = .ok (.iload_n 1, 1) := by decide +kernel
theorem dX4_distanceToDirty_6 : decode cX4_distanceToDirty 6 = .ok (.invokestatic 80, 3) := by decide +kernel
theorem dX4_distanceToDirty_9 : decode cX4_distanceToDirty 9 = .ok (.ifCond .eq 51, 3) := by decide +kernel
theorem dX4_distanceToDirty_12 : decode cX4_distanceToDirty 12 = .ok (.iload_n 3, 1) := by decide +kernel
theorem dX4_distanceToDirty_13 : decode cX4_distanceToDirty 13 = .ok (.bipush 8, 2) := by decide +kernel
theorem dX4_distanceToDirty_15 : decode cX4_distanceToDirty 15 = .ok (.if_icmp .ge 45, 3) := by decide +kernel
theorem dX4_distanceToDirty_18 : decode cX4_distanceToDirty 18 = .ok (.iload_n 3, 1) := by decide +kernel
theorem dX4_distanceToDirty_19 : decode cX4_distanceToDirty 19 = .ok (.iload_n 1, 1) := by decide +kernel
theorem dX4_distanceToDirty_20 : decode cX4_distanceToDirty 20 = .ok (.if_icmp .eq 34, 3) := by decide +kernel
theorem dX4_distanceToDirty_23 : decode cX4_distanceToDirty 23 = .ok (.aload_n 0, 1) := by decide +kernel
theorem dX4_distanceToDirty_24 : decode cX4_distanceToDirty 24 = .ok (.getfield 25, 3) := by decide +kernel
theorem dX4_distanceToDirty_27 : decode cX4_distanceToDirty 27 = .ok (.iload_n 3, 1) := by decide +kernel
theorem dX4_distanceToDirty_28 : decode cX4_distanceToDirty 28 = .ok (.iaload, 1) := by decide +kernel
theorem dX4_distanceToDirty_29 : decode cX4_distanceToDirty 29 = .ok (.iconst 2, 1) := by decide +kernel
theorem dX4_distanceToDirty_30 : decode cX4_distanceToDirty 30 = .ok (.if_icmp .ne 24, 3) := by decide +kernel
theorem dX4_distanceToDirty_33 : decode cX4_distanceToDirty 33 = .ok (.iload_n 2, 1) := by decide +kernel
theorem dX4_distanceToDirty_34 : decode cX4_distanceToDirty 34 = .ok (.aload_n 0, 1) := by decide +kernel
theorem dX4_distanceToDirty_35 : decode cX4_distanceToDirty 35 = .ok (.getfield 28, 3) := by decide +kernel
theorem dX4_distanceToDirty_38 : decode cX4_distanceToDirty 38 = .ok (.iload_n 3, 1) := by decide +kernel
theorem dX4_distanceToDirty_39 : decode cX4_distanceToDirty 39 = .ok (.iaload, 1) := by decide +kernel
theorem dX4_distanceToDirty_40 : decode cX4_distanceToDirty 40 = .ok (.aload_n 0, 1) := by decide +kernel
theorem dX4_distanceToDirty_41 : decode cX4_distanceToDirty 41 = .ok (.getfield 28, 3) := by decide +kernel
theorem dX4_distanceToDirty_44 : decode cX4_distanceToDirty 44 = .ok (.iload_n 1, 1) := by decide +kernel
theorem dX4_distanceToDirty_45 : decode cX4_distanceToDirty 45 = .ok (.iaload, 1) := by decide +kernel
theorem dX4_distanceToDirty_46 : decode cX4_distanceToDirty 46 = .ok (.isub, 1) := by decide +kernel
theorem dX4_distanceToDirty_47 : decode cX4_distanceToDirty 47 = .ok (.invokestatic 165, 3) := by decide +kernel
theorem dX4_distanceToDirty_50 : decode cX4_distanceToDirty 50 = .ok (.invokestatic 148, 3) := by decide +kernel
theorem dX4_distanceToDirty_53 : decode cX4_distanceToDirty 53 = .ok (.istore_n 2, 1) := by decide +kernel
theorem dX4_distanceToDirty_54 : decode cX4_distanceToDirty 54 = .ok (.iinc 3 1, 3) := by decide +kernel
theorem dX4_distanceToDirty_57 : decode cX4_distanceToDirty 57 = .ok (.goto (-52), 3) := by decide +kernel
theorem dX4_distanceToDirty_60 : decode cX4_distanceToDirty 60 = .ok (.iload_n 2, 1) := by decide +kernel
theorem dX4_distanceToDirty_61 : decode cX4_distanceToDirty 61 = .ok (.ireturn, 1) := by decide +kernel
theorem dX5_init_0 : decode cX5_init 0 = .ok (.aload_n 0, 1) := by decide +kernel
theorem dX5_init_1 : decode cX5_init 1 = .ok (.invokespecial 3, 3) := by decide +kernel
theorem dX5_init_4 : decode cX5_init 4 = .ok (.aload_n 0, 1) := by decide +kernel
theorem dX5_init_5 : decode cX5_init 5 = .ok (.bipush 60, 2) := by decide +kernel
theorem dX5_init_7 : decode cX5_init 7 = .ok (.newarray .int, 2) := by decide +kernel
theorem dX5_init_9 : decode cX5_init 9 = .ok (.putfield 9, 3) := by decide +kernel
theorem dX5_init_12 : decode cX5_init 12 = .ok (.aload_n 0, 1) := by decide +kernel
theorem dX5_init_13 : decode cX5_init 13 = .ok (.iconst 0, 1) := by decide +kernel
theorem dX5_init_14 : decode cX5_init 14 = .ok (.putfield 15, 3) := by decide +kernel
theorem dX5_init_17 : decode cX5_init 17 = .ok (.return_, 1) := by decide +kernel
set_option maxRecDepth 20000 in
theorem ggX5_append_X6_isWithin : GoodIn wsX5_append wsX6_isWithin := goodIn_r _ [5] (by decide +kernel) (by decide +kernel)
set_option maxRecDepth 20000 in
theorem gX5_append_X6_isWithin_n19 : GoodIn wsX5_append (wsX6_isWithin) := ggX5_append_X6_isWithin
theorem dX5_append_0 : decode cX5_append 0 = .ok (.aload_n 0, 1) := by decide +kernel
theorem dX5_append_1 : decode cX5_append 1 = .ok (.getfield 15, 3) := by decide +kernel
theorem dX5_append_4 : decode cX5_append 4 = .ok (.iconst 0, 1) := by decide +kernel
theorem dX5_append_5 : decode cX5_append 5 = .ok (.bipush 59, 2) := by decide +kernel
theorem dX5_append_7 : decode cX5_append 7 = .ok (.invokestatic 19, 3) := by decide +kernel
theorem dX5_append_10 : decode cX5_append 10 = .ok (.ifCond .eq 23, 3) := by decide +kernel
theorem dX5_append_13 : decode cX5_append 13 = .ok (.aload_n 0, 1) := by decide +kernel
theorem dX5_append_14 : decode cX5_append 14 = .ok (.getfield 9, 3) := by decide +kernel
theorem dX5_append_17 : decode cX5_append 17 = .ok (.aload_n 0, 1) := by decide +kernel
theorem dX5_append_18 : decode cX5_append 18 = .ok (.getfield 15, 3) := by decide +kernel
theorem dX5_append_21 : decode cX5_append 21 = .ok (.iload_n 1, 1) := by decide +kernel
theorem dX5_append_22 : decode cX5_append 22 = .ok (.iastore, 1) := by decide +kernel
theorem dX5_append_23 : decode cX5_append 23 = .ok (.aload_n 0, 1) := by decide +kernel
theorem dX5_append_24 : decode cX5_append 24 = .ok (.dup, 1) := by decide +kernel
theorem dX5_append_25 : decode cX5_append 25 = .ok (.getfield 15, 3) := by decide +kernel
theorem dX5_append_28 : decode cX5_append 28 = .ok (.iconst 1, 1) := by decide +kernel
theorem dX5_append_29 : decode cX5_append 29 = .ok (.iadd, 1) := by decide +kernel
theorem dX5_append_30 : decode cX5_append 30 = .ok (.putfield 15, 3) := by decide +kernel
theorem dX5_append_33 : decode cX5_append 33 = .ok (.return_, 1) := by decide +kernel
theorem dX5_at_0 : decode cX5_at 0 = .ok (.iload_n 1, 1) := by decide +kernel
theorem dX5_at_1 : decode cX5_at 1 = .ok (.ifCond .lt 21, 3) := by decide +kernel
theorem dX5_at_4 : decode cX5_at 4 = .ok (.iload_n 1, 1) := by decide +kernel
theorem dX5_at_5 : decode cX5_at 5 = .ok (.aload_n 0, 1) := by decide +kernel
theorem dX5_at_6 : decode cX5_at 6 = .ok (.getfield 15, 3) := by decide +kernel
theorem dX5_at_9 : decode cX5_at 9 = .ok (.if_icmp .ge 13, 3) := by decide +kernel
theorem dX5_at_12 : decode cX5_at 12 = .ok (.iload_n 1, 1) := by decide +kernel
theorem dX5_at_13 : decode cX5_at 13 = .ok (.bipush 60, 2) := by decide +kernel
theorem dX5_at_15 : decode cX5_at 15 = .ok (.if_icmp .ge 7, 3) := by decide +kernel
theorem dX5_at_18 : decode cX5_at 18 = .ok (.iconst 1, 1) := by decide +kernel
theorem dX5_at_19 : decode cX5_at 19 = .ok (.goto 4, 3) := by decide +kernel
theorem dX5_at_22 : decode cX5_at 22 = .ok (.iconst 0, 1) := by decide +kernel
theorem dX5_at_23 : decode cX5_at 23 = .ok (.istore_n 2, 1) := by decide +kernel
theorem dX5_at_24 : decode cX5_at 24 = .ok (.iload_n 2, 1) := by decide +kernel
theorem dX5_at_25 : decode cX5_at 25 = .ok (.ifCond .eq 12, 3) := by decide +kernel
theorem dX5_at_28 : decode cX5_at 28 = .ok (.aload_n 0, 1) := by decide +kernel
theorem dX5_at_29 : decode cX5_at 29 = .ok (.getfield 9, 3) := by decide +kernel
theorem dX5_at_32 : decode cX5_at 32 = .ok (.iload_n 1, 1) := by decide +kernel
theorem dX5_at_33 : decode cX5_at 33 = .ok (.iaload, 1) := by decide +kernel
theorem dX5_at_34 : decode cX5_at 34 = .ok (.goto 4, 3) := by decide +kernel
theorem dX5_at_37 : decode cX5_at 37 = .ok (.iconst (-1), 1) := by decide +kernel
theorem dX5_at_38 : decode cX5_at 38 = .ok (.ireturn, 1) := by decide +kernel
set_option maxRecDepth 20000 in
theorem ggX6_init_X4_init : GoodIn wsX6_init wsX4_init := goodIn_r _ [25, 26, 2, 3, 27, 21, 22, 28, 29, 30, 31, 32, 33, 34, 35, 36, 37, 38, 39, 40, 41, 42, 43, 44, 45, 46, 47, 48, 49, 50, 51, 52, 53, 54, 55, 117, 118, 119, 120, 121, 122, 123, 88, 89, 90, 91, 92, 93, 94, 95, 96, 97, 98, 99, 100, 101, 102, 103, 104] (by decide +kernel) (by decide +kernel)
set_option maxRecDepth 20000 in
theorem gX6_init_X4_init_n9 : GoodIn wsX6_init (wsX4_init) := ggX6_init_X4_init
set_option maxRecDepth 20000 in
theorem ggX6_init_X1_init : GoodIn wsX6_init wsX1_init := goodIn_r _ [58, 59, 2, 3, 60, 61, 62, 5, 6, 24, 25, 26, 27, 21, 22, 28, 29, 30, 31, 32, 33, 34, 35, 36, 37, 38, 39, 40, 41, 42, 43, 44, 45, 46, 47, 48, 49, 50, 51, 52, 53, 54, 55, 110, 111, 88, 89, 90, 91, 92, 93, 94, 95, 96, 97, 98, 99, 100, 101, 102, 103, 104, 117, 118, 119, 120, 121, 122, 123] (by decide +kernel) (by decide +kernel)
set_option maxRecDepth 20000 in
theorem gX6_init_X1_init : GoodIn wsX6_init (wsX1_init) := ggX6_init_X1_init
set_option maxRecDepth 20000 in
theorem ggX6_init_X5_init : GoodIn wsX6_init wsX5_init := goodIn_r _ [64, 65, 2, 3, 29, 66, 67, 112, 113] (by decide +kernel) (by decide +kernel)
set_option maxRecDepth 20000 in
theorem gX6_init_X5_init_n25 : GoodIn wsX6_init (wsX5_init) := ggX6_init_X5_init
set_option maxRecDepth 20000 in
theorem ggX6_init_X3_init : GoodIn wsX6_init wsX3_init := goodIn_r _ [69, 70, 2, 3, 71, 5, 6, 72, 73, 74, 75, 76, 77, 24, 25, 26, 27, 21, 22, 28, 29, 30, 31, 32, 33, 34, 35, 36, 37, 38, 39, 40, 41, 42, 43, 44, 45, 46, 47, 48, 49, 50, 51, 52, 53, 54, 55, 78, 79, 80, 81, 82, 83, 84, 85, 86, 87, 88, 89, 90, 91, 92, 93, 94, 95, 96, 97, 98, 99, 100, 101, 102, 103, 104, 114, 115, 116, 124, 125, 126, 127, 128, 129, 130, 117, 118, 119, 120, 121, 122, 123] (by decide +kernel) (by decide +kernel)
set_option maxRecDepth 20000 in
theorem gX6_init_X3_init_n32 : GoodIn wsX6_init (wsX3_init) := ggX6_init_X3_init
set_option maxRecDepth 20000 in
theorem ggX6_init_X0_init : GoodIn wsX6_init wsX0_init := goodIn_r _ [47, 48, 2, 3, 49, 50, 51, 52, 53, 54, 55, 117, 118, 119, 120, 121, 122, 123] (by decide +kernel) (by decide +kernel)
set_option maxRecDepth 20000 in
theorem gX6_init_X0_init_n39 : GoodIn wsX6_init (wsX0_init) := ggX6_init_X0_init
theorem dX6_init_0 : decode cX6_init 0 = .ok (.aload_n 0, 1) := by decide +kernel
theorem dX6_init_1 : decode cX6_init 1 = .ok (.invokespecial 1, 3) := by decide +kernel
theorem dX6_init_4 : decode cX6_init 4 = .ok (.aload_n 0, 1) := by decide +kernel
theorem dX6_init_5 : decode cX6_init 5 = .ok (.new 7, 3) := by decide +kernel
theorem dX6_init_8 : decode cX6_init 8 = .ok (.dup, 1) := by decide +kernel
theorem dX6_init_9 : decode cX6_init 9 = .ok (.invokespecial 9, 3) := by decide +kernel
theorem dX6_init_12 : decode cX6_init 12 = .ok (.putfield 10, 3) := by decide +kernel
theorem dX6_init_15 : decode cX6_init 15 = .ok (.aload_n 0, 1) := by decide +kernel
theorem dX6_init_16 : decode cX6_init 16 = .ok (.new 16, 3) := by decide +kernel
theorem dX6_init_19 : decode cX6_init 19 = .ok (.dup, 1) := by decide +kernel
theorem dX6_init_20 : decode cX6_init 20 = .ok (.invokespecial 18, 3) := by decide +kernel
theorem dX6_init_23 : decode cX6_init 23 = .ok (.putfield 19, 3) := by decide +kernel
theorem dX6_init_26 : decode cX6_init 26 = .ok (.aload_n 0, 1) := by decide +kernel
theorem dX6_init_27 : decode cX6_init 27 = .ok (.new 23, 3) := by decide +kernel
theorem dX6_init_30 : decode cX6_init 30 = .ok (.dup, 1) := by decide +kernel
theorem dX6_init_31 : decode cX6_init 31 = .ok (.invokespecial 25, 3) := by decide +kernel
theorem dX6_init_34 : decode cX6_init 34 = .ok (.putfield 26, 3) := by decide +kernel
theorem dX6_init_37 : decode cX6_init 37 = .ok (.aload_n 0, 1) := by decide +kernel
theorem dX6_init_38 : decode cX6_init 38 = .ok (.new 30, 3) := by decide +kernel
theorem dX6_init_41 : decode cX6_init 41 = .ok (.dup, 1) := by decide +kernel
theorem dX6_init_42 : decode cX6_init 42 = .ok (.invokespecial 32, 3) := by decide +kernel
theorem dX6_init_45 : decode cX6_init 45 = .ok (.putfield 33, 3) := by decide +kernel
theorem dX6_init_48 : decode cX6_init 48 = .ok (.aload_n 0, 1) := by decide +kernel
theorem dX6_init_49 : decode cX6_init 49 = .ok (.new 37, 3) := by decide +kernel
theorem dX6_init_52 : decode cX6_init 52 = .ok (.dup, 1) := by decide +kernel
theorem dX6_init_53 : decode cX6_init 53 = .ok (.invokespecial 39, 3) := by decide +kernel
theorem dX6_init_56 : decode cX6_init 56 = .ok (.putfield 40, 3) := by decide +kernel
theorem dX6_init_59 : decode cX6_init 59 = .ok (.return_, 1) := by decide +kernel
set_option maxRecDepth 20000 in
theorem ggX6_read_X6_isPlace : GoodIn wsX6_read wsX6_isPlace := goodIn_r _ [7] (by decide +kernel) (by decide +kernel)
set_option maxRecDepth 20000 in
theorem gX6_read_X6_isPlace : GoodIn wsX6_read (va_wsS RX6 44 yX6_isPlace wsX6_isPlace) := goodIn_app (goodIn_of _ (by decide +kernel)) ggX6_read_X6_isPlace
set_option maxRecDepth 20000 in
theorem ggX6_read_X1_keep : GoodIn wsX6_read wsX1_keep := goodIn_r _ [12, 13, 14, 15, 16, 17, 11, 18, 19, 6, 20, 21, 22, 23, 24, 25, 26, 27, 28, 29, 30, 31, 32, 33, 34, 35, 36, 37, 38, 39, 40, 41, 42, 43, 44, 45, 46, 47, 48, 49, 50, 51, 52, 53, 54, 55, 56, 57, 58, 59, 60, 61, 62, 63, 107, 108, 109, 110, 111, 112, 113, 114, 115, 116, 117, 118, 119, 120, 121, 122, 123, 124, 125, 126, 127, 128, 129, 130, 131, 132] (by decide +kernel) (by decide +kernel)
set_option maxRecDepth 20000 in
theorem gX6_read_X1_keep : GoodIn wsX6_read (wsV RX6 49 RX1 yX1_keep wsX1_keep) := goodIn_app (goodIn_of _ (by decide +kernel)) ggX6_read_X1_keep
set_option maxRecDepth 20000 in
theorem ggX6_read_X4_readPlace : GoodIn wsX6_read wsX4_readPlace := goodIn_r _ [67, 30, 68, 69, 70, 23, 71, 34, 35, 32, 31, 72, 73, 74, 75, 28, 29, 76, 6, 77, 78, 79, 80, 81, 82, 83, 84, 85, 86, 87, 88, 89, 90, 91, 92, 93, 36, 94, 95, 96, 97, 26, 27, 41, 5, 7, 98, 99, 100, 101, 109, 110, 111, 112, 113, 114, 115, 116, 117, 118, 119, 120, 121, 122, 123, 124, 125] (by decide +kernel) (by decide +kernel)
set_option maxRecDepth 20000 in
theorem gX6_read_X4_readPlace : GoodIn wsX6_read (wsV RX6 53 RX4 yX4_readPlace wsX4_readPlace) := goodIn_app (goodIn_of _ (by decide +kernel)) ggX6_read_X4_readPlace
theorem dX6_read_0 : decode cX6_read 0 = .ok (.iload_n 1, 1) := by decide +kernel
theorem dX6_read_1 : decode cX6_read 1 = .ok (.invokestatic 44, 3) := by decide +kernel
theorem dX6_read_4 : decode cX6_read 4 = .ok (.ifCond .ne 6, 3) := by decide +kernel
theorem dX6_read_7 : decode cX6_read 7 = .ok (.ldc 48, 2) := by decide +kernel
theorem dX6_read_9 : decode cX6_read 9 = .ok (.ireturn, 1) := by decide +kernel
theorem dX6_read_10 : decode cX6_read 10 = .ok (.aload_n 0, 1) := by decide +kernel
theorem dX6_read_11 : decode cX6_read 11 = .ok (.getfield 19, 3) := by decide +kernel
theorem dX6_read_14 : decode cX6_read 14 = .ok (.aload_n 0, 1) := by decide +kernel
theorem dX6_read_15 : decode cX6_read 15 = .ok (.getfield 10, 3) := by decide +kernel
theorem dX6_read_18 : decode cX6_read 18 = .ok (.invokevirtual 49, 3) := by decide +kernel
theorem dX6_read_21 : decode cX6_read 21 = .ok (.aload_n 0, 1) := by decide +kernel
theorem dX6_read_22 : decode cX6_read 22 = .ok (.getfield 10, 3) := by decide +kernel
theorem dX6_read_25 : decode cX6_read 25 = .ok (.iload_n 1, 1) := by decide +kernel
theorem dX6_read_26 : decode cX6_read 26 = .ok (.invokevirtual 53, 3) := by decide +kernel
theorem dX6_read_29 : decode cX6_read 29 = .ok (.ireturn, 1) := by decide +kernel
set_option maxRecDepth 20000 in
theorem ggX6_write_X6_isPlace : GoodIn wsX6_write wsX6_isPlace := goodIn_r _ [7] (by decide +kernel) (by decide +kernel)
set_option maxRecDepth 20000 in
theorem gX6_write_X6_isPlace : GoodIn wsX6_write (va_wsS RX6 44 yX6_isPlace wsX6_isPlace) := goodIn_app (goodIn_of _ (by decide +kernel)) ggX6_write_X6_isPlace
set_option maxRecDepth 20000 in
theorem ggX6_write_X6_isWithin : GoodIn wsX6_write wsX6_isWithin := goodIn_r _ [10] (by decide +kernel) (by decide +kernel)
set_option maxRecDepth 20000 in
theorem gX6_write_X6_isWithin : GoodIn wsX6_write (va_wsS RX6 57 yX6_isWithin wsX6_isWithin) := goodIn_app (goodIn_of _ (by decide +kernel)) ggX6_write_X6_isWithin
set_option maxRecDepth 20000 in
theorem ggX6_write_X1_keep : GoodIn wsX6_write wsX1_keep := goodIn_r _ [15, 16, 17, 18, 19, 20, 14, 21, 9, 6, 10, 22, 23, 24, 25, 26, 27, 28, 29, 30, 31, 32, 33, 34, 35, 36, 37, 38, 39, 40, 41, 42, 43, 44, 45, 46, 47, 48, 49, 50, 51, 52, 53, 54, 55, 56, 57, 58, 59, 60, 61, 62, 63, 64, 132, 133, 134, 135, 136, 137, 138, 139, 140, 141, 142, 143, 144, 145, 146, 147, 148, 149, 150, 151, 152, 153, 154, 155, 156, 157] (by decide +kernel) (by decide +kernel)
set_option maxRecDepth 20000 in
theorem gX6_write_X1_keep : GoodIn wsX6_write (wsV RX6 49 RX1 yX1_keep wsX1_keep) := goodIn_app (goodIn_of _ (by decide +kernel)) ggX6_write_X1_keep
set_option maxRecDepth 20000 in
theorem ggX6_write_X4_writePlace : GoodIn wsX6_write wsX4_writePlace := goodIn_r _ [68, 31, 29, 26, 38, 69, 70, 71, 24, 72, 35, 36, 33, 32, 73, 74, 75, 76, 30, 77, 6, 78, 79, 80, 81, 82, 83, 84, 85, 86, 87, 88, 89, 90, 91, 92, 93, 94, 37, 95, 96, 97, 98, 27, 28, 42, 5, 7, 99, 100, 101, 102, 103, 104, 105, 106, 107, 108, 109, 110, 111, 112, 113, 114, 115, 116, 117, 118, 119, 120, 46, 121, 50, 122, 123, 124, 125, 48, 52, 51, 126, 58, 59, 60, 134, 135, 136, 137, 138, 139, 140, 141, 142, 143, 144, 145, 146, 147, 148, 149, 150, 151, 152, 153, 154, 155, 156, 157] (by decide +kernel) (by decide +kernel)
set_option maxRecDepth 20000 in
theorem gX6_write_X4_writePlace : GoodIn wsX6_write (wsV RX6 61 RX4 yX4_writePlace wsX4_writePlace) := goodIn_app (goodIn_of _ (by decide +kernel)) ggX6_write_X4_writePlace
theorem dX6_write_0 : decode cX6_write 0 = .ok (.iload_n 1, 1) := by decide +kernel
theorem dX6_write_1 : decode cX6_write 1 = .ok (.invokestatic 44, 3) := by decide +kernel
theorem dX6_write_4 : decode cX6_write 4 = .ok (.ifCond .eq 14, 3) := by decide +kernel
theorem dX6_write_7 : decode cX6_write 7 = .ok (.iload_n 2, 1) := by decide +kernel
theorem dX6_write_8 : decode cX6_write 8 = .ok (.iconst 0, 1) := by decide +kernel
theorem dX6_write_9 : decode cX6_write 9 = .ok (.sipush 999, 3) := by decide +kernel
theorem dX6_write_12 : decode cX6_write 12 = .ok (.invokestatic 57, 3) := by decide +kernel
theorem dX6_write_15 : decode cX6_write 15 = .ok (.ifCond .ne 6, 3) := by decide +kernel
theorem dX6_write_18 : decode cX6_write 18 = .ok (.ldc 48, 2) := by decide +kernel
theorem dX6_write_20 : decode cX6_write 20 = .ok (.ireturn, 1) := by decide +kernel
theorem dX6_write_21 : decode cX6_write 21 = .ok (.aload_n 0, 1) := by decide +kernel
theorem dX6_write_22 : decode cX6_write 22 = .ok (.getfield 19, 3) := by decide +kernel
theorem dX6_write_25 : decode cX6_write 25 = .ok (.aload_n 0, 1) := by decide +kernel
theorem dX6_write_26 : decode cX6_write 26 = .ok (.getfield 10, 3) := by decide +kernel
theorem dX6_write_29 : decode cX6_write 29 = .ok (.invokevirtual 49, 3) := by decide +kernel
theorem dX6_write_32 : decode cX6_write 32 = .ok (.aload_n 0, 1) := by decide +kernel
theorem dX6_write_33 : decode cX6_write 33 = .ok (.getfield 10, 3) := by decide +kernel
theorem dX6_write_36 : decode cX6_write 36 = .ok (.iload_n 1, 1) := by decide +kernel
theorem dX6_write_37 : decode cX6_write 37 = .ok (.iload_n 2, 1) := by decide +kernel
theorem dX6_write_38 : decode cX6_write 38 = .ok (.invokevirtual 61, 3) := by decide +kernel
theorem dX6_write_41 : decode cX6_write 41 = .ok (.ireturn, 1) := by decide +kernel
set_option maxRecDepth 20000 in
theorem ggX6_flush_X6_isLine : GoodIn wsX6_flush wsX6_isLine := goodIn_r _ [9] (by decide +kernel) (by decide +kernel)
set_option maxRecDepth 20000 in
theorem gX6_flush_X6_isLine : GoodIn wsX6_flush (va_wsS RX6 65 yX6_isLine wsX6_isLine) := goodIn_app (goodIn_of _ (by decide +kernel)) ggX6_flush_X6_isLine
set_option maxRecDepth 20000 in
theorem ggX6_flush_X1_keep : GoodIn wsX6_flush wsX1_keep := goodIn_r _ [14, 15, 16, 17, 18, 19, 13, 20, 21, 8, 22, 23, 24, 25, 26, 27, 28, 29, 30, 31, 32, 33, 34, 35, 36, 37, 38, 39, 40, 41, 42, 43, 44, 45, 46, 47, 48, 49, 50, 51, 52, 53, 54, 55, 56, 57, 58, 59, 60, 61, 62, 63, 64, 65, 113, 114, 96, 97, 98, 99, 100, 101, 102, 103, 104, 105, 106, 107, 108, 109, 110, 111, 112, 115, 116, 117, 118, 119, 120, 121] (by decide +kernel) (by decide +kernel)
set_option maxRecDepth 20000 in
theorem gX6_flush_X1_keep : GoodIn wsX6_flush (wsV RX6 49 RX1 yX1_keep wsX1_keep) := goodIn_app (goodIn_of _ (by decide +kernel)) ggX6_flush_X1_keep
set_option maxRecDepth 20000 in
theorem ggX6_flush_X4_flushLine : GoodIn wsX6_flush wsX4_flushLine := goodIn_r _ [69, 30, 31, 32, 38, 7, 8, 9, 70, 71, 72, 25, 73, 28, 29, 43, 74, 75, 96, 97, 98, 99, 100, 101, 102, 103, 104, 105, 106, 107, 108, 109, 110, 111, 112] (by decide +kernel) (by decide +kernel)
set_option maxRecDepth 20000 in
theorem gX6_flush_X4_flushLine : GoodIn wsX6_flush (wsV RX6 73 RX4 yX4_flushLine wsX4_flushLine) := goodIn_app (goodIn_of _ (by decide +kernel)) ggX6_flush_X4_flushLine
set_option maxRecDepth 20000 in
theorem ggX6_flush_X4_numberOf : GoodIn wsX6_flush wsX4_numberOf := goodIn_r _ [79, 80, 81, 82, 25, 83, 30, 84, 85, 86, 87, 88, 89, 90, 96, 97, 98, 99, 100, 101, 102, 103, 104, 105, 106, 107, 108, 109, 110, 111, 112] (by decide +kernel) (by decide +kernel)
set_option maxRecDepth 20000 in
theorem gX6_flush_X4_numberOf : GoodIn wsX6_flush (wsV RX6 77 RX4 yX4_numberOf wsX4_numberOf) := goodIn_app (goodIn_of _ (by decide +kernel)) ggX6_flush_X4_numberOf
theorem dX6_flush_0 : decode cX6_flush 0 = .ok (.iload_n 1, 1) := by decide +kernel
theorem dX6_flush_1 : decode cX6_flush 1 = .ok (.invokestatic 65, 3) := by decide +kernel
theorem dX6_flush_4 : decode cX6_flush 4 = .ok (.ifCond .ne 6, 3) := by decide +kernel
theorem dX6_flush_7 : decode cX6_flush 7 = .ok (.ldc 48, 2) := by decide +kernel
theorem dX6_flush_9 : decode cX6_flush 9 = .ok (.ireturn, 1) := by decide +kernel
theorem dX6_flush_10 : decode cX6_flush 10 = .ok (.aload_n 0, 1) := by decide +kernel
theorem dX6_flush_11 : decode cX6_flush 11 = .ok (.getfield 10, 3) := by decide +kernel
theorem dX6_flush_14 : decode cX6_flush 14 = .ok (.getfield 68, 3) := by decide +kernel
theorem dX6_flush_17 : decode cX6_flush 17 = .ok (.iload_n 1, 1) := by decide +kernel
theorem dX6_flush_18 : decode cX6_flush 18 = .ok (.iaload, 1) := by decide +kernel
theorem dX6_flush_19 : decode cX6_flush 19 = .ok (.iconst 2, 1) := by decide +kernel
theorem dX6_flush_20 : decode cX6_flush 20 = .ok (.if_icmp .eq 6, 3) := by decide +kernel
theorem dX6_flush_23 : decode cX6_flush 23 = .ok (.ldc 72, 2) := by decide +kernel
theorem dX6_flush_25 : decode cX6_flush 25 = .ok (.ireturn, 1) := by decide +kernel
theorem dX6_flush_26 : decode cX6_flush 26 = .ok (.aload_n 0, 1) := by decide +kernel
theorem dX6_flush_27 : decode cX6_flush 27 = .ok (.getfield 19, 3) := by decide +kernel
theorem dX6_flush_30 : decode cX6_flush 30 = .ok (.aload_n 0, 1) := by decide +kernel
theorem dX6_flush_31 : decode cX6_flush 31 = .ok (.getfield 10, 3) := by decide +kernel
theorem dX6_flush_34 : decode cX6_flush 34 = .ok (.invokevirtual 49, 3) := by decide +kernel
theorem dX6_flush_37 : decode cX6_flush 37 = .ok (.aload_n 0, 1) := by decide +kernel
theorem dX6_flush_38 : decode cX6_flush 38 = .ok (.getfield 10, 3) := by decide +kernel
theorem dX6_flush_41 : decode cX6_flush 41 = .ok (.iload_n 1, 1) := by decide +kernel
theorem dX6_flush_42 : decode cX6_flush 42 = .ok (.invokevirtual 73, 3) := by decide +kernel
theorem dX6_flush_45 : decode cX6_flush 45 = .ok (.aload_n 0, 1) := by decide +kernel
theorem dX6_flush_46 : decode cX6_flush 46 = .ok (.getfield 10, 3) := by decide +kernel
theorem dX6_flush_49 : decode cX6_flush 49 = .ok (.iconst 2, 1) := by decide +kernel
theorem dX6_flush_50 : decode cX6_flush 50 = .ok (.invokevirtual 77, 3) := by decide +kernel
theorem dX6_flush_53 : decode cX6_flush 53 = .ok (.ireturn, 1) := by decide +kernel
set_option maxRecDepth 20000 in
theorem ggX6_tick_X6_isWithin : GoodIn wsX6_tick wsX6_isWithin := goodIn_r _ [7] (by decide +kernel) (by decide +kernel)
set_option maxRecDepth 20000 in
theorem gX6_tick_X6_isWithin : GoodIn wsX6_tick (va_wsS RX6 57 yX6_isWithin wsX6_isWithin) := goodIn_app (goodIn_of _ (by decide +kernel)) ggX6_tick_X6_isWithin
set_option maxRecDepth 20000 in
theorem ggX6_tick_X1_keep : GoodIn wsX6_tick wsX1_keep := goodIn_r _ [12, 13, 14, 15, 16, 17, 11, 18, 5, 6, 7, 19, 20, 21, 22, 23, 24, 25, 26, 27, 28, 29, 30, 31, 32, 33, 34, 35, 36, 37, 38, 39, 40, 41, 42, 43, 44, 45, 46, 47, 48, 49, 50, 51, 52, 53, 54, 55, 56, 57, 58, 59, 60, 61, 139, 140, 141, 142, 143, 144, 145, 146, 147, 148, 149, 150, 151, 152, 153, 154, 155, 156, 157, 158, 159, 160, 161, 162, 163, 164] (by decide +kernel) (by decide +kernel)
set_option maxRecDepth 20000 in
theorem gX6_tick_X1_keep : GoodIn wsX6_tick (wsV RX6 49 RX1 yX1_keep wsX1_keep) := goodIn_app (goodIn_of _ (by decide +kernel)) ggX6_tick_X1_keep
set_option maxRecDepth 20000 in
theorem ggX6_tick_X4_passTicks : GoodIn wsX6_tick wsX4_passTicks := goodIn_r _ [65, 34, 31, 23, 38, 66, 67, 68, 43, 69, 47, 45, 50, 70, 55, 56, 57, 71, 72, 73, 74, 51, 46, 75, 76, 77, 78, 79, 80, 81, 82, 83, 84, 85, 86, 87, 88, 21, 89, 90, 91, 92, 93, 94, 95, 96, 97, 98, 26, 99, 100, 101, 102, 103, 104, 105, 106, 107, 108, 109, 110, 111, 112, 113, 49, 48, 114, 115, 116, 117, 118, 119, 120, 121, 29, 122, 123, 124, 125, 27, 28, 126, 6, 127, 128, 129, 130, 131, 24, 25, 39, 132, 133, 141, 142, 143, 144, 145, 146, 147, 148, 149, 150, 151, 152, 153, 154, 155, 156, 157, 158, 159, 160, 161, 162, 163, 164] (by decide +kernel) (by decide +kernel)
set_option maxRecDepth 20000 in
theorem gX6_tick_X4_passTicks : GoodIn wsX6_tick (wsV RX6 80 RX4 yX4_passTicks wsX4_passTicks) := goodIn_app (goodIn_of _ (by decide +kernel)) ggX6_tick_X4_passTicks
theorem dX6_tick_0 : decode cX6_tick 0 = .ok (.iload_n 1, 1) := by decide +kernel
theorem dX6_tick_1 : decode cX6_tick 1 = .ok (.iconst 1, 1) := by decide +kernel
theorem dX6_tick_2 : decode cX6_tick 2 = .ok (.bipush 99, 2) := by decide +kernel
theorem dX6_tick_4 : decode cX6_tick 4 = .ok (.invokestatic 57, 3) := by decide +kernel
theorem dX6_tick_7 : decode cX6_tick 7 = .ok (.ifCond .ne 6, 3) := by decide +kernel
theorem dX6_tick_10 : decode cX6_tick 10 = .ok (.ldc 48, 2) := by decide +kernel
theorem dX6_tick_12 : decode cX6_tick 12 = .ok (.ireturn, 1) := by decide +kernel
theorem dX6_tick_13 : decode cX6_tick 13 = .ok (.aload_n 0, 1) := by decide +kernel
theorem dX6_tick_14 : decode cX6_tick 14 = .ok (.getfield 19, 3) := by decide +kernel
theorem dX6_tick_17 : decode cX6_tick 17 = .ok (.aload_n 0, 1) := by decide +kernel
theorem dX6_tick_18 : decode cX6_tick 18 = .ok (.getfield 10, 3) := by decide +kernel
theorem dX6_tick_21 : decode cX6_tick 21 = .ok (.invokevirtual 49, 3) := by decide +kernel
theorem dX6_tick_24 : decode cX6_tick 24 = .ok (.aload_n 0, 1) := by decide +kernel
theorem dX6_tick_25 : decode cX6_tick 25 = .ok (.getfield 10, 3) := by decide +kernel
theorem dX6_tick_28 : decode cX6_tick 28 = .ok (.iload_n 1, 1) := by decide +kernel
theorem dX6_tick_29 : decode cX6_tick 29 = .ok (.invokevirtual 80, 3) := by decide +kernel
theorem dX6_tick_32 : decode cX6_tick 32 = .ok (.ireturn, 1) := by decide +kernel
set_option maxRecDepth 20000 in
theorem ggX6_load_X6_isWithin : GoodIn wsX6_load wsX6_isWithin := goodIn_r _ [7] (by decide +kernel) (by decide +kernel)
set_option maxRecDepth 20000 in
theorem gX6_load_X6_isWithin : GoodIn wsX6_load (va_wsS RX6 57 yX6_isWithin wsX6_isWithin) := goodIn_app (goodIn_of _ (by decide +kernel)) ggX6_load_X6_isWithin
set_option maxRecDepth 20000 in
theorem ggX6_load_X1_keep : GoodIn wsX6_load wsX1_keep := goodIn_r _ [12, 13, 14, 15, 16, 17, 11, 18, 5, 6, 7, 19, 20, 21, 22, 23, 24, 25, 26, 27, 28, 29, 30, 31, 32, 33, 34, 35, 36, 37, 38, 39, 40, 41, 42, 43, 44, 45, 46, 47, 48, 49, 50, 51, 52, 53, 54, 55, 56, 57, 58, 59, 60, 61, 127, 128, 129, 130, 131, 132, 133, 134, 135, 136, 137, 138, 139, 140, 141, 142, 143, 144, 145, 146, 147, 148, 149, 150, 151, 152] (by decide +kernel) (by decide +kernel)
set_option maxRecDepth 20000 in
theorem gX6_load_X1_keep : GoodIn wsX6_load (wsV RX6 49 RX1 yX1_keep wsX1_keep) := goodIn_app (goodIn_of _ (by decide +kernel)) ggX6_load_X1_keep
set_option maxRecDepth 20000 in
theorem ggX6_load_X4_putLoad : GoodIn wsX6_load wsX4_putLoad := goodIn_r _ [65, 23, 66, 67, 68, 43, 69, 45, 70, 71, 56, 72, 73, 74, 75, 21, 76, 77, 78, 79, 80, 81, 82, 83, 84, 85, 26, 86, 87, 88, 89, 90, 91, 92, 93, 94, 95, 96, 47, 97, 98, 99, 100, 49, 48, 101, 55, 57, 102, 103, 104, 105, 106, 107, 108, 109, 29, 110, 111, 112, 113, 27, 28, 34, 114, 6, 115, 116, 117, 118, 119, 24, 25, 39, 120, 121, 129, 130, 131, 132, 133, 134, 135, 136, 137, 138, 139, 140, 141, 142, 143, 144, 145, 146, 147, 148, 149, 150, 151, 152] (by decide +kernel) (by decide +kernel)
set_option maxRecDepth 20000 in
theorem gX6_load_X4_putLoad : GoodIn wsX6_load (wsV RX6 83 RX4 yX4_putLoad wsX4_putLoad) := goodIn_app (goodIn_of _ (by decide +kernel)) ggX6_load_X4_putLoad
theorem dX6_load_0 : decode cX6_load 0 = .ok (.iload_n 1, 1) := by decide +kernel
theorem dX6_load_1 : decode cX6_load 1 = .ok (.iconst 1, 1) := by decide +kernel
theorem dX6_load_2 : decode cX6_load 2 = .ok (.sipush 999, 3) := by decide +kernel
theorem dX6_load_5 : decode cX6_load 5 = .ok (.invokestatic 57, 3) := by decide +kernel
theorem dX6_load_8 : decode cX6_load 8 = .ok (.ifCond .ne 6, 3) := by decide +kernel
theorem dX6_load_11 : decode cX6_load 11 = .ok (.ldc 48, 2) := by decide +kernel
theorem dX6_load_13 : decode cX6_load 13 = .ok (.ireturn, 1) := by decide +kernel
theorem dX6_load_14 : decode cX6_load 14 = .ok (.aload_n 0, 1) := by decide +kernel
theorem dX6_load_15 : decode cX6_load 15 = .ok (.getfield 19, 3) := by decide +kernel
theorem dX6_load_18 : decode cX6_load 18 = .ok (.aload_n 0, 1) := by decide +kernel
theorem dX6_load_19 : decode cX6_load 19 = .ok (.getfield 10, 3) := by decide +kernel
theorem dX6_load_22 : decode cX6_load 22 = .ok (.invokevirtual 49, 3) := by decide +kernel
theorem dX6_load_25 : decode cX6_load 25 = .ok (.aload_n 0, 1) := by decide +kernel
theorem dX6_load_26 : decode cX6_load 26 = .ok (.getfield 10, 3) := by decide +kernel
theorem dX6_load_29 : decode cX6_load 29 = .ok (.iload_n 1, 1) := by decide +kernel
theorem dX6_load_30 : decode cX6_load 30 = .ok (.invokevirtual 83, 3) := by decide +kernel
theorem dX6_load_33 : decode cX6_load 33 = .ok (.ireturn, 1) := by decide +kernel
set_option maxRecDepth 20000 in
theorem ggX6_learn_X1_keep : GoodIn wsX6_learn wsX1_keep := goodIn_r _ [10, 11, 12, 13, 14, 15, 9, 16, 17, 18, 19, 20, 21, 22, 23, 24, 25, 26, 27, 28, 29, 30, 31, 32, 33, 34, 35, 36, 37, 38, 39, 40, 41, 42, 43, 44, 45, 46, 47, 48, 49, 50, 51, 52, 53, 54, 55, 56, 57, 58, 59, 60, 61, 62, 148, 149, 124, 125, 126, 127, 128, 129, 130, 131, 132, 133, 134, 135, 136, 137, 138, 139, 140, 141, 142, 143, 144, 145, 146, 147] (by decide +kernel) (by decide +kernel)
set_option maxRecDepth 20000 in
theorem gX6_learn_X1_keep : GoodIn wsX6_learn (wsV RX6 49 RX1 yX1_keep wsX1_keep) := goodIn_app (goodIn_of _ (by decide +kernel)) ggX6_learn_X1_keep
set_option maxRecDepth 20000 in
theorem ggX6_learn_X4_beginCycle : GoodIn wsX6_learn wsX4_beginCycle := goodIn_r _ [66, 24, 67, 68, 69, 70, 22, 71, 72, 73, 57, 74, 75, 76, 77, 78, 79, 80, 81, 82, 27, 83, 84, 85, 86, 87, 88, 89, 90, 91, 92, 44, 93, 48, 94, 95, 96, 97, 46, 50, 49, 98, 56, 58, 99, 100, 101, 102, 103, 104, 105, 106, 30, 107, 108, 109, 110, 28, 29, 35, 111, 18, 112, 113, 114, 115, 116, 25, 26, 40, 117, 118, 124, 125, 126, 127, 128, 129, 130, 131, 132, 133, 134, 135, 136, 137, 138, 139, 140, 141, 142, 143, 144, 145, 146, 147] (by decide +kernel) (by decide +kernel)
set_option maxRecDepth 20000 in
theorem gX6_learn_X4_beginCycle : GoodIn wsX6_learn (wsV RX6 93 RX4 yX4_beginCycle wsX4_beginCycle) := goodIn_app (goodIn_of _ (by decide +kernel)) ggX6_learn_X4_beginCycle
theorem dX6_learn_0 : decode cX6_learn 0 = .ok (.aload_n 0, 1) := by decide +kernel
theorem dX6_learn_1 : decode cX6_learn 1 = .ok (.getfield 10, 3) := by decide +kernel
theorem dX6_learn_4 : decode cX6_learn 4 = .ok (.getfield 86, 3) := by decide +kernel
theorem dX6_learn_7 : decode cX6_learn 7 = .ok (.getfield 89, 3) := by decide +kernel
theorem dX6_learn_10 : decode cX6_learn 10 = .ok (.ifCond .eq 6, 3) := by decide +kernel
theorem dX6_learn_13 : decode cX6_learn 13 = .ok (.ldc 72, 2) := by decide +kernel
theorem dX6_learn_15 : decode cX6_learn 15 = .ok (.ireturn, 1) := by decide +kernel
theorem dX6_learn_16 : decode cX6_learn 16 = .ok (.aload_n 0, 1) := by decide +kernel
theorem dX6_learn_17 : decode cX6_learn 17 = .ok (.getfield 19, 3) := by decide +kernel
theorem dX6_learn_20 : decode cX6_learn 20 = .ok (.aload_n 0, 1) := by decide +kernel
theorem dX6_learn_21 : decode cX6_learn 21 = .ok (.getfield 10, 3) := by decide +kernel
theorem dX6_learn_24 : decode cX6_learn 24 = .ok (.invokevirtual 49, 3) := by decide +kernel
theorem dX6_learn_27 : decode cX6_learn 27 = .ok (.aload_n 0, 1) := by decide +kernel
theorem dX6_learn_28 : decode cX6_learn 28 = .ok (.getfield 10, 3) := by decide +kernel
theorem dX6_learn_31 : decode cX6_learn 31 = .ok (.invokevirtual 93, 3) := by decide +kernel
theorem dX6_learn_34 : decode cX6_learn 34 = .ok (.ireturn, 1) := by decide +kernel
set_option maxRecDepth 20000 in
theorem ggX6_cut_X1_keep : GoodIn wsX6_cut wsX1_keep := goodIn_r _ [7, 8, 9, 10, 11, 12, 6, 13, 14, 15, 16, 17, 18, 19, 20, 21, 22, 23, 24, 25, 26, 27, 28, 29, 30, 31, 32, 33, 34, 35, 36, 37, 38, 39, 40, 41, 42, 43, 44, 45, 46, 47, 48, 49, 50, 51, 52, 53, 54, 55, 56, 57, 58, 59, 129, 130, 131, 132, 133, 134, 135, 136, 137, 138, 139, 140, 141, 142, 143, 144, 145, 146, 147, 148, 149, 150, 151, 152, 153, 154] (by decide +kernel) (by decide +kernel)
set_option maxRecDepth 20000 in
theorem gX6_cut_X1_keep : GoodIn wsX6_cut (wsV RX6 49 RX1 yX1_keep wsX1_keep) := goodIn_app (goodIn_of _ (by decide +kernel)) ggX6_cut_X1_keep
set_option maxRecDepth 20000 in
theorem ggX6_cut_X4_cutPower : GoodIn wsX6_cut wsX4_cutPower := goodIn_r _ [63, 21, 24, 34, 35, 64, 65, 66, 19, 67, 68, 53, 54, 55, 69, 70, 71, 72, 73, 74, 75, 76, 77, 78, 79, 80, 81, 82, 83, 84, 85, 86, 41, 87, 43, 47, 46, 88, 89, 90, 91, 92, 93, 94, 95, 96, 27, 97, 98, 99, 100, 25, 26, 32, 101, 15, 102, 103, 104, 105, 106, 22, 23, 37, 107, 108, 109, 110, 111, 112, 45, 113, 114, 115, 116, 117, 118, 119, 120, 121, 122, 123, 131, 132, 133, 134, 135, 136, 137, 138, 139, 140, 141, 142, 143, 144, 145, 146, 147, 148, 149, 150, 151, 152, 153, 154] (by decide +kernel) (by decide +kernel)
set_option maxRecDepth 20000 in
theorem gX6_cut_X4_cutPower : GoodIn wsX6_cut (wsV RX6 97 RX4 yX4_cutPower wsX4_cutPower) := goodIn_app (goodIn_of _ (by decide +kernel)) ggX6_cut_X4_cutPower
theorem dX6_cut_0 : decode cX6_cut 0 = .ok (.aload_n 0, 1) := by decide +kernel
theorem dX6_cut_1 : decode cX6_cut 1 = .ok (.getfield 19, 3) := by decide +kernel
theorem dX6_cut_4 : decode cX6_cut 4 = .ok (.aload_n 0, 1) := by decide +kernel
theorem dX6_cut_5 : decode cX6_cut 5 = .ok (.getfield 10, 3) := by decide +kernel
theorem dX6_cut_8 : decode cX6_cut 8 = .ok (.invokevirtual 49, 3) := by decide +kernel
theorem dX6_cut_11 : decode cX6_cut 11 = .ok (.aload_n 0, 1) := by decide +kernel
theorem dX6_cut_12 : decode cX6_cut 12 = .ok (.getfield 10, 3) := by decide +kernel
theorem dX6_cut_15 : decode cX6_cut 15 = .ok (.invokevirtual 97, 3) := by decide +kernel
theorem dX6_cut_18 : decode cX6_cut 18 = .ok (.ireturn, 1) := by decide +kernel
set_option maxRecDepth 20000 in
theorem ggX6_set_X6_isSetting : GoodIn wsX6_set wsX6_isSetting := goodIn_r _ [10] (by decide +kernel) (by decide +kernel)
set_option maxRecDepth 20000 in
theorem gX6_set_X6_isSetting : GoodIn wsX6_set (va_wsS RX6 100 yX6_isSetting wsX6_isSetting) := goodIn_app (goodIn_of _ (by decide +kernel)) ggX6_set_X6_isSetting
set_option maxRecDepth 20000 in
theorem ggX6_set_X6_isWithin : GoodIn wsX6_set wsX6_isWithin := goodIn_r _ [13] (by decide +kernel) (by decide +kernel)
set_option maxRecDepth 20000 in
theorem gX6_set_X6_isWithin : GoodIn wsX6_set (va_wsS RX6 57 yX6_isWithin wsX6_isWithin) := goodIn_app (goodIn_of _ (by decide +kernel)) ggX6_set_X6_isWithin
set_option maxRecDepth 20000 in
theorem ggX6_set_X1_keep : GoodIn wsX6_set wsX1_keep := goodIn_r _ [18, 19, 20, 21, 22, 23, 17, 24, 12, 9, 13, 25, 26, 27, 28, 29, 30, 31, 32, 33, 34, 35, 36, 37, 38, 39, 40, 41, 42, 43, 44, 45, 46, 47, 48, 49, 50, 51, 52, 53, 54, 55, 56, 57, 58, 59, 60, 61, 62, 63, 64, 65, 66, 67, 98, 99, 81, 82, 83, 84, 85, 86, 87, 88, 89, 90, 91, 92, 93, 94, 95, 96, 97, 100, 101, 102, 103, 104, 105, 106] (by decide +kernel) (by decide +kernel)
set_option maxRecDepth 20000 in
theorem gX6_set_X1_keep : GoodIn wsX6_set (wsV RX6 49 RX1 yX1_keep wsX1_keep) := goodIn_app (goodIn_of _ (by decide +kernel)) ggX6_set_X1_keep
set_option maxRecDepth 20000 in
theorem ggX6_set_X0_setting : GoodIn wsX6_set wsX0_setting := goodIn_r _ [71, 54, 55, 56, 57, 100, 101, 102, 103, 104, 105, 106] (by decide +kernel) (by decide +kernel)
set_option maxRecDepth 20000 in
theorem gX6_set_X0_setting : GoodIn wsX6_set (wsV RX6 109 RX0 yX0_setting wsX0_setting) := goodIn_app (goodIn_of _ (by decide +kernel)) ggX6_set_X0_setting
set_option maxRecDepth 20000 in
theorem ggX6_set_X0_changeSetting : GoodIn wsX6_set wsX0_changeSetting := goodIn_r _ [75, 54, 55, 56, 57, 100, 101, 102, 103, 104, 105, 106] (by decide +kernel) (by decide +kernel)
set_option maxRecDepth 20000 in
theorem gX6_set_X0_changeSetting : GoodIn wsX6_set (wsV RX6 112 RX0 yX0_changeSetting wsX0_changeSetting) := goodIn_app (goodIn_of _ (by decide +kernel)) ggX6_set_X0_changeSetting
theorem dX6_set_0 : decode cX6_set 0 = .ok (.iload_n 1, 1) := by decide +kernel
theorem dX6_set_1 : decode cX6_set 1 = .ok (.invokestatic 100, 3) := by decide +kernel
theorem dX6_set_4 : decode cX6_set 4 = .ok (.ifCond .eq 20, 3) := by decide +kernel
theorem dX6_set_7 : decode cX6_set 7 = .ok (.iload_n 2, 1) := by decide +kernel
theorem dX6_set_8 : decode cX6_set 8 = .ok (.getstatic 103, 3) := by decide +kernel
theorem dX6_set_11 : decode cX6_set 11 = .ok (.iload_n 1, 1) := by decide +kernel
theorem dX6_set_12 : decode cX6_set 12 = .ok (.iaload, 1) := by decide +kernel
theorem dX6_set_13 : decode cX6_set 13 = .ok (.getstatic 106, 3) := by decide +kernel
theorem dX6_set_16 : decode cX6_set 16 = .ok (.iload_n 1, 1) := by decide +kernel
theorem dX6_set_17 : decode cX6_set 17 = .ok (.iaload, 1) := by decide +kernel
theorem dX6_set_18 : decode cX6_set 18 = .ok (.invokestatic 57, 3) := by decide +kernel
theorem dX6_set_21 : decode cX6_set 21 = .ok (.ifCond .ne 6, 3) := by decide +kernel
theorem dX6_set_24 : decode cX6_set 24 = .ok (.ldc 48, 2) := by decide +kernel
theorem dX6_set_26 : decode cX6_set 26 = .ok (.ireturn, 1) := by decide +kernel
theorem dX6_set_27 : decode cX6_set 27 = .ok (.aload_n 0, 1) := by decide +kernel
theorem dX6_set_28 : decode cX6_set 28 = .ok (.getfield 19, 3) := by decide +kernel
theorem dX6_set_31 : decode cX6_set 31 = .ok (.aload_n 0, 1) := by decide +kernel
theorem dX6_set_32 : decode cX6_set 32 = .ok (.getfield 10, 3) := by decide +kernel
theorem dX6_set_35 : decode cX6_set 35 = .ok (.invokevirtual 49, 3) := by decide +kernel
theorem dX6_set_38 : decode cX6_set 38 = .ok (.aload_n 0, 1) := by decide +kernel
theorem dX6_set_39 : decode cX6_set 39 = .ok (.getfield 10, 3) := by decide +kernel
theorem dX6_set_42 : decode cX6_set 42 = .ok (.getfield 86, 3) := by decide +kernel
theorem dX6_set_45 : decode cX6_set 45 = .ok (.iload_n 1, 1) := by decide +kernel
theorem dX6_set_46 : decode cX6_set 46 = .ok (.invokevirtual 109, 3) := by decide +kernel
theorem dX6_set_49 : decode cX6_set 49 = .ok (.istore_n 3, 1) := by decide +kernel
theorem dX6_set_50 : decode cX6_set 50 = .ok (.aload_n 0, 1) := by decide +kernel
theorem dX6_set_51 : decode cX6_set 51 = .ok (.getfield 10, 3) := by decide +kernel
theorem dX6_set_54 : decode cX6_set 54 = .ok (.getfield 86, 3) := by decide +kernel
theorem dX6_set_57 : decode cX6_set 57 = .ok (.iload_n 1, 1) := by decide +kernel
theorem dX6_set_58 : decode cX6_set 58 = .ok (.iload_n 2, 1) := by decide +kernel
theorem dX6_set_59 : decode cX6_set 59 = .ok (.invokevirtual 112, 3) := by decide +kernel
theorem dX6_set_62 : decode cX6_set 62 = .ok (.iload_n 3, 1) := by decide +kernel
theorem dX6_set_63 : decode cX6_set 63 = .ok (.ireturn, 1) := by decide +kernel
set_option maxRecDepth 20000 in
theorem ggX6_lineOf_X6_isLine : GoodIn wsX6_lineOf wsX6_isLine := goodIn_r _ [11] (by decide +kernel) (by decide +kernel)
set_option maxRecDepth 20000 in
theorem gX6_lineOf_X6_isLine : GoodIn wsX6_lineOf (va_wsS RX6 65 yX6_isLine wsX6_isLine) := goodIn_app (goodIn_of _ (by decide +kernel)) ggX6_lineOf_X6_isLine
set_option maxRecDepth 20000 in
theorem ggX6_lineOf_X6_isWithin : GoodIn wsX6_lineOf wsX6_isWithin := goodIn_r _ [14] (by decide +kernel) (by decide +kernel)
set_option maxRecDepth 20000 in
theorem gX6_lineOf_X6_isWithin : GoodIn wsX6_lineOf (va_wsS RX6 57 yX6_isWithin wsX6_isWithin) := goodIn_app (goodIn_of _ (by decide +kernel)) ggX6_lineOf_X6_isWithin
set_option maxRecDepth 20000 in
theorem ggX6_lineOf_X4_linesAhead : GoodIn wsX6_lineOf wsX4_linesAhead := goodIn_r _ [19, 20, 21, 9, 10, 11, 27, 28, 29, 30, 31, 32, 33, 34, 35, 36, 37, 38, 39, 40, 41, 42, 43] (by decide +kernel) (by decide +kernel)
set_option maxRecDepth 20000 in
theorem gX6_lineOf_X4_linesAhead : GoodIn wsX6_lineOf (wsV RX6 126 RX4 yX4_linesAhead wsX4_linesAhead) := goodIn_app (goodIn_of _ (by decide +kernel)) ggX6_lineOf_X4_linesAhead
theorem dX6_lineOf_0 : decode cX6_lineOf 0 = .ok (.iload_n 1, 1) := by decide +kernel
theorem dX6_lineOf_1 : decode cX6_lineOf 1 = .ok (.invokestatic 65, 3) := by decide +kernel
theorem dX6_lineOf_4 : decode cX6_lineOf 4 = .ok (.ifCond .eq 12, 3) := by decide +kernel
theorem dX6_lineOf_7 : decode cX6_lineOf 7 = .ok (.iload_n 2, 1) := by decide +kernel
theorem dX6_lineOf_8 : decode cX6_lineOf 8 = .ok (.iconst 0, 1) := by decide +kernel
theorem dX6_lineOf_9 : decode cX6_lineOf 9 = .ok (.iconst 4, 1) := by decide +kernel
theorem dX6_lineOf_10 : decode cX6_lineOf 10 = .ok (.invokestatic 57, 3) := by decide +kernel
theorem dX6_lineOf_13 : decode cX6_lineOf 13 = .ok (.ifCond .ne 6, 3) := by decide +kernel
theorem dX6_lineOf_16 : decode cX6_lineOf 16 = .ok (.ldc 48, 2) := by decide +kernel
theorem dX6_lineOf_18 : decode cX6_lineOf 18 = .ok (.ireturn, 1) := by decide +kernel
theorem dX6_lineOf_19 : decode cX6_lineOf 19 = .ok (.iload_n 2, 1) := by decide +kernel
theorem dX6_lineOf_20 : decode cX6_lineOf 20 = .ok (.ifCond .ne 13, 3) := by decide +kernel
theorem dX6_lineOf_23 : decode cX6_lineOf 23 = .ok (.aload_n 0, 1) := by decide +kernel
theorem dX6_lineOf_24 : decode cX6_lineOf 24 = .ok (.getfield 10, 3) := by decide +kernel
theorem dX6_lineOf_27 : decode cX6_lineOf 27 = .ok (.getfield 68, 3) := by decide +kernel
theorem dX6_lineOf_30 : decode cX6_lineOf 30 = .ok (.iload_n 1, 1) := by decide +kernel
theorem dX6_lineOf_31 : decode cX6_lineOf 31 = .ok (.iaload, 1) := by decide +kernel
theorem dX6_lineOf_32 : decode cX6_lineOf 32 = .ok (.ireturn, 1) := by decide +kernel
theorem dX6_lineOf_33 : decode cX6_lineOf 33 = .ok (.aload_n 0, 1) := by decide +kernel
theorem dX6_lineOf_34 : decode cX6_lineOf 34 = .ok (.getfield 10, 3) := by decide +kernel
theorem dX6_lineOf_37 : decode cX6_lineOf 37 = .ok (.getfield 68, 3) := by decide +kernel
theorem dX6_lineOf_40 : decode cX6_lineOf 40 = .ok (.iload_n 1, 1) := by decide +kernel
theorem dX6_lineOf_41 : decode cX6_lineOf 41 = .ok (.iaload, 1) := by decide +kernel
theorem dX6_lineOf_42 : decode cX6_lineOf 42 = .ok (.ifCond .ne 6, 3) := by decide +kernel
theorem dX6_lineOf_45 : decode cX6_lineOf 45 = .ok (.ldc 116, 2) := by decide +kernel
theorem dX6_lineOf_47 : decode cX6_lineOf 47 = .ok (.ireturn, 1) := by decide +kernel
theorem dX6_lineOf_48 : decode cX6_lineOf 48 = .ok (.iload_n 2, 1) := by decide +kernel
theorem dX6_lineOf_49 : decode cX6_lineOf 49 = .ok (.tableswitch 57 1 3 #[27, 37, 47], 27) := by decide +kernel
theorem dX6_lineOf_76 : decode cX6_lineOf 76 = .ok (.aload_n 0, 1) := by decide +kernel
theorem dX6_lineOf_77 : decode cX6_lineOf 77 = .ok (.getfield 10, 3) := by decide +kernel
theorem dX6_lineOf_80 : decode cX6_lineOf 80 = .ok (.getfield 117, 3) := by decide +kernel
theorem dX6_lineOf_83 : decode cX6_lineOf 83 = .ok (.iload_n 1, 1) := by decide +kernel
theorem dX6_lineOf_84 : decode cX6_lineOf 84 = .ok (.iaload, 1) := by decide +kernel
theorem dX6_lineOf_85 : decode cX6_lineOf 85 = .ok (.ireturn, 1) := by decide +kernel
theorem dX6_lineOf_86 : decode cX6_lineOf 86 = .ok (.aload_n 0, 1) := by decide +kernel
theorem dX6_lineOf_87 : decode cX6_lineOf 87 = .ok (.getfield 10, 3) := by decide +kernel
theorem dX6_lineOf_90 : decode cX6_lineOf 90 = .ok (.getfield 120, 3) := by decide +kernel
theorem dX6_lineOf_93 : decode cX6_lineOf 93 = .ok (.iload_n 1, 1) := by decide +kernel
theorem dX6_lineOf_94 : decode cX6_lineOf 94 = .ok (.iaload, 1) := by decide +kernel
theorem dX6_lineOf_95 : decode cX6_lineOf 95 = .ok (.ireturn, 1) := by decide +kernel
theorem dX6_lineOf_96 : decode cX6_lineOf 96 = .ok (.aload_n 0, 1) := by decide +kernel
theorem dX6_lineOf_97 : decode cX6_lineOf 97 = .ok (.getfield 10, 3) := by decide +kernel
theorem dX6_lineOf_100 : decode cX6_lineOf 100 = .ok (.getfield 123, 3) := by decide +kernel
theorem dX6_lineOf_103 : decode cX6_lineOf 103 = .ok (.iload_n 1, 1) := by decide +kernel
theorem dX6_lineOf_104 : decode cX6_lineOf 104 = .ok (.iaload, 1) := by decide +kernel
theorem dX6_lineOf_105 : decode cX6_lineOf 105 = .ok (.ireturn, 1) := by decide +kernel
theorem dX6_lineOf_106 : decode cX6_lineOf 106 = .ok (.aload_n 0, 1) := by decide +kernel
theorem dX6_lineOf_107 : decode cX6_lineOf 107 = .ok (.getfield 10, 3) := by decide +kernel
theorem dX6_lineOf_110 : decode cX6_lineOf 110 = .ok (.iload_n 1, 1) := by decide +kernel
theorem dX6_lineOf_111 : decode cX6_lineOf 111 = .ok (.iconst 1, 1) := by decide +kernel
theorem dX6_lineOf_112 : decode cX6_lineOf 112 = .ok (.invokevirtual 126, 3) := by decide +kernel
theorem dX6_lineOf_115 : decode cX6_lineOf 115 = .ok (.ireturn, 1) := by decide +kernel
set_option maxRecDepth 20000 in
theorem ggX6_placeOf_X6_isPlace : GoodIn wsX6_placeOf wsX6_isPlace := goodIn_r _ [10] (by decide +kernel) (by decide +kernel)
set_option maxRecDepth 20000 in
theorem gX6_placeOf_X6_isPlace : GoodIn wsX6_placeOf (va_wsS RX6 44 yX6_isPlace wsX6_isPlace) := goodIn_app (goodIn_of _ (by decide +kernel)) ggX6_placeOf_X6_isPlace
set_option maxRecDepth 20000 in
theorem ggX6_placeOf_X6_isWithin : GoodIn wsX6_placeOf wsX6_isWithin := goodIn_r _ [13] (by decide +kernel) (by decide +kernel)
set_option maxRecDepth 20000 in
theorem gX6_placeOf_X6_isWithin : GoodIn wsX6_placeOf (va_wsS RX6 57 yX6_isWithin wsX6_isWithin) := goodIn_app (goodIn_of _ (by decide +kernel)) ggX6_placeOf_X6_isWithin
set_option maxRecDepth 20000 in
theorem ggX6_placeOf_X4_holderOf : GoodIn wsX6_placeOf wsX4_holderOf := goodIn_r _ [18, 19, 20, 29, 30, 31, 32, 33, 34, 35, 36, 37, 38, 39, 40, 41, 42, 43, 44, 45] (by decide +kernel) (by decide +kernel)
set_option maxRecDepth 20000 in
theorem gX6_placeOf_X4_holderOf : GoodIn wsX6_placeOf (wsV RX6 129 RX4 yX4_holderOf wsX4_holderOf) := goodIn_app (goodIn_of _ (by decide +kernel)) ggX6_placeOf_X4_holderOf
set_option maxRecDepth 20000 in
theorem ggX6_placeOf_X6_isLine : GoodIn wsX6_placeOf wsX6_isLine := goodIn_r _ [23] (by decide +kernel) (by decide +kernel)
set_option maxRecDepth 20000 in
theorem gX6_placeOf_X6_isLine : GoodIn wsX6_placeOf (va_wsS RX6 65 yX6_isLine wsX6_isLine) := goodIn_app (goodIn_of _ (by decide +kernel)) ggX6_placeOf_X6_isLine
theorem dX6_placeOf_0 : decode cX6_placeOf 0 = .ok (.iload_n 1, 1) := by decide +kernel
theorem dX6_placeOf_1 : decode cX6_placeOf 1 = .ok (.invokestatic 44, 3) := by decide +kernel
theorem dX6_placeOf_4 : decode cX6_placeOf 4 = .ok (.ifCond .eq 12, 3) := by decide +kernel
theorem dX6_placeOf_7 : decode cX6_placeOf 7 = .ok (.iload_n 2, 1) := by decide +kernel
theorem dX6_placeOf_8 : decode cX6_placeOf 8 = .ok (.iconst 0, 1) := by decide +kernel
theorem dX6_placeOf_9 : decode cX6_placeOf 9 = .ok (.iconst 3, 1) := by decide +kernel
theorem dX6_placeOf_10 : decode cX6_placeOf 10 = .ok (.invokestatic 57, 3) := by decide +kernel
theorem dX6_placeOf_13 : decode cX6_placeOf 13 = .ok (.ifCond .ne 6, 3) := by decide +kernel
theorem dX6_placeOf_16 : decode cX6_placeOf 16 = .ok (.ldc 48, 2) := by decide +kernel
theorem dX6_placeOf_18 : decode cX6_placeOf 18 = .ok (.ireturn, 1) := by decide +kernel
theorem dX6_placeOf_19 : decode cX6_placeOf 19 = .ok (.aload_n 0, 1) := by decide +kernel
theorem dX6_placeOf_20 : decode cX6_placeOf 20 = .ok (.getfield 10, 3) := by decide +kernel
theorem dX6_placeOf_23 : decode cX6_placeOf 23 = .ok (.iload_n 1, 1) := by decide +kernel
theorem dX6_placeOf_24 : decode cX6_placeOf 24 = .ok (.invokevirtual 129, 3) := by decide +kernel
theorem dX6_placeOf_27 : decode cX6_placeOf 27 = .ok (.istore_n 3, 1) := by decide +kernel
theorem dX6_placeOf_28 : decode cX6_placeOf 28 = .ok (.iload_n 2, 1) := by decide +kernel
theorem dX6_placeOf_29 : decode cX6_placeOf 29 = .ok (.tableswitch 80 0 2 #[27, 37, 66], 27) := by decide +kernel
theorem dX6_placeOf_56 : decode cX6_placeOf 56 = .ok (.aload_n 0, 1) := by decide +kernel
theorem dX6_placeOf_57 : decode cX6_placeOf 57 = .ok (.getfield 10, 3) := by decide +kernel
theorem dX6_placeOf_60 : decode cX6_placeOf 60 = .ok (.getfield 132, 3) := by decide +kernel
theorem dX6_placeOf_63 : decode cX6_placeOf 63 = .ok (.iload_n 1, 1) := by decide +kernel
theorem dX6_placeOf_64 : decode cX6_placeOf 64 = .ok (.iaload, 1) := by decide +kernel
theorem dX6_placeOf_65 : decode cX6_placeOf 65 = .ok (.ireturn, 1) := by decide +kernel
theorem dX6_placeOf_66 : decode cX6_placeOf 66 = .ok (.iload_n 3, 1) := by decide +kernel
theorem dX6_placeOf_67 : decode cX6_placeOf 67 = .ok (.invokestatic 65, 3) := by decide +kernel
theorem dX6_placeOf_70 : decode cX6_placeOf 70 = .ok (.ifCond .eq 15, 3) := by decide +kernel
theorem dX6_placeOf_73 : decode cX6_placeOf 73 = .ok (.aload_n 0, 1) := by decide +kernel
theorem dX6_placeOf_74 : decode cX6_placeOf 74 = .ok (.getfield 10, 3) := by decide +kernel
theorem dX6_placeOf_77 : decode cX6_placeOf 77 = .ok (.getfield 120, 3) := by decide +kernel
theorem dX6_placeOf_80 : decode cX6_placeOf 80 = .ok (.iload_n 3, 1) := by decide +kernel
theorem dX6_placeOf_81 : decode cX6_placeOf 81 = .ok (.iaload, 1) := by decide +kernel
theorem dX6_placeOf_82 : decode cX6_placeOf 82 = .ok (.goto 12, 3) := by decide +kernel
theorem dX6_placeOf_85 : decode cX6_placeOf 85 = .ok (.aload_n 0, 1) := by decide +kernel
theorem dX6_placeOf_86 : decode cX6_placeOf 86 = .ok (.getfield 10, 3) := by decide +kernel
theorem dX6_placeOf_89 : decode cX6_placeOf 89 = .ok (.getfield 132, 3) := by decide +kernel
theorem dX6_placeOf_92 : decode cX6_placeOf 92 = .ok (.iload_n 1, 1) := by decide +kernel
theorem dX6_placeOf_93 : decode cX6_placeOf 93 = .ok (.iaload, 1) := by decide +kernel
theorem dX6_placeOf_94 : decode cX6_placeOf 94 = .ok (.ireturn, 1) := by decide +kernel
theorem dX6_placeOf_95 : decode cX6_placeOf 95 = .ok (.iload_n 3, 1) := by decide +kernel
theorem dX6_placeOf_96 : decode cX6_placeOf 96 = .ok (.invokestatic 65, 3) := by decide +kernel
theorem dX6_placeOf_99 : decode cX6_placeOf 99 = .ok (.ifCond .eq 7, 3) := by decide +kernel
theorem dX6_placeOf_102 : decode cX6_placeOf 102 = .ok (.iload_n 3, 1) := by decide +kernel
theorem dX6_placeOf_103 : decode cX6_placeOf 103 = .ok (.goto 5, 3) := by decide +kernel
theorem dX6_placeOf_106 : decode cX6_placeOf 106 = .ok (.ldc 116, 2) := by decide +kernel
theorem dX6_placeOf_108 : decode cX6_placeOf 108 = .ok (.ireturn, 1) := by decide +kernel
theorem dX6_placeOf_109 : decode cX6_placeOf 109 = .ok (.aload_n 0, 1) := by decide +kernel
theorem dX6_placeOf_110 : decode cX6_placeOf 110 = .ok (.getfield 10, 3) := by decide +kernel
theorem dX6_placeOf_113 : decode cX6_placeOf 113 = .ok (.getfield 135, 3) := by decide +kernel
theorem dX6_placeOf_116 : decode cX6_placeOf 116 = .ok (.iload_n 1, 1) := by decide +kernel
theorem dX6_placeOf_117 : decode cX6_placeOf 117 = .ok (.iaload, 1) := by decide +kernel
theorem dX6_placeOf_118 : decode cX6_placeOf 118 = .ok (.ireturn, 1) := by decide +kernel
set_option maxRecDepth 20000 in
theorem ggX6_battery_X0_capacity : GoodIn wsX6_battery wsX0_capacity := goodIn_r _ [11, 12, 75, 76, 77, 78, 79, 80, 81] (by decide +kernel) (by decide +kernel)
set_option maxRecDepth 20000 in
theorem gX6_battery_X0_capacity : GoodIn wsX6_battery (wsV RX6 141 RX0 yX0_capacity wsX0_capacity) := goodIn_app (goodIn_of _ (by decide +kernel)) ggX6_battery_X0_capacity
set_option maxRecDepth 20000 in
theorem ggX6_battery_X0_allowance : GoodIn wsX6_battery wsX0_allowance := goodIn_r _ [16, 17, 18, 19, 20, 10, 21, 22, 23, 24, 25, 26, 27, 28, 75, 76, 77, 78, 79, 80, 81] (by decide +kernel) (by decide +kernel)
set_option maxRecDepth 20000 in
theorem gX6_battery_X0_allowance : GoodIn wsX6_battery (wsV RX6 147 RX0 yX0_allowance wsX0_allowance) := goodIn_app (goodIn_of _ (by decide +kernel)) ggX6_battery_X0_allowance
set_option maxRecDepth 20000 in
theorem ggX6_battery_X4_savedByCut : GoodIn wsX6_battery wsX4_savedByCut := goodIn_r _ [33, 34, 35, 26, 27, 28, 36, 37, 38, 32, 39, 40, 41, 42, 43, 44, 45, 46, 47, 48, 49, 50, 51, 52, 19, 20, 10, 21, 22, 23, 24, 25, 58, 59, 60, 61, 62, 63, 64, 65, 66, 67, 68, 69, 70, 71, 72, 73, 74, 75, 76, 77, 78, 79, 80, 81] (by decide +kernel) (by decide +kernel)
set_option maxRecDepth 20000 in
theorem gX6_battery_X4_savedByCut : GoodIn wsX6_battery (wsV RX6 150 RX4 yX4_savedByCut wsX4_savedByCut) := goodIn_app (goodIn_of _ (by decide +kernel)) ggX6_battery_X4_savedByCut
theorem dX6_battery_0 : decode cX6_battery 0 = .ok (.iload_n 1, 1) := by decide +kernel
theorem dX6_battery_1 : decode cX6_battery 1 = .ok (.tableswitch 102 0 5 #[39, 50, 61, 72, 83, 94], 39) := by decide +kernel
theorem dX6_battery_40 : decode cX6_battery 40 = .ok (.aload_n 0, 1) := by decide +kernel
theorem dX6_battery_41 : decode cX6_battery 41 = .ok (.getfield 10, 3) := by decide +kernel
theorem dX6_battery_44 : decode cX6_battery 44 = .ok (.getfield 86, 3) := by decide +kernel
theorem dX6_battery_47 : decode cX6_battery 47 = .ok (.getfield 138, 3) := by decide +kernel
theorem dX6_battery_50 : decode cX6_battery 50 = .ok (.ireturn, 1) := by decide +kernel
theorem dX6_battery_51 : decode cX6_battery 51 = .ok (.aload_n 0, 1) := by decide +kernel
theorem dX6_battery_52 : decode cX6_battery 52 = .ok (.getfield 10, 3) := by decide +kernel
theorem dX6_battery_55 : decode cX6_battery 55 = .ok (.getfield 86, 3) := by decide +kernel
theorem dX6_battery_58 : decode cX6_battery 58 = .ok (.invokevirtual 141, 3) := by decide +kernel
theorem dX6_battery_61 : decode cX6_battery 61 = .ok (.ireturn, 1) := by decide +kernel
theorem dX6_battery_62 : decode cX6_battery 62 = .ok (.aload_n 0, 1) := by decide +kernel
theorem dX6_battery_63 : decode cX6_battery 63 = .ok (.getfield 10, 3) := by decide +kernel
theorem dX6_battery_66 : decode cX6_battery 66 = .ok (.getfield 86, 3) := by decide +kernel
theorem dX6_battery_69 : decode cX6_battery 69 = .ok (.getfield 144, 3) := by decide +kernel
theorem dX6_battery_72 : decode cX6_battery 72 = .ok (.ireturn, 1) := by decide +kernel
theorem dX6_battery_73 : decode cX6_battery 73 = .ok (.aload_n 0, 1) := by decide +kernel
theorem dX6_battery_74 : decode cX6_battery 74 = .ok (.getfield 10, 3) := by decide +kernel
theorem dX6_battery_77 : decode cX6_battery 77 = .ok (.getfield 86, 3) := by decide +kernel
theorem dX6_battery_80 : decode cX6_battery 80 = .ok (.invokevirtual 147, 3) := by decide +kernel
theorem dX6_battery_83 : decode cX6_battery 83 = .ok (.ireturn, 1) := by decide +kernel
theorem dX6_battery_84 : decode cX6_battery 84 = .ok (.aload_n 0, 1) := by decide +kernel
theorem dX6_battery_85 : decode cX6_battery 85 = .ok (.getfield 10, 3) := by decide +kernel
theorem dX6_battery_88 : decode cX6_battery 88 = .ok (.getfield 86, 3) := by decide +kernel
theorem dX6_battery_91 : decode cX6_battery 91 = .ok (.getfield 89, 3) := by decide +kernel
theorem dX6_battery_94 : decode cX6_battery 94 = .ok (.ireturn, 1) := by decide +kernel
theorem dX6_battery_95 : decode cX6_battery 95 = .ok (.aload_n 0, 1) := by decide +kernel
theorem dX6_battery_96 : decode cX6_battery 96 = .ok (.getfield 10, 3) := by decide +kernel
theorem dX6_battery_99 : decode cX6_battery 99 = .ok (.invokevirtual 150, 3) := by decide +kernel
theorem dX6_battery_102 : decode cX6_battery 102 = .ok (.ireturn, 1) := by decide +kernel
theorem dX6_battery_103 : decode cX6_battery 103 = .ok (.ldc 48, 2) := by decide +kernel
theorem dX6_battery_105 : decode cX6_battery 105 = .ok (.ireturn, 1) := by decide +kernel
set_option maxRecDepth 20000 in
theorem ggX6_lines_X4_setOf : GoodIn wsX6_lines wsX4_setOf := goodIn_r _ [7, 8, 56, 57, 58, 59, 60, 61, 62, 63, 64, 65, 66, 67, 68, 69, 70, 71, 72] (by decide +kernel) (by decide +kernel)
set_option maxRecDepth 20000 in
theorem gX6_lines_X4_setOf : GoodIn wsX6_lines (wsV RX6 153 RX4 yX4_setOf wsX4_setOf) := goodIn_app (goodIn_of _ (by decide +kernel)) ggX6_lines_X4_setOf
set_option maxRecDepth 20000 in
theorem ggX6_lines_X4_lostByCut : GoodIn wsX6_lines wsX4_lostByCut := goodIn_r _ [12, 8, 13, 14, 15, 6, 16, 17, 18, 19, 20, 21, 22, 23, 24, 25, 26, 4, 5, 7, 27, 28, 29, 30, 31, 32, 33, 34, 35, 36, 37, 38, 39, 40, 41, 42, 43, 44, 45, 46, 47, 48, 49, 50, 56, 57, 58, 59, 60, 61, 62, 63, 64, 65, 66, 67, 68, 69, 70, 71, 72, 73, 74, 75, 76, 77, 78, 79] (by decide +kernel) (by decide +kernel)
set_option maxRecDepth 20000 in
theorem gX6_lines_X4_lostByCut : GoodIn wsX6_lines (wsV RX6 156 RX4 yX4_lostByCut wsX4_lostByCut) := goodIn_app (goodIn_of _ (by decide +kernel)) ggX6_lines_X4_lostByCut
theorem dX6_lines_0 : decode cX6_lines 0 = .ok (.iload_n 1, 1) := by decide +kernel
theorem dX6_lines_1 : decode cX6_lines 1 = .ok (.tableswitch 66 0 3 #[31, 40, 49, 58], 31) := by decide +kernel
theorem dX6_lines_32 : decode cX6_lines 32 = .ok (.aload_n 0, 1) := by decide +kernel
theorem dX6_lines_33 : decode cX6_lines 33 = .ok (.getfield 10, 3) := by decide +kernel
theorem dX6_lines_36 : decode cX6_lines 36 = .ok (.iconst 0, 1) := by decide +kernel
theorem dX6_lines_37 : decode cX6_lines 37 = .ok (.invokevirtual 153, 3) := by decide +kernel
theorem dX6_lines_40 : decode cX6_lines 40 = .ok (.ireturn, 1) := by decide +kernel
theorem dX6_lines_41 : decode cX6_lines 41 = .ok (.aload_n 0, 1) := by decide +kernel
theorem dX6_lines_42 : decode cX6_lines 42 = .ok (.getfield 10, 3) := by decide +kernel
theorem dX6_lines_45 : decode cX6_lines 45 = .ok (.iconst 1, 1) := by decide +kernel
theorem dX6_lines_46 : decode cX6_lines 46 = .ok (.invokevirtual 153, 3) := by decide +kernel
theorem dX6_lines_49 : decode cX6_lines 49 = .ok (.ireturn, 1) := by decide +kernel
theorem dX6_lines_50 : decode cX6_lines 50 = .ok (.aload_n 0, 1) := by decide +kernel
theorem dX6_lines_51 : decode cX6_lines 51 = .ok (.getfield 10, 3) := by decide +kernel
theorem dX6_lines_54 : decode cX6_lines 54 = .ok (.iconst 2, 1) := by decide +kernel
theorem dX6_lines_55 : decode cX6_lines 55 = .ok (.invokevirtual 153, 3) := by decide +kernel
theorem dX6_lines_58 : decode cX6_lines 58 = .ok (.ireturn, 1) := by decide +kernel
theorem dX6_lines_59 : decode cX6_lines 59 = .ok (.aload_n 0, 1) := by decide +kernel
theorem dX6_lines_60 : decode cX6_lines 60 = .ok (.getfield 10, 3) := by decide +kernel
theorem dX6_lines_63 : decode cX6_lines 63 = .ok (.invokevirtual 156, 3) := by decide +kernel
theorem dX6_lines_66 : decode cX6_lines 66 = .ok (.ireturn, 1) := by decide +kernel
theorem dX6_lines_67 : decode cX6_lines 67 = .ok (.ldc 48, 2) := by decide +kernel
theorem dX6_lines_69 : decode cX6_lines 69 = .ok (.ireturn, 1) := by decide +kernel
set_option maxRecDepth 20000 in
theorem ggX6_wouldFlush_X6_isWithin : GoodIn wsX6_wouldFlush wsX6_isWithin := goodIn_r _ [12] (by decide +kernel) (by decide +kernel)
set_option maxRecDepth 20000 in
theorem gX6_wouldFlush_X6_isWithin : GoodIn wsX6_wouldFlush (va_wsS RX6 57 yX6_isWithin wsX6_isWithin) := goodIn_app (goodIn_of _ (by decide +kernel)) ggX6_wouldFlush_X6_isWithin
set_option maxRecDepth 20000 in
theorem ggX6_wouldFlush_X0_copyFrom : GoodIn wsX6_wouldFlush wsX0_copyFrom := goodIn_r _ [17, 18, 19, 20, 21, 22, 23, 24, 80, 81, 82, 83, 84, 85, 86] (by decide +kernel) (by decide +kernel)
set_option maxRecDepth 20000 in
theorem gX6_wouldFlush_X0_copyFrom : GoodIn wsX6_wouldFlush (wsV RX6 159 RX0 yX0_copyFrom wsX0_copyFrom) := goodIn_app (goodIn_of _ (by decide +kernel)) ggX6_wouldFlush_X0_copyFrom
set_option maxRecDepth 20000 in
theorem ggX6_wouldFlush_X0_useUp : GoodIn wsX6_wouldFlush wsX0_useUp := goodIn_r _ [28, 18, 29, 6, 7, 8, 80, 81, 82, 83, 84, 85, 86] (by decide +kernel) (by decide +kernel)
set_option maxRecDepth 20000 in
theorem gX6_wouldFlush_X0_useUp : GoodIn wsX6_wouldFlush (wsV RX6 163 RX0 yX0_useUp wsX0_useUp) := goodIn_app (goodIn_of _ (by decide +kernel)) ggX6_wouldFlush_X0_useUp
set_option maxRecDepth 20000 in
theorem ggX6_wouldFlush_X4_numberOf : GoodIn wsX6_wouldFlush wsX4_numberOf := goodIn_r _ [34, 35, 36, 37, 33, 38, 39, 40, 41, 42, 43, 44, 45, 46, 63, 64, 65, 66, 67, 68, 69, 70, 71, 72, 73, 74, 75, 76, 77, 78, 79] (by decide +kernel) (by decide +kernel)
set_option maxRecDepth 20000 in
theorem gX6_wouldFlush_X4_numberOf : GoodIn wsX6_wouldFlush (wsV RX6 77 RX4 yX4_numberOf wsX4_numberOf) := goodIn_app (goodIn_of _ (by decide +kernel)) ggX6_wouldFlush_X4_numberOf
set_option maxRecDepth 20000 in
theorem ggX6_wouldFlush_X0_allowance : GoodIn wsX6_wouldFlush wsX0_allowance := goodIn_r _ [50, 20, 51, 52, 53, 16, 54, 18, 22, 21, 55, 56, 7, 57, 80, 81, 82, 83, 84, 85, 86] (by decide +kernel) (by decide +kernel)
set_option maxRecDepth 20000 in
theorem gX6_wouldFlush_X0_allowance : GoodIn wsX6_wouldFlush (wsV RX6 147 RX0 yX0_allowance wsX0_allowance) := goodIn_app (goodIn_of _ (by decide +kernel)) ggX6_wouldFlush_X0_allowance
theorem dX6_wouldFlush_0 : decode cX6_wouldFlush 0 = .ok (.iload_n 1, 1) := by decide +kernel
theorem dX6_wouldFlush_1 : decode cX6_wouldFlush 1 = .ok (.iconst 1, 1) := by decide +kernel
theorem dX6_wouldFlush_2 : decode cX6_wouldFlush 2 = .ok (.sipush 999, 3) := by decide +kernel
theorem dX6_wouldFlush_5 : decode cX6_wouldFlush 5 = .ok (.invokestatic 57, 3) := by decide +kernel
theorem dX6_wouldFlush_8 : decode cX6_wouldFlush 8 = .ok (.ifCond .ne 6, 3) := by decide +kernel
theorem dX6_wouldFlush_11 : decode cX6_wouldFlush 11 = .ok (.ldc 48, 2) := by decide +kernel
theorem dX6_wouldFlush_13 : decode cX6_wouldFlush 13 = .ok (.ireturn, 1) := by decide +kernel
theorem dX6_wouldFlush_14 : decode cX6_wouldFlush 14 = .ok (.aload_n 0, 1) := by decide +kernel
theorem dX6_wouldFlush_15 : decode cX6_wouldFlush 15 = .ok (.getfield 40, 3) := by decide +kernel
theorem dX6_wouldFlush_18 : decode cX6_wouldFlush 18 = .ok (.aload_n 0, 1) := by decide +kernel
theorem dX6_wouldFlush_19 : decode cX6_wouldFlush 19 = .ok (.getfield 10, 3) := by decide +kernel
theorem dX6_wouldFlush_22 : decode cX6_wouldFlush 22 = .ok (.getfield 86, 3) := by decide +kernel
theorem dX6_wouldFlush_25 : decode cX6_wouldFlush 25 = .ok (.invokevirtual 159, 3) := by decide +kernel
theorem dX6_wouldFlush_28 : decode cX6_wouldFlush 28 = .ok (.aload_n 0, 1) := by decide +kernel
theorem dX6_wouldFlush_29 : decode cX6_wouldFlush 29 = .ok (.getfield 40, 3) := by decide +kernel
theorem dX6_wouldFlush_32 : decode cX6_wouldFlush 32 = .ok (.iload_n 1, 1) := by decide +kernel
theorem dX6_wouldFlush_33 : decode cX6_wouldFlush 33 = .ok (.invokevirtual 163, 3) := by decide +kernel
theorem dX6_wouldFlush_36 : decode cX6_wouldFlush 36 = .ok (.aload_n 0, 1) := by decide +kernel
theorem dX6_wouldFlush_37 : decode cX6_wouldFlush 37 = .ok (.getfield 10, 3) := by decide +kernel
theorem dX6_wouldFlush_40 : decode cX6_wouldFlush 40 = .ok (.iconst 2, 1) := by decide +kernel
theorem dX6_wouldFlush_41 : decode cX6_wouldFlush 41 = .ok (.invokevirtual 77, 3) := by decide +kernel
theorem dX6_wouldFlush_44 : decode cX6_wouldFlush 44 = .ok (.aload_n 0, 1) := by decide +kernel
theorem dX6_wouldFlush_45 : decode cX6_wouldFlush 45 = .ok (.getfield 40, 3) := by decide +kernel
theorem dX6_wouldFlush_48 : decode cX6_wouldFlush 48 = .ok (.invokevirtual 147, 3) := by decide +kernel
theorem dX6_wouldFlush_51 : decode cX6_wouldFlush 51 = .ok (.isub, 1) := by decide +kernel
theorem dX6_wouldFlush_52 : decode cX6_wouldFlush 52 = .ok (.iconst 0, 1) := by decide +kernel
theorem dX6_wouldFlush_53 : decode cX6_wouldFlush 53 = .ok (.invokestatic 166, 3) := by decide +kernel
theorem dX6_wouldFlush_56 : decode cX6_wouldFlush 56 = .ok (.ireturn, 1) := by decide +kernel
set_option maxRecDepth 20000 in
theorem ggX6_critical_X4_numberOf : GoodIn wsX6_critical wsX4_numberOf := goodIn_r _ [13, 14, 15, 16, 12, 17, 18, 19, 20, 21, 22, 23, 24, 25, 38, 39, 40, 41, 42, 43, 44, 45, 46, 47, 48, 49, 50, 51, 52, 53, 54] (by decide +kernel) (by decide +kernel)
set_option maxRecDepth 20000 in
theorem gX6_critical_X4_numberOf : GoodIn wsX6_critical (wsV RX6 77 RX4 yX4_numberOf wsX4_numberOf) := goodIn_app (goodIn_of _ (by decide +kernel)) ggX6_critical_X4_numberOf
set_option maxRecDepth 20000 in
theorem ggX6_critical_X0_costToSave : GoodIn wsX6_critical wsX0_costToSave := goodIn_r _ [30, 31, 32, 55, 56, 57, 58, 59, 60, 61] (by decide +kernel) (by decide +kernel)
set_option maxRecDepth 20000 in
theorem gX6_critical_X0_costToSave : GoodIn wsX6_critical (wsV RX6 171 RX0 yX0_costToSave wsX0_costToSave) := goodIn_app (goodIn_of _ (by decide +kernel)) ggX6_critical_X0_costToSave
theorem dX6_critical_0 : decode cX6_critical 0 = .ok (.aload_n 0, 1) := by decide +kernel
theorem dX6_critical_1 : decode cX6_critical 1 = .ok (.getfield 10, 3) := by decide +kernel
theorem dX6_critical_4 : decode cX6_critical 4 = .ok (.iconst 2, 1) := by decide +kernel
theorem dX6_critical_5 : decode cX6_critical 5 = .ok (.invokevirtual 77, 3) := by decide +kernel
theorem dX6_critical_8 : decode cX6_critical 8 = .ok (.istore_n 1, 1) := by decide +kernel
theorem dX6_critical_9 : decode cX6_critical 9 = .ok (.aload_n 0, 1) := by decide +kernel
theorem dX6_critical_10 : decode cX6_critical 10 = .ok (.getfield 10, 3) := by decide +kernel
theorem dX6_critical_13 : decode cX6_critical 13 = .ok (.getfield 86, 3) := by decide +kernel
theorem dX6_critical_16 : decode cX6_critical 16 = .ok (.getfield 138, 3) := by decide +kernel
theorem dX6_critical_19 : decode cX6_critical 19 = .ok (.aload_n 0, 1) := by decide +kernel
theorem dX6_critical_20 : decode cX6_critical 20 = .ok (.getfield 10, 3) := by decide +kernel
theorem dX6_critical_23 : decode cX6_critical 23 = .ok (.getfield 86, 3) := by decide +kernel
theorem dX6_critical_26 : decode cX6_critical 26 = .ok (.iload_n 1, 1) := by decide +kernel
theorem dX6_critical_27 : decode cX6_critical 27 = .ok (.invokevirtual 171, 3) := by decide +kernel
theorem dX6_critical_30 : decode cX6_critical 30 = .ok (.isub, 1) := by decide +kernel
theorem dX6_critical_31 : decode cX6_critical 31 = .ok (.iconst 0, 1) := by decide +kernel
theorem dX6_critical_32 : decode cX6_critical 32 = .ok (.invokestatic 166, 3) := by decide +kernel
theorem dX6_critical_35 : decode cX6_critical 35 = .ok (.istore_n 2, 1) := by decide +kernel
theorem dX6_critical_36 : decode cX6_critical 36 = .ok (.iload_n 1, 1) := by decide +kernel
theorem dX6_critical_37 : decode cX6_critical 37 = .ok (.ifCond .le 16, 3) := by decide +kernel
theorem dX6_critical_40 : decode cX6_critical 40 = .ok (.iload_n 2, 1) := by decide +kernel
theorem dX6_critical_41 : decode cX6_critical 41 = .ok (.sipush 999, 3) := by decide +kernel
theorem dX6_critical_44 : decode cX6_critical 44 = .ok (.if_icmp .ge 9, 3) := by decide +kernel
theorem dX6_critical_47 : decode cX6_critical 47 = .ok (.iload_n 2, 1) := by decide +kernel
theorem dX6_critical_48 : decode cX6_critical 48 = .ok (.iconst 1, 1) := by decide +kernel
theorem dX6_critical_49 : decode cX6_critical 49 = .ok (.iadd, 1) := by decide +kernel
theorem dX6_critical_50 : decode cX6_critical 50 = .ok (.goto 5, 3) := by decide +kernel
theorem dX6_critical_53 : decode cX6_critical 53 = .ok (.ldc 116, 2) := by decide +kernel
theorem dX6_critical_55 : decode cX6_critical 55 = .ok (.ireturn, 1) := by decide +kernel
set_option maxRecDepth 20000 in
theorem ggX6_ticksUntil_X6_isWithin : GoodIn wsX6_ticksUntil wsX6_isWithin := goodIn_r _ [9] (by decide +kernel) (by decide +kernel)
set_option maxRecDepth 20000 in
theorem gX6_ticksUntil_X6_isWithin : GoodIn wsX6_ticksUntil (va_wsS RX6 57 yX6_isWithin wsX6_isWithin) := goodIn_app (goodIn_of _ (by decide +kernel)) ggX6_ticksUntil_X6_isWithin
set_option maxRecDepth 20000 in
theorem ggX6_ticksUntil_X0_copyFrom : GoodIn wsX6_ticksUntil wsX0_copyFrom := goodIn_r _ [14, 15, 16, 17, 18, 19, 20, 21, 75, 76, 77, 78, 79, 80, 81] (by decide +kernel) (by decide +kernel)
set_option maxRecDepth 20000 in
theorem gX6_ticksUntil_X0_copyFrom : GoodIn wsX6_ticksUntil (wsV RX6 159 RX0 yX0_copyFrom wsX0_copyFrom) := goodIn_app (goodIn_of _ (by decide +kernel)) ggX6_ticksUntil_X0_copyFrom
set_option maxRecDepth 20000 in
theorem ggX6_ticksUntil_X0_allowance : GoodIn wsX6_ticksUntil wsX0_allowance := goodIn_r _ [25, 17, 26, 27, 28, 13, 29, 15, 19, 18, 30, 31, 32, 33, 75, 76, 77, 78, 79, 80, 81] (by decide +kernel) (by decide +kernel)
set_option maxRecDepth 20000 in
theorem gX6_ticksUntil_X0_allowance : GoodIn wsX6_ticksUntil (wsV RX6 147 RX0 yX0_allowance wsX0_allowance) := goodIn_app (goodIn_of _ (by decide +kernel)) ggX6_ticksUntil_X0_allowance
set_option maxRecDepth 20000 in
theorem ggX6_ticksUntil_X0_passTick : GoodIn wsX6_ticksUntil wsX0_passTick := goodIn_r _ [37, 17, 15, 20, 30, 31, 32, 33, 38, 39, 40, 13, 41, 21, 16, 42, 43, 44, 45, 46, 47, 48, 49, 50, 51, 52, 75, 76, 77, 78, 79, 80, 81] (by decide +kernel) (by decide +kernel)
set_option maxRecDepth 20000 in
theorem gX6_ticksUntil_X0_passTick : GoodIn wsX6_ticksUntil (wsV RX6 174 RX0 yX0_passTick wsX0_passTick) := goodIn_app (goodIn_of _ (by decide +kernel)) ggX6_ticksUntil_X0_passTick
theorem dX6_ticksUntil_0 : decode cX6_ticksUntil 0 = .ok (.iload_n 1, 1) := by decide +kernel
theorem dX6_ticksUntil_1 : decode cX6_ticksUntil 1 = .ok (.iconst 0, 1) := by decide +kernel
theorem dX6_ticksUntil_2 : decode cX6_ticksUntil 2 = .ok (.bipush 8, 2) := by decide +kernel
theorem dX6_ticksUntil_4 : decode cX6_ticksUntil 4 = .ok (.invokestatic 57, 3) := by decide +kernel
theorem dX6_ticksUntil_7 : decode cX6_ticksUntil 7 = .ok (.ifCond .ne 6, 3) := by decide +kernel
theorem dX6_ticksUntil_10 : decode cX6_ticksUntil 10 = .ok (.ldc 48, 2) := by decide +kernel
theorem dX6_ticksUntil_12 : decode cX6_ticksUntil 12 = .ok (.ireturn, 1) := by decide +kernel
theorem dX6_ticksUntil_13 : decode cX6_ticksUntil 13 = .ok (.aload_n 0, 1) := by decide +kernel
theorem dX6_ticksUntil_14 : decode cX6_ticksUntil 14 = .ok (.getfield 40, 3) := by decide +kernel
theorem dX6_ticksUntil_17 : decode cX6_ticksUntil 17 = .ok (.aload_n 0, 1) := by decide +kernel
theorem dX6_ticksUntil_18 : decode cX6_ticksUntil 18 = .ok (.getfield 10, 3) := by decide +kernel
theorem dX6_ticksUntil_21 : decode cX6_ticksUntil 21 = .ok (.getfield 86, 3) := by decide +kernel
theorem dX6_ticksUntil_24 : decode cX6_ticksUntil 24 = .ok (.invokevirtual 159, 3) := by decide +kernel
theorem dX6_ticksUntil_27 : decode cX6_ticksUntil 27 = .ok (.iconst 0, 1) := by decide +kernel
theorem dX6_ticksUntil_28 : decode cX6_ticksUntil 28 = .ok (.istore_n 2, 1) := by decide +kernel
theorem dX6_ticksUntil_29 : decode cX6_ticksUntil 29 = .ok (.iload_n 2, 1) := by decide +kernel
theorem dX6_ticksUntil_30 : decode cX6_ticksUntil 30 = .ok (.sipush 400, 3) := by decide +kernel
theorem dX6_ticksUntil_33 : decode cX6_ticksUntil 33 = .ok (.if_icmp .gt 30, 3) := by decide +kernel
theorem dX6_ticksUntil_36 : decode cX6_ticksUntil 36 = .ok (.aload_n 0, 1) := by decide +kernel
theorem dX6_ticksUntil_37 : decode cX6_ticksUntil 37 = .ok (.getfield 40, 3) := by decide +kernel
theorem dX6_ticksUntil_40 : decode cX6_ticksUntil 40 = .ok (.invokevirtual 147, 3) := by decide +kernel
theorem dX6_ticksUntil_43 : decode cX6_ticksUntil 43 = .ok (.iload_n 1, 1) := by decide +kernel
theorem dX6_ticksUntil_44 : decode cX6_ticksUntil 44 = .ok (.if_icmp .lt 5, 3) := by decide +kernel
theorem dX6_ticksUntil_47 : decode cX6_ticksUntil 47 = .ok (.iload_n 2, 1) := by decide +kernel
theorem dX6_ticksUntil_48 : decode cX6_ticksUntil 48 = .ok (.ireturn, 1) := by decide +kernel
theorem dX6_ticksUntil_49 : decode cX6_ticksUntil 49 = .ok (.aload_n 0, 1) := by decide +kernel
theorem dX6_ticksUntil_50 : decode cX6_ticksUntil 50 = .ok (.getfield 40, 3) := by decide +kernel
theorem dX6_ticksUntil_53 : decode cX6_ticksUntil 53 = .ok (.invokevirtual 174, 3) := by decide +kernel
theorem dX6_ticksUntil_56 : decode cX6_ticksUntil 56 = .ok (.pop, 1) := by decide +kernel
theorem dX6_ticksUntil_57 : decode cX6_ticksUntil 57 = .ok (.iinc 2 1, 3) := by decide +kernel
theorem dX6_ticksUntil_60 : decode cX6_ticksUntil 60 = .ok (.goto (-31), 3) := by decide +kernel
theorem dX6_ticksUntil_63 : decode cX6_ticksUntil 63 = .ok (.ldc 116, 2) := by decide +kernel
theorem dX6_ticksUntil_65 : decode cX6_ticksUntil 65 = .ok (.ireturn, 1) := by decide +kernel
set_option maxRecDepth 20000 in
theorem ggX6_pair_X6_isWithin : GoodIn wsX6_pair wsX6_isWithin := goodIn_r _ [7] (by decide +kernel) (by decide +kernel)
set_option maxRecDepth 20000 in
theorem gX6_pair_X6_isWithin : GoodIn wsX6_pair (va_wsS RX6 57 yX6_isWithin wsX6_isWithin) := goodIn_app (goodIn_of _ (by decide +kernel)) ggX6_pair_X6_isWithin
set_option maxRecDepth 20000 in
theorem ggX6_pair_X4_nearestPair : GoodIn wsX6_pair wsX4_nearestPair := goodIn_r _ [12, 13, 14, 15, 16, 17, 11, 18, 19, 20, 21, 22, 23, 24, 25, 26, 27, 6, 28, 36, 37, 38, 39, 40, 41, 42, 43, 44, 45, 46, 47, 48, 49, 50, 51, 52] (by decide +kernel) (by decide +kernel)
set_option maxRecDepth 20000 in
theorem gX6_pair_X4_nearestPair : GoodIn wsX6_pair (wsV RX6 178 RX4 yX4_nearestPair wsX4_nearestPair) := goodIn_app (goodIn_of _ (by decide +kernel)) ggX6_pair_X4_nearestPair
set_option maxRecDepth 20000 in
theorem ggX6_pair_X6_isLine : GoodIn wsX6_pair wsX6_isLine := goodIn_r _ [28] (by decide +kernel) (by decide +kernel)
set_option maxRecDepth 20000 in
theorem gX6_pair_X6_isLine : GoodIn wsX6_pair (va_wsS RX6 65 yX6_isLine wsX6_isLine) := goodIn_app (goodIn_of _ (by decide +kernel)) ggX6_pair_X6_isLine
set_option maxRecDepth 20000 in
theorem ggX6_pair_X4_distanceToDirty : GoodIn wsX6_pair wsX4_distanceToDirty := goodIn_r _ [18, 13, 19, 20, 21, 22, 23, 24, 25, 26, 27, 6, 28, 36, 37, 38, 39, 40, 41, 42, 43, 44, 45, 46, 47, 48, 49, 50, 51, 52] (by decide +kernel) (by decide +kernel)
set_option maxRecDepth 20000 in
theorem gX6_pair_X4_distanceToDirty : GoodIn wsX6_pair (wsV RX6 181 RX4 yX4_distanceToDirty wsX4_distanceToDirty) := goodIn_app (goodIn_of _ (by decide +kernel)) ggX6_pair_X4_distanceToDirty
theorem dX6_pair_0 : decode cX6_pair 0 = .ok (.iload_n 1, 1) := by decide +kernel
theorem dX6_pair_1 : decode cX6_pair 1 = .ok (.iconst 0, 1) := by decide +kernel
theorem dX6_pair_2 : decode cX6_pair 2 = .ok (.iconst 1, 1) := by decide +kernel
theorem dX6_pair_3 : decode cX6_pair 3 = .ok (.invokestatic 57, 3) := by decide +kernel
theorem dX6_pair_6 : decode cX6_pair 6 = .ok (.ifCond .ne 6, 3) := by decide +kernel
theorem dX6_pair_9 : decode cX6_pair 9 = .ok (.ldc 48, 2) := by decide +kernel
theorem dX6_pair_11 : decode cX6_pair 11 = .ok (.ireturn, 1) := by decide +kernel
theorem dX6_pair_12 : decode cX6_pair 12 = .ok (.aload_n 0, 1) := by decide +kernel
theorem dX6_pair_13 : decode cX6_pair 13 = .ok (.getfield 10, 3) := by decide +kernel
theorem dX6_pair_16 : decode cX6_pair 16 = .ok (.invokevirtual 178, 3) := by decide +kernel
theorem dX6_pair_19 : decode cX6_pair 19 = .ok (.istore_n 2, 1) := by decide +kernel
theorem dX6_pair_20 : decode cX6_pair 20 = .ok (.iload_n 2, 1) := by decide +kernel
theorem dX6_pair_21 : decode cX6_pair 21 = .ok (.invokestatic 65, 3) := by decide +kernel
theorem dX6_pair_24 : decode cX6_pair 24 = .ok (.ifCond .ne 6, 3) := by decide +kernel
theorem dX6_pair_27 : decode cX6_pair 27 = .ok (.ldc 116, 2) := by decide +kernel
theorem dX6_pair_29 : decode cX6_pair 29 = .ok (.ireturn, 1) := by decide +kernel
theorem dX6_pair_30 : decode cX6_pair 30 = .ok (.iload_n 1, 1) := by decide +kernel
theorem dX6_pair_31 : decode cX6_pair 31 = .ok (.ifCond .ne 7, 3) := by decide +kernel
theorem dX6_pair_34 : decode cX6_pair 34 = .ok (.iload_n 2, 1) := by decide +kernel
theorem dX6_pair_35 : decode cX6_pair 35 = .ok (.goto 11, 3) := by decide +kernel
theorem dX6_pair_38 : decode cX6_pair 38 = .ok (.aload_n 0, 1) := by decide +kernel
theorem dX6_pair_39 : decode cX6_pair 39 = .ok (.getfield 10, 3) := by decide +kernel
theorem dX6_pair_42 : decode cX6_pair 42 = .ok (.iload_n 2, 1) := by decide +kernel
theorem dX6_pair_43 : decode cX6_pair 43 = .ok (.invokevirtual 181, 3) := by decide +kernel
theorem dX6_pair_46 : decode cX6_pair 46 = .ok (.ireturn, 1) := by decide +kernel
set_option maxRecDepth 20000 in
theorem ggX6_count_X6_isSetting : GoodIn wsX6_count wsX6_isSetting := goodIn_r _ [20] (by decide +kernel) (by decide +kernel)
set_option maxRecDepth 20000 in
theorem gX6_count_X6_isSetting : GoodIn wsX6_count (va_wsS RX6 100 yX6_isSetting wsX6_isSetting) := goodIn_app (goodIn_of _ (by decide +kernel)) ggX6_count_X6_isSetting
set_option maxRecDepth 20000 in
theorem ggX6_count_X0_setting : GoodIn wsX6_count wsX0_setting := goodIn_r _ [25, 26, 27, 28, 29, 56, 57, 58, 59, 60, 61, 62] (by decide +kernel) (by decide +kernel)
set_option maxRecDepth 20000 in
theorem gX6_count_X0_setting : GoodIn wsX6_count (wsV RX6 109 RX0 yX0_setting wsX0_setting) := goodIn_app (goodIn_of _ (by decide +kernel)) ggX6_count_X0_setting
theorem dX6_count_0 : decode cX6_count 0 = .ok (.iload_n 1, 1) := by decide +kernel
theorem dX6_count_1 : decode cX6_count 1 = .ok (.tableswitch 147 0 10 #[59, 67, 75, 83, 91, 99, 107, 115, 123, 131, 139], 59) := by decide +kernel
theorem dX6_count_60 : decode cX6_count 60 = .ok (.aload_n 0, 1) := by decide +kernel
theorem dX6_count_61 : decode cX6_count 61 = .ok (.getfield 10, 3) := by decide +kernel
theorem dX6_count_64 : decode cX6_count 64 = .ok (.getfield 184, 3) := by decide +kernel
theorem dX6_count_67 : decode cX6_count 67 = .ok (.ireturn, 1) := by decide +kernel
theorem dX6_count_68 : decode cX6_count 68 = .ok (.aload_n 0, 1) := by decide +kernel
theorem dX6_count_69 : decode cX6_count 69 = .ok (.getfield 10, 3) := by decide +kernel
theorem dX6_count_72 : decode cX6_count 72 = .ok (.getfield 187, 3) := by decide +kernel
theorem dX6_count_75 : decode cX6_count 75 = .ok (.ireturn, 1) := by decide +kernel
theorem dX6_count_76 : decode cX6_count 76 = .ok (.aload_n 0, 1) := by decide +kernel
theorem dX6_count_77 : decode cX6_count 77 = .ok (.getfield 10, 3) := by decide +kernel
theorem dX6_count_80 : decode cX6_count 80 = .ok (.getfield 190, 3) := by decide +kernel
theorem dX6_count_83 : decode cX6_count 83 = .ok (.ireturn, 1) := by decide +kernel
theorem dX6_count_84 : decode cX6_count 84 = .ok (.aload_n 0, 1) := by decide +kernel
theorem dX6_count_85 : decode cX6_count 85 = .ok (.getfield 10, 3) := by decide +kernel
theorem dX6_count_88 : decode cX6_count 88 = .ok (.getfield 193, 3) := by decide +kernel
theorem dX6_count_91 : decode cX6_count 91 = .ok (.ireturn, 1) := by decide +kernel
theorem dX6_count_92 : decode cX6_count 92 = .ok (.aload_n 0, 1) := by decide +kernel
theorem dX6_count_93 : decode cX6_count 93 = .ok (.getfield 10, 3) := by decide +kernel
theorem dX6_count_96 : decode cX6_count 96 = .ok (.getfield 196, 3) := by decide +kernel
theorem dX6_count_99 : decode cX6_count 99 = .ok (.ireturn, 1) := by decide +kernel
theorem dX6_count_100 : decode cX6_count 100 = .ok (.aload_n 0, 1) := by decide +kernel
theorem dX6_count_101 : decode cX6_count 101 = .ok (.getfield 10, 3) := by decide +kernel
theorem dX6_count_104 : decode cX6_count 104 = .ok (.getfield 199, 3) := by decide +kernel
theorem dX6_count_107 : decode cX6_count 107 = .ok (.ireturn, 1) := by decide +kernel
theorem dX6_count_108 : decode cX6_count 108 = .ok (.aload_n 0, 1) := by decide +kernel
theorem dX6_count_109 : decode cX6_count 109 = .ok (.getfield 10, 3) := by decide +kernel
theorem dX6_count_112 : decode cX6_count 112 = .ok (.getfield 202, 3) := by decide +kernel
theorem dX6_count_115 : decode cX6_count 115 = .ok (.ireturn, 1) := by decide +kernel
theorem dX6_count_116 : decode cX6_count 116 = .ok (.aload_n 0, 1) := by decide +kernel
theorem dX6_count_117 : decode cX6_count 117 = .ok (.getfield 10, 3) := by decide +kernel
theorem dX6_count_120 : decode cX6_count 120 = .ok (.getfield 205, 3) := by decide +kernel
theorem dX6_count_123 : decode cX6_count 123 = .ok (.ireturn, 1) := by decide +kernel
theorem dX6_count_124 : decode cX6_count 124 = .ok (.aload_n 0, 1) := by decide +kernel
theorem dX6_count_125 : decode cX6_count 125 = .ok (.getfield 10, 3) := by decide +kernel
theorem dX6_count_128 : decode cX6_count 128 = .ok (.getfield 208, 3) := by decide +kernel
theorem dX6_count_131 : decode cX6_count 131 = .ok (.ireturn, 1) := by decide +kernel
theorem dX6_count_132 : decode cX6_count 132 = .ok (.aload_n 0, 1) := by decide +kernel
theorem dX6_count_133 : decode cX6_count 133 = .ok (.getfield 19, 3) := by decide +kernel
theorem dX6_count_136 : decode cX6_count 136 = .ok (.getfield 211, 3) := by decide +kernel
theorem dX6_count_139 : decode cX6_count 139 = .ok (.ireturn, 1) := by decide +kernel
theorem dX6_count_140 : decode cX6_count 140 = .ok (.aload_n 0, 1) := by decide +kernel
theorem dX6_count_141 : decode cX6_count 141 = .ok (.getfield 26, 3) := by decide +kernel
theorem dX6_count_144 : decode cX6_count 144 = .ok (.getfield 214, 3) := by decide +kernel
theorem dX6_count_147 : decode cX6_count 147 = .ok (.ireturn, 1) := by decide +kernel
theorem dX6_count_148 : decode cX6_count 148 = .ok (.iload_n 1, 1) := by decide +kernel
theorem dX6_count_149 : decode cX6_count 149 = .ok (.bipush 20, 2) := by decide +kernel
theorem dX6_count_151 : decode cX6_count 151 = .ok (.isub, 1) := by decide +kernel
theorem dX6_count_152 : decode cX6_count 152 = .ok (.invokestatic 100, 3) := by decide +kernel
theorem dX6_count_155 : decode cX6_count 155 = .ok (.ifCond .eq 20, 3) := by decide +kernel
theorem dX6_count_158 : decode cX6_count 158 = .ok (.aload_n 0, 1) := by decide +kernel
theorem dX6_count_159 : decode cX6_count 159 = .ok (.getfield 10, 3) := by decide +kernel
theorem dX6_count_162 : decode cX6_count 162 = .ok (.getfield 86, 3) := by decide +kernel
theorem dX6_count_165 : decode cX6_count 165 = .ok (.iload_n 1, 1) := by decide +kernel
theorem dX6_count_166 : decode cX6_count 166 = .ok (.bipush 20, 2) := by decide +kernel
theorem dX6_count_168 : decode cX6_count 168 = .ok (.isub, 1) := by decide +kernel
theorem dX6_count_169 : decode cX6_count 169 = .ok (.invokevirtual 109, 3) := by decide +kernel
theorem dX6_count_172 : decode cX6_count 172 = .ok (.goto 5, 3) := by decide +kernel
theorem dX6_count_175 : decode cX6_count 175 = .ok (.ldc 48, 2) := by decide +kernel
theorem dX6_count_177 : decode cX6_count 177 = .ok (.ireturn, 1) := by decide +kernel
set_option maxRecDepth 20000 in
theorem ggX6_undo_X1_restore : GoodIn wsX6_undo wsX1_restore := goodIn_r _ [9, 10, 11, 12, 13, 14, 15, 16, 17, 18, 19, 20, 21, 22, 23, 24, 25, 26, 27, 28, 29, 30, 31, 32, 33, 34, 35, 36, 37, 38, 39, 40, 41, 42, 43, 44, 45, 46, 47, 48, 49, 50, 51, 52, 53, 54, 55, 56, 57, 63, 64, 65, 66, 67, 68, 69, 70, 71, 72, 73, 74, 75, 76, 77, 78, 79, 80, 81, 82, 83, 84, 85, 86, 87, 88] (by decide +kernel) (by decide +kernel)
set_option maxRecDepth 20000 in
theorem gX6_undo_X1_restore : GoodIn wsX6_undo (wsV RX6 217 RX1 yX1_restore wsX1_restore) := goodIn_app (goodIn_of _ (by decide +kernel)) ggX6_undo_X1_restore
theorem dX6_undo_0 : decode cX6_undo 0 = .ok (.aload_n 0, 1) := by decide +kernel
theorem dX6_undo_1 : decode cX6_undo 1 = .ok (.getfield 19, 3) := by decide +kernel
theorem dX6_undo_4 : decode cX6_undo 4 = .ok (.getfield 211, 3) := by decide +kernel
theorem dX6_undo_7 : decode cX6_undo 7 = .ok (.ifCond .gt 6, 3) := by decide +kernel
theorem dX6_undo_10 : decode cX6_undo 10 = .ok (.ldc 72, 2) := by decide +kernel
theorem dX6_undo_12 : decode cX6_undo 12 = .ok (.ireturn, 1) := by decide +kernel
theorem dX6_undo_13 : decode cX6_undo 13 = .ok (.aload_n 0, 1) := by decide +kernel
theorem dX6_undo_14 : decode cX6_undo 14 = .ok (.getfield 19, 3) := by decide +kernel
theorem dX6_undo_17 : decode cX6_undo 17 = .ok (.aload_n 0, 1) := by decide +kernel
theorem dX6_undo_18 : decode cX6_undo 18 = .ok (.getfield 10, 3) := by decide +kernel
theorem dX6_undo_21 : decode cX6_undo 21 = .ok (.invokevirtual 217, 3) := by decide +kernel
theorem dX6_undo_24 : decode cX6_undo 24 = .ok (.aload_n 0, 1) := by decide +kernel
theorem dX6_undo_25 : decode cX6_undo 25 = .ok (.getfield 19, 3) := by decide +kernel
theorem dX6_undo_28 : decode cX6_undo 28 = .ok (.getfield 211, 3) := by decide +kernel
theorem dX6_undo_31 : decode cX6_undo 31 = .ok (.ireturn, 1) := by decide +kernel
set_option maxRecDepth 20000 in
theorem ggX6_type_X6_isWithin : GoodIn wsX6_type wsX6_isWithin := goodIn_r _ [8] (by decide +kernel) (by decide +kernel)
set_option maxRecDepth 20000 in
theorem gX6_type_X6_isWithin : GoodIn wsX6_type (va_wsS RX6 57 yX6_isWithin wsX6_isWithin) := goodIn_app (goodIn_of _ (by decide +kernel)) ggX6_type_X6_isWithin
set_option maxRecDepth 20000 in
theorem ggX6_type_X5_append : GoodIn wsX6_type wsX5_append := goodIn_r _ [13, 14, 15, 6, 7, 8, 21, 22] (by decide +kernel) (by decide +kernel)
set_option maxRecDepth 20000 in
theorem gX6_type_X5_append : GoodIn wsX6_type (wsV RX6 221 RX5 yX5_append wsX5_append) := goodIn_app (goodIn_of _ (by decide +kernel)) ggX6_type_X5_append
theorem dX6_type_0 : decode cX6_type 0 = .ok (.iload_n 1, 1) := by decide +kernel
theorem dX6_type_1 : decode cX6_type 1 = .ok (.bipush 32, 2) := by decide +kernel
theorem dX6_type_3 : decode cX6_type 3 = .ok (.bipush 126, 2) := by decide +kernel
theorem dX6_type_5 : decode cX6_type 5 = .ok (.invokestatic 57, 3) := by decide +kernel
theorem dX6_type_8 : decode cX6_type 8 = .ok (.ifCond .ne 6, 3) := by decide +kernel
theorem dX6_type_11 : decode cX6_type 11 = .ok (.ldc 48, 2) := by decide +kernel
theorem dX6_type_13 : decode cX6_type 13 = .ok (.ireturn, 1) := by decide +kernel
theorem dX6_type_14 : decode cX6_type 14 = .ok (.aload_n 0, 1) := by decide +kernel
theorem dX6_type_15 : decode cX6_type 15 = .ok (.getfield 26, 3) := by decide +kernel
theorem dX6_type_18 : decode cX6_type 18 = .ok (.getfield 214, 3) := by decide +kernel
theorem dX6_type_21 : decode cX6_type 21 = .ok (.bipush 60, 2) := by decide +kernel
theorem dX6_type_23 : decode cX6_type 23 = .ok (.if_icmp .lt 6, 3) := by decide +kernel
theorem dX6_type_26 : decode cX6_type 26 = .ok (.ldc 220, 2) := by decide +kernel
theorem dX6_type_28 : decode cX6_type 28 = .ok (.ireturn, 1) := by decide +kernel
theorem dX6_type_29 : decode cX6_type 29 = .ok (.aload_n 0, 1) := by decide +kernel
theorem dX6_type_30 : decode cX6_type 30 = .ok (.getfield 26, 3) := by decide +kernel
theorem dX6_type_33 : decode cX6_type 33 = .ok (.iload_n 1, 1) := by decide +kernel
theorem dX6_type_34 : decode cX6_type 34 = .ok (.invokevirtual 221, 3) := by decide +kernel
theorem dX6_type_37 : decode cX6_type 37 = .ok (.aload_n 0, 1) := by decide +kernel
theorem dX6_type_38 : decode cX6_type 38 = .ok (.getfield 26, 3) := by decide +kernel
theorem dX6_type_41 : decode cX6_type 41 = .ok (.getfield 214, 3) := by decide +kernel
theorem dX6_type_44 : decode cX6_type 44 = .ok (.ireturn, 1) := by decide +kernel
theorem dX6_clearText_0 : decode cX6_clearText 0 = .ok (.aload_n 0, 1) := by decide +kernel
theorem dX6_clearText_1 : decode cX6_clearText 1 = .ok (.getfield 26, 3) := by decide +kernel
theorem dX6_clearText_4 : decode cX6_clearText 4 = .ok (.getfield 214, 3) := by decide +kernel
theorem dX6_clearText_7 : decode cX6_clearText 7 = .ok (.istore_n 1, 1) := by decide +kernel
theorem dX6_clearText_8 : decode cX6_clearText 8 = .ok (.aload_n 0, 1) := by decide +kernel
theorem dX6_clearText_9 : decode cX6_clearText 9 = .ok (.getfield 26, 3) := by decide +kernel
theorem dX6_clearText_12 : decode cX6_clearText 12 = .ok (.iconst 0, 1) := by decide +kernel
theorem dX6_clearText_13 : decode cX6_clearText 13 = .ok (.putfield 214, 3) := by decide +kernel
theorem dX6_clearText_16 : decode cX6_clearText 16 = .ok (.iload_n 1, 1) := by decide +kernel
theorem dX6_clearText_17 : decode cX6_clearText 17 = .ok (.ireturn, 1) := by decide +kernel
set_option maxRecDepth 20000 in
theorem ggX6_fault_X6_isWithin : GoodIn wsX6_fault wsX6_isWithin := goodIn_r _ [13] (by decide +kernel) (by decide +kernel)
set_option maxRecDepth 20000 in
theorem gX6_fault_X6_isWithin : GoodIn wsX6_fault (va_wsS RX6 57 yX6_isWithin wsX6_isWithin) := goodIn_app (goodIn_of _ (by decide +kernel)) ggX6_fault_X6_isWithin
set_option maxRecDepth 20000 in
theorem ggX6_fault_X3_run : GoodIn wsX6_fault wsX3_run := goodIn_r _ [18, 19, 20, 21, 22, 23, 24, 25, 26, 27, 28, 29, 30, 31, 32, 33, 34, 35, 36, 37, 38, 39, 40, 41, 42, 43, 44, 45, 46, 47, 48, 49, 50, 51, 52, 53, 54, 55, 56, 57, 58, 12, 59, 60, 61, 62, 63, 64, 65, 66, 67, 68, 69, 70, 71, 72, 73, 74, 75, 76, 77, 78, 79, 80, 81, 82, 83, 84, 85, 86, 87, 88, 89, 90, 91, 92, 93, 94, 95, 96, 97, 11, 13, 98, 99, 100, 101, 102, 103, 104, 105, 106, 107, 108, 109, 110, 111, 112, 113, 114, 115, 17, 116, 117, 118, 119, 120, 121, 122, 123, 124, 125, 126, 127, 128, 129, 130, 131, 132, 133, 134, 135, 136, 137, 138, 139, 140, 141, 142, 143, 144, 145, 146, 147, 148, 149, 150, 151, 152, 153, 154, 155, 156, 157, 158, 159, 160, 161, 162, 163, 164, 165, 166, 167, 168, 169, 170, 171, 172, 173, 174, 175, 176, 177, 178, 179, 180, 181, 182, 183, 184, 185, 186, 187, 188, 189, 190, 191, 192, 193, 194, 195, 196, 197, 198, 199, 200, 201, 202, 203, 204, 205, 206, 207, 208, 209, 210, 211, 212, 213, 214, 215, 216, 217, 218, 219, 220, 221, 222, 223, 224, 225, 226, 227, 228, 229, 230, 231, 232, 233, 234, 235, 236, 237, 238, 239, 240, 241, 242, 243, 244, 245, 246, 247, 248, 249, 250, 251, 257, 258, 259, 260, 261, 262, 263, 264, 265, 266, 267, 268, 269, 270, 271, 272, 273, 274, 275, 276, 277, 278, 279, 280, 281, 282, 283, 284, 285, 286, 287, 288, 289, 290, 291, 292] (by decide +kernel) (by decide +kernel)
set_option maxRecDepth 20000 in
theorem gX6_fault_X3_run : GoodIn wsX6_fault (wsV RX6 224 RX3 yX3_run wsX3_run) := goodIn_app (goodIn_of _ (by decide +kernel)) ggX6_fault_X3_run
theorem dX6_fault_0 : decode cX6_fault 0 = .ok (.iload_n 1, 1) := by decide +kernel
theorem dX6_fault_1 : decode cX6_fault 1 = .ok (.iconst 0, 1) := by decide +kernel
theorem dX6_fault_2 : decode cX6_fault 2 = .ok (.iconst 2, 1) := by decide +kernel
theorem dX6_fault_3 : decode cX6_fault 3 = .ok (.invokestatic 57, 3) := by decide +kernel
theorem dX6_fault_6 : decode cX6_fault 6 = .ok (.ifCond .ne 6, 3) := by decide +kernel
theorem dX6_fault_9 : decode cX6_fault 9 = .ok (.ldc 48, 2) := by decide +kernel
theorem dX6_fault_11 : decode cX6_fault 11 = .ok (.ireturn, 1) := by decide +kernel
theorem dX6_fault_12 : decode cX6_fault 12 = .ok (.aload_n 0, 1) := by decide +kernel
theorem dX6_fault_13 : decode cX6_fault 13 = .ok (.getfield 33, 3) := by decide +kernel
theorem dX6_fault_16 : decode cX6_fault 16 = .ok (.aload_n 0, 1) := by decide +kernel
theorem dX6_fault_17 : decode cX6_fault 17 = .ok (.getfield 26, 3) := by decide +kernel
theorem dX6_fault_20 : decode cX6_fault 20 = .ok (.aload_n 0, 1) := by decide +kernel
theorem dX6_fault_21 : decode cX6_fault 21 = .ok (.getfield 10, 3) := by decide +kernel
theorem dX6_fault_24 : decode cX6_fault 24 = .ok (.invokevirtual 224, 3) := by decide +kernel
theorem dX6_fault_27 : decode cX6_fault 27 = .ok (.aload_n 0, 1) := by decide +kernel
theorem dX6_fault_28 : decode cX6_fault 28 = .ok (.getfield 33, 3) := by decide +kernel
theorem dX6_fault_31 : decode cX6_fault 31 = .ok (.getfield 228, 3) := by decide +kernel
theorem dX6_fault_34 : decode cX6_fault 34 = .ok (.astore_n 2, 1) := by decide +kernel
theorem dX6_fault_35 : decode cX6_fault 35 = .ok (.aload_n 2, 1) := by decide +kernel
theorem dX6_fault_36 : decode cX6_fault 36 = .ok (.getfield 232, 3) := by decide +kernel
theorem dX6_fault_39 : decode cX6_fault 39 = .ok (.ifCond .eq 16, 3) := by decide +kernel
theorem dX6_fault_42 : decode cX6_fault 42 = .ok (.iload_n 1, 1) := by decide +kernel
theorem dX6_fault_43 : decode cX6_fault 43 = .ok (.iconst 2, 1) := by decide +kernel
theorem dX6_fault_44 : decode cX6_fault 44 = .ok (.if_icmp .ne 14, 3) := by decide +kernel
theorem dX6_fault_47 : decode cX6_fault 47 = .ok (.aload_n 2, 1) := by decide +kernel
theorem dX6_fault_48 : decode cX6_fault 48 = .ok (.getfield 232, 3) := by decide +kernel
theorem dX6_fault_51 : decode cX6_fault 51 = .ok (.iconst 3, 1) := by decide +kernel
theorem dX6_fault_52 : decode cX6_fault 52 = .ok (.if_icmp .ne 6, 3) := by decide +kernel
theorem dX6_fault_55 : decode cX6_fault 55 = .ok (.ldc 116, 2) := by decide +kernel
theorem dX6_fault_57 : decode cX6_fault 57 = .ok (.ireturn, 1) := by decide +kernel
theorem dX6_fault_58 : decode cX6_fault 58 = .ok (.iload_n 1, 1) := by decide +kernel
theorem dX6_fault_59 : decode cX6_fault 59 = .ok (.lookupswitch 35 #[(0, 25), (1, 30)], 25) := by decide +kernel
theorem dX6_fault_84 : decode cX6_fault 84 = .ok (.aload_n 2, 1) := by decide +kernel
theorem dX6_fault_85 : decode cX6_fault 85 = .ok (.getfield 237, 3) := by decide +kernel
theorem dX6_fault_88 : decode cX6_fault 88 = .ok (.ireturn, 1) := by decide +kernel
theorem dX6_fault_89 : decode cX6_fault 89 = .ok (.aload_n 2, 1) := by decide +kernel
theorem dX6_fault_90 : decode cX6_fault 90 = .ok (.getfield 232, 3) := by decide +kernel
theorem dX6_fault_93 : decode cX6_fault 93 = .ok (.ireturn, 1) := by decide +kernel
theorem dX6_fault_94 : decode cX6_fault 94 = .ok (.aload_n 2, 1) := by decide +kernel
theorem dX6_fault_95 : decode cX6_fault 95 = .ok (.getfield 240, 3) := by decide +kernel
theorem dX6_fault_98 : decode cX6_fault 98 = .ok (.ireturn, 1) := by decide +kernel
set_option maxRecDepth 20000 in
theorem ggX6_play_X3_run : GoodIn wsX6_play wsX3_run := goodIn_r _ [14, 15, 16, 17, 18, 19, 20, 21, 22, 23, 24, 25, 26, 27, 28, 29, 30, 31, 32, 33, 34, 35, 36, 37, 38, 39, 40, 41, 42, 43, 44, 45, 46, 47, 48, 49, 50, 51, 52, 53, 54, 55, 56, 57, 58, 59, 60, 61, 62, 63, 64, 65, 66, 67, 68, 69, 70, 71, 72, 73, 74, 75, 76, 77, 78, 79, 80, 81, 82, 83, 84, 85, 86, 87, 88, 89, 90, 91, 92, 93, 94, 95, 96, 97, 98, 99, 100, 101, 102, 103, 104, 105, 106, 107, 108, 109, 110, 111, 112, 113, 114, 13, 115, 116, 117, 118, 119, 120, 121, 122, 123, 124, 125, 126, 127, 128, 129, 130, 131, 132, 133, 134, 135, 136, 137, 138, 139, 140, 141, 142, 143, 144, 145, 146, 147, 148, 149, 150, 151, 152, 153, 154, 155, 156, 157, 158, 159, 160, 161, 162, 163, 164, 165, 166, 167, 168, 169, 170, 171, 172, 173, 174, 175, 176, 177, 178, 179, 180, 181, 182, 183, 184, 185, 186, 187, 188, 189, 190, 191, 192, 193, 194, 195, 196, 197, 198, 199, 200, 201, 202, 203, 204, 205, 206, 207, 208, 209, 210, 211, 212, 213, 214, 215, 216, 217, 218, 219, 220, 221, 222, 223, 224, 225, 226, 227, 228, 229, 230, 231, 232, 233, 234, 235, 236, 237, 238, 239, 240, 241, 242, 243, 244, 245, 246, 247, 248, 249, 250, 269, 270, 271, 272, 273, 274, 275, 276, 277, 278, 279, 280, 281, 282, 283, 284, 285, 286, 287, 288, 289, 290, 291, 292, 293, 294, 295, 296, 297, 298, 299, 300, 301, 302, 303, 304] (by decide +kernel) (by decide +kernel)
set_option maxRecDepth 20000 in
theorem gX6_play_X3_run : GoodIn wsX6_play (wsV RX6 224 RX3 yX3_run wsX3_run) := goodIn_app (goodIn_of _ (by decide +kernel)) ggX6_play_X3_run
set_option maxRecDepth 20000 in
theorem ggX6_play_X1_keep : GoodIn wsX6_play wsX1_keep := goodIn_r _ [255, 256, 257, 258, 259, 260, 254, 261, 95, 55, 96, 262, 22, 23, 24, 25, 26, 27, 28, 29, 30, 31, 32, 33, 34, 35, 36, 37, 38, 39, 40, 41, 42, 43, 44, 45, 46, 47, 48, 49, 50, 51, 52, 53, 54, 56, 57, 58, 59, 60, 61, 62, 63, 64, 305, 306, 281, 282, 283, 284, 285, 286, 287, 288, 289, 290, 291, 292, 293, 294, 295, 296, 297, 298, 299, 300, 301, 302, 303, 304] (by decide +kernel) (by decide +kernel)
set_option maxRecDepth 20000 in
theorem gX6_play_X1_keep : GoodIn wsX6_play (wsV RX6 49 RX1 yX1_keep wsX1_keep) := goodIn_app (goodIn_of _ (by decide +kernel)) ggX6_play_X1_keep
set_option maxRecDepth 20000 in
theorem ggX6_play_X4_copy : GoodIn wsX6_play wsX4_copy := goodIn_r _ [24, 25, 26, 27, 28, 29, 30, 31, 32, 33, 34, 35, 36, 37, 38, 39, 40, 41, 42, 43, 44, 45, 46, 47, 48, 49, 50, 51, 52, 53, 54, 55, 56, 57, 58, 59, 60, 61, 62, 63, 64, 281, 282, 283, 284, 285, 286, 287, 288, 289, 290, 291, 292, 293, 294, 295, 296, 297, 298, 299, 300, 301, 302, 303, 304] (by decide +kernel) (by decide +kernel)
set_option maxRecDepth 20000 in
theorem gX6_play_X4_copy : GoodIn wsX6_play (va_wsS RX6 246 yX4_copy wsX4_copy) := goodIn_app (goodIn_of _ (by decide +kernel)) ggX6_play_X4_copy
theorem dX6_play_0 : decode cX6_play 0 = .ok (.aload_n 0, 1) := by decide +kernel
theorem dX6_play_1 : decode cX6_play 1 = .ok (.getfield 33, 3) := by decide +kernel
theorem dX6_play_4 : decode cX6_play 4 = .ok (.aload_n 0, 1) := by decide +kernel
theorem dX6_play_5 : decode cX6_play 5 = .ok (.getfield 26, 3) := by decide +kernel
theorem dX6_play_8 : decode cX6_play 8 = .ok (.aload_n 0, 1) := by decide +kernel
theorem dX6_play_9 : decode cX6_play 9 = .ok (.getfield 10, 3) := by decide +kernel
theorem dX6_play_12 : decode cX6_play 12 = .ok (.invokevirtual 224, 3) := by decide +kernel
theorem dX6_play_15 : decode cX6_play 15 = .ok (.aload_n 0, 1) := by decide +kernel
theorem dX6_play_16 : decode cX6_play 16 = .ok (.getfield 33, 3) := by decide +kernel
theorem dX6_play_19 : decode cX6_play 19 = .ok (.getfield 228, 3) := by decide +kernel
theorem dX6_play_22 : decode cX6_play 22 = .ok (.getfield 232, 3) := by decide +kernel
theorem dX6_play_25 : decode cX6_play 25 = .ok (.ifCond .eq 6, 3) := by decide +kernel
theorem dX6_play_28 : decode cX6_play 28 = .ok (.ldc 72, 2) := by decide +kernel
theorem dX6_play_30 : decode cX6_play 30 = .ok (.ireturn, 1) := by decide +kernel
theorem dX6_play_31 : decode cX6_play 31 = .ok (.aload_n 0, 1) := by decide +kernel
theorem dX6_play_32 : decode cX6_play 32 = .ok (.getfield 19, 3) := by decide +kernel
theorem dX6_play_35 : decode cX6_play 35 = .ok (.aload_n 0, 1) := by decide +kernel
theorem dX6_play_36 : decode cX6_play 36 = .ok (.getfield 10, 3) := by decide +kernel
theorem dX6_play_39 : decode cX6_play 39 = .ok (.invokevirtual 49, 3) := by decide +kernel
theorem dX6_play_42 : decode cX6_play 42 = .ok (.aload_n 0, 1) := by decide +kernel
theorem dX6_play_43 : decode cX6_play 43 = .ok (.getfield 33, 3) := by decide +kernel
theorem dX6_play_46 : decode cX6_play 46 = .ok (.getfield 243, 3) := by decide +kernel
theorem dX6_play_49 : decode cX6_play 49 = .ok (.aload_n 0, 1) := by decide +kernel
theorem dX6_play_50 : decode cX6_play 50 = .ok (.getfield 10, 3) := by decide +kernel
theorem dX6_play_53 : decode cX6_play 53 = .ok (.invokestatic 246, 3) := by decide +kernel
theorem dX6_play_56 : decode cX6_play 56 = .ok (.aload_n 0, 1) := by decide +kernel
theorem dX6_play_57 : decode cX6_play 57 = .ok (.getfield 33, 3) := by decide +kernel
theorem dX6_play_60 : decode cX6_play 60 = .ok (.getfield 250, 3) := by decide +kernel
theorem dX6_play_63 : decode cX6_play 63 = .ok (.ireturn, 1) := by decide +kernel
theorem dX6_isWithin_0 : decode cX6_isWithin 0 = .ok (.iload_n 0, 1) := by decide +kernel
theorem dX6_isWithin_1 : decode cX6_isWithin 1 = .ok (.iload_n 1, 1) := by decide +kernel
theorem dX6_isWithin_2 : decode cX6_isWithin 2 = .ok (.if_icmp .lt 12, 3) := by decide +kernel
theorem dX6_isWithin_5 : decode cX6_isWithin 5 = .ok (.iload_n 0, 1) := by decide +kernel
theorem dX6_isWithin_6 : decode cX6_isWithin 6 = .ok (.iload_n 2, 1) := by decide +kernel
theorem dX6_isWithin_7 : decode cX6_isWithin 7 = .ok (.if_icmp .gt 7, 3) := by decide +kernel
theorem dX6_isWithin_10 : decode cX6_isWithin 10 = .ok (.iconst 1, 1) := by decide +kernel
theorem dX6_isWithin_11 : decode cX6_isWithin 11 = .ok (.goto 4, 3) := by decide +kernel
theorem dX6_isWithin_14 : decode cX6_isWithin 14 = .ok (.iconst 0, 1) := by decide +kernel
theorem dX6_isWithin_15 : decode cX6_isWithin 15 = .ok (.ireturn, 1) := by decide +kernel
theorem dX6_isPlace_0 : decode cX6_isPlace 0 = .ok (.iload_n 0, 1) := by decide +kernel
theorem dX6_isPlace_1 : decode cX6_isPlace 1 = .ok (.ifCond .lt 13, 3) := by decide +kernel
theorem dX6_isPlace_4 : decode cX6_isPlace 4 = .ok (.iload_n 0, 1) := by decide +kernel
theorem dX6_isPlace_5 : decode cX6_isPlace 5 = .ok (.bipush 64, 2) := by decide +kernel
theorem dX6_isPlace_7 : decode cX6_isPlace 7 = .ok (.if_icmp .ge 7, 3) := by decide +kernel
theorem dX6_isPlace_10 : decode cX6_isPlace 10 = .ok (.iconst 1, 1) := by decide +kernel
theorem dX6_isPlace_11 : decode cX6_isPlace 11 = .ok (.goto 4, 3) := by decide +kernel
theorem dX6_isPlace_14 : decode cX6_isPlace 14 = .ok (.iconst 0, 1) := by decide +kernel
theorem dX6_isPlace_15 : decode cX6_isPlace 15 = .ok (.ireturn, 1) := by decide +kernel
theorem dX6_isLine_0 : decode cX6_isLine 0 = .ok (.iload_n 0, 1) := by decide +kernel
theorem dX6_isLine_1 : decode cX6_isLine 1 = .ok (.ifCond .lt 13, 3) := by decide +kernel
theorem dX6_isLine_4 : decode cX6_isLine 4 = .ok (.iload_n 0, 1) := by decide +kernel
theorem dX6_isLine_5 : decode cX6_isLine 5 = .ok (.bipush 8, 2) := by decide +kernel
theorem dX6_isLine_7 : decode cX6_isLine 7 = .ok (.if_icmp .ge 7, 3) := by decide +kernel
theorem dX6_isLine_10 : decode cX6_isLine 10 = .ok (.iconst 1, 1) := by decide +kernel
theorem dX6_isLine_11 : decode cX6_isLine 11 = .ok (.goto 4, 3) := by decide +kernel
theorem dX6_isLine_14 : decode cX6_isLine 14 = .ok (.iconst 0, 1) := by decide +kernel
theorem dX6_isLine_15 : decode cX6_isLine 15 = .ok (.ireturn, 1) := by decide +kernel
theorem dX6_isSetting_0 : decode cX6_isSetting 0 = .ok (.iload_n 0, 1) := by decide +kernel
theorem dX6_isSetting_1 : decode cX6_isSetting 1 = .ok (.ifCond .lt 12, 3) := by decide +kernel
theorem dX6_isSetting_4 : decode cX6_isSetting 4 = .ok (.iload_n 0, 1) := by decide +kernel
theorem dX6_isSetting_5 : decode cX6_isSetting 5 = .ok (.iconst 4, 1) := by decide +kernel
theorem dX6_isSetting_6 : decode cX6_isSetting 6 = .ok (.if_icmp .ge 7, 3) := by decide +kernel
theorem dX6_isSetting_9 : decode cX6_isSetting 9 = .ok (.iconst 1, 1) := by decide +kernel
theorem dX6_isSetting_10 : decode cX6_isSetting 10 = .ok (.goto 4, 3) := by decide +kernel
theorem dX6_isSetting_13 : decode cX6_isSetting 13 = .ok (.iconst 0, 1) := by decide +kernel
theorem dX6_isSetting_14 : decode cX6_isSetting 14 = .ok (.ireturn, 1) := by decide +kernel
theorem dX6_copyRow_0 : decode cX6_copyRow 0 = .ok (.aload_n 0, 1) := by decide +kernel
theorem dX6_copyRow_1 : decode cX6_copyRow 1 = .ok (.iconst 0, 1) := by decide +kernel
theorem dX6_copyRow_2 : decode cX6_copyRow 2 = .ok (.aload_n 1, 1) := by decide +kernel
theorem dX6_copyRow_3 : decode cX6_copyRow 3 = .ok (.iconst 0, 1) := by decide +kernel
theorem dX6_copyRow_4 : decode cX6_copyRow 4 = .ok (.aload_n 0, 1) := by decide +kernel
theorem dX6_copyRow_5 : decode cX6_copyRow 5 = .ok (.arraylength, 1) := by decide +kernel
theorem dX6_copyRow_6 : decode cX6_copyRow 6 = .ok (.aload_n 1, 1) := by decide +kernel
theorem dX6_copyRow_7 : decode cX6_copyRow 7 = .ok (.arraylength, 1) := by decide +kernel
theorem dX6_copyRow_8 : decode cX6_copyRow 8 = .ok (.invokestatic 253, 3) := by decide +kernel
theorem dX6_copyRow_11 : decode cX6_copyRow 11 = .ok (.invokestatic 256, 3) := by decide +kernel
theorem dX6_copyRow_14 : decode cX6_copyRow 14 = .ok (.return_, 1) := by decide +kernel
theorem dX7_init_0 : decode cX7_init 0 = .ok (.aload_n 0, 1) := by decide +kernel
theorem dX7_init_1 : decode cX7_init 1 = .ok (.invokespecial 1, 3) := by decide +kernel
theorem dX7_init_4 : decode cX7_init 4 = .ok (.aload_n 0, 1) := by decide +kernel
theorem dX7_init_5 : decode cX7_init 5 = .ok (.sipush 180, 3) := by decide +kernel
theorem dX7_init_8 : decode cX7_init 8 = .ok (.newarray .int, 2) := by decide +kernel
theorem dX7_init_10 : decode cX7_init 10 = .ok (.putfield 7, 3) := by decide +kernel
theorem dX7_init_13 : decode cX7_init 13 = .ok (.aload_n 0, 1) := by decide +kernel
theorem dX7_init_14 : decode cX7_init 14 = .ok (.sipush 180, 3) := by decide +kernel
theorem dX7_init_17 : decode cX7_init 17 = .ok (.newarray .int, 2) := by decide +kernel
theorem dX7_init_19 : decode cX7_init 19 = .ok (.putfield 13, 3) := by decide +kernel
theorem dX7_init_22 : decode cX7_init 22 = .ok (.aload_n 0, 1) := by decide +kernel
theorem dX7_init_23 : decode cX7_init 23 = .ok (.sipush 720, 3) := by decide +kernel
theorem dX7_init_26 : decode cX7_init 26 = .ok (.newarray .int, 2) := by decide +kernel
theorem dX7_init_28 : decode cX7_init 28 = .ok (.putfield 16, 3) := by decide +kernel
theorem dX7_init_31 : decode cX7_init 31 = .ok (.aload_n 0, 1) := by decide +kernel
theorem dX7_init_32 : decode cX7_init 32 = .ok (.bipush 60, 2) := by decide +kernel
theorem dX7_init_34 : decode cX7_init 34 = .ok (.newarray .int, 2) := by decide +kernel
theorem dX7_init_36 : decode cX7_init 36 = .ok (.putfield 19, 3) := by decide +kernel
theorem dX7_init_39 : decode cX7_init 39 = .ok (.aload_n 0, 1) := by decide +kernel
theorem dX7_init_40 : decode cX7_init 40 = .ok (.getfield 7, 3) := by decide +kernel
theorem dX7_init_43 : decode cX7_init 43 = .ok (.sipush 160, 3) := by decide +kernel
theorem dX7_init_46 : decode cX7_init 46 = .ok (.sipush 1000, 3) := by decide +kernel
theorem dX7_init_49 : decode cX7_init 49 = .ok (.iastore, 1) := by decide +kernel
theorem dX7_init_50 : decode cX7_init 50 = .ok (.aload_n 0, 1) := by decide +kernel
theorem dX7_init_51 : decode cX7_init 51 = .ok (.getfield 7, 3) := by decide +kernel
theorem dX7_init_54 : decode cX7_init 54 = .ok (.sipush 163, 3) := by decide +kernel
theorem dX7_init_57 : decode cX7_init 57 = .ok (.iconst 1, 1) := by decide +kernel
theorem dX7_init_58 : decode cX7_init 58 = .ok (.iastore, 1) := by decide +kernel
theorem dX7_init_59 : decode cX7_init 59 = .ok (.aload_n 0, 1) := by decide +kernel
theorem dX7_init_60 : decode cX7_init 60 = .ok (.getfield 7, 3) := by decide +kernel
theorem dX7_init_63 : decode cX7_init 63 = .ok (.sipush 174, 3) := by decide +kernel
theorem dX7_init_66 : decode cX7_init 66 = .ok (.bipush 100, 2) := by decide +kernel
theorem dX7_init_68 : decode cX7_init 68 = .ok (.iastore, 1) := by decide +kernel
theorem dX7_init_69 : decode cX7_init 69 = .ok (.aload_n 0, 1) := by decide +kernel
theorem dX7_init_70 : decode cX7_init 70 = .ok (.getfield 7, 3) := by decide +kernel
theorem dX7_init_73 : decode cX7_init 73 = .ok (.sipush 175, 3) := by decide +kernel
theorem dX7_init_76 : decode cX7_init 76 = .ok (.bipush 100, 2) := by decide +kernel
theorem dX7_init_78 : decode cX7_init 78 = .ok (.iastore, 1) := by decide +kernel
theorem dX7_init_79 : decode cX7_init 79 = .ok (.aload_n 0, 1) := by decide +kernel
theorem dX7_init_80 : decode cX7_init 80 = .ok (.getfield 7, 3) := by decide +kernel
theorem dX7_init_83 : decode cX7_init 83 = .ok (.sipush 176, 3) := by decide +kernel
theorem dX7_init_86 : decode cX7_init 86 = .ok (.bipush 20, 2) := by decide +kernel
theorem dX7_init_88 : decode cX7_init 88 = .ok (.iastore, 1) := by decide +kernel
theorem dX7_init_89 : decode cX7_init 89 = .ok (.aload_n 0, 1) := by decide +kernel
theorem dX7_init_90 : decode cX7_init 90 = .ok (.getfield 7, 3) := by decide +kernel
theorem dX7_init_93 : decode cX7_init 93 = .ok (.sipush 177, 3) := by decide +kernel
theorem dX7_init_96 : decode cX7_init 96 = .ok (.sipush 200, 3) := by decide +kernel
theorem dX7_init_99 : decode cX7_init 99 = .ok (.iastore, 1) := by decide +kernel
theorem dX7_init_100 : decode cX7_init 100 = .ok (.return_, 1) := by decide +kernel
theorem dX7_in_0 : decode cX7_in 0 = .ok (.lload_n 0, 1) := by decide +kernel
theorem dX7_in_1 : decode cX7_in 1 = .ok (.lload_n 2, 1) := by decide +kernel
theorem dX7_in_2 : decode cX7_in 2 = .ok (.lcmp, 1) := by decide +kernel
theorem dX7_in_3 : decode cX7_in 3 = .ok (.ifCond .lt 14, 3) := by decide +kernel
theorem dX7_in_6 : decode cX7_in 6 = .ok (.lload_n 0, 1) := by decide +kernel
theorem dX7_in_7 : decode cX7_in 7 = .ok (.lload 4, 2) := by decide +kernel
theorem dX7_in_9 : decode cX7_in 9 = .ok (.lcmp, 1) := by decide +kernel
theorem dX7_in_10 : decode cX7_in 10 = .ok (.ifCond .gt 7, 3) := by decide +kernel
theorem dX7_in_13 : decode cX7_in 13 = .ok (.iconst 1, 1) := by decide +kernel
theorem dX7_in_14 : decode cX7_in 14 = .ok (.goto 4, 3) := by decide +kernel
theorem dX7_in_17 : decode cX7_in 17 = .ok (.iconst 0, 1) := by decide +kernel
theorem dX7_in_18 : decode cX7_in 18 = .ok (.ireturn, 1) := by decide +kernel
theorem dX7_keep_0 : decode cX7_keep 0 = .ok (.iconst 0, 1) := by decide +kernel
theorem dX7_keep_1 : decode cX7_keep 1 = .ok (.istore_n 1, 1) := by decide +kernel
theorem dX7_keep_2 : decode cX7_keep 2 = .ok (.iload_n 1, 1) := by decide +kernel
theorem dX7_keep_3 : decode cX7_keep 3 = .ok (.sipush 180, 3) := by decide +kernel
theorem dX7_keep_6 : decode cX7_keep 6 = .ok (.if_icmp .ge 21, 3) := by decide +kernel
theorem dX7_keep_9 : decode cX7_keep 9 = .ok (.aload_n 0, 1) := by decide +kernel
theorem dX7_keep_10 : decode cX7_keep 10 = .ok (.getfield 13, 3) := by decide +kernel
theorem dX7_keep_13 : decode cX7_keep 13 = .ok (.iload_n 1, 1) := by decide +kernel
theorem dX7_keep_14 : decode cX7_keep 14 = .ok (.aload_n 0, 1) := by decide +kernel
theorem dX7_keep_15 : decode cX7_keep 15 = .ok (.getfield 7, 3) := by decide +kernel
theorem dX7_keep_18 : decode cX7_keep 18 = .ok (.iload_n 1, 1) := by decide +kernel
theorem dX7_keep_19 : decode cX7_keep 19 = .ok (.iaload, 1) := by decide +kernel
theorem dX7_keep_20 : decode cX7_keep 20 = .ok (.iastore, 1) := by decide +kernel
theorem dX7_keep_21 : decode cX7_keep 21 = .ok (.iinc 1 1, 3) := by decide +kernel
theorem dX7_keep_24 : decode cX7_keep 24 = .ok (.goto (-22), 3) := by decide +kernel
theorem dX7_keep_27 : decode cX7_keep 27 = .ok (.return_, 1) := by decide +kernel
theorem dX7_giveBack_0 : decode cX7_giveBack 0 = .ok (.iconst 0, 1) := by decide +kernel
theorem dX7_giveBack_1 : decode cX7_giveBack 1 = .ok (.istore_n 1, 1) := by decide +kernel
theorem dX7_giveBack_2 : decode cX7_giveBack 2 = .ok (.iload_n 1, 1) := by decide +kernel
theorem dX7_giveBack_3 : decode cX7_giveBack 3 = .ok (.sipush 180, 3) := by decide +kernel
theorem dX7_giveBack_6 : decode cX7_giveBack 6 = .ok (.if_icmp .ge 21, 3) := by decide +kernel
theorem dX7_giveBack_9 : decode cX7_giveBack 9 = .ok (.aload_n 0, 1) := by decide +kernel
theorem dX7_giveBack_10 : decode cX7_giveBack 10 = .ok (.getfield 7, 3) := by decide +kernel
theorem dX7_giveBack_13 : decode cX7_giveBack 13 = .ok (.iload_n 1, 1) := by decide +kernel
theorem dX7_giveBack_14 : decode cX7_giveBack 14 = .ok (.aload_n 0, 1) := by decide +kernel
theorem dX7_giveBack_15 : decode cX7_giveBack 15 = .ok (.getfield 13, 3) := by decide +kernel
theorem dX7_giveBack_18 : decode cX7_giveBack 18 = .ok (.iload_n 1, 1) := by decide +kernel
theorem dX7_giveBack_19 : decode cX7_giveBack 19 = .ok (.iaload, 1) := by decide +kernel
theorem dX7_giveBack_20 : decode cX7_giveBack 20 = .ok (.iastore, 1) := by decide +kernel
theorem dX7_giveBack_21 : decode cX7_giveBack 21 = .ok (.iinc 1 1, 3) := by decide +kernel
theorem dX7_giveBack_24 : decode cX7_giveBack 24 = .ok (.goto (-22), 3) := by decide +kernel
theorem dX7_giveBack_27 : decode cX7_giveBack 27 = .ok (.return_, 1) := by decide +kernel
theorem dX7_changed_0 : decode cX7_changed 0 = .ok (.iload_n 1, 1) := by decide +kernel
theorem dX7_changed_1 : decode cX7_changed 1 = .ok (.ldc 22, 2) := by decide +kernel
theorem dX7_changed_3 : decode cX7_changed 3 = .ok (.if_icmp .ge 5, 3) := by decide +kernel
theorem dX7_changed_6 : decode cX7_changed 6 = .ok (.iload_n 1, 1) := by decide +kernel
theorem dX7_changed_7 : decode cX7_changed 7 = .ok (.ireturn, 1) := by decide +kernel
theorem dX7_changed_8 : decode cX7_changed 8 = .ok (.aload_n 0, 1) := by decide +kernel
theorem dX7_changed_9 : decode cX7_changed 9 = .ok (.getfield 23, 3) := by decide +kernel
theorem dX7_changed_12 : decode cX7_changed 12 = .ok (.iconst 4, 1) := by decide +kernel
theorem dX7_changed_13 : decode cX7_changed 13 = .ok (.if_icmp .ne 44, 3) := by decide +kernel
theorem dX7_changed_16 : decode cX7_changed 16 = .ok (.iconst 0, 1) := by decide +kernel
theorem dX7_changed_17 : decode cX7_changed 17 = .ok (.istore_n 2, 1) := by decide +kernel
theorem dX7_changed_18 : decode cX7_changed 18 = .ok (.iload_n 2, 1) := by decide +kernel
theorem dX7_changed_19 : decode cX7_changed 19 = .ok (.sipush 540, 3) := by decide +kernel
theorem dX7_changed_22 : decode cX7_changed 22 = .ok (.if_icmp .ge 25, 3) := by decide +kernel
theorem dX7_changed_25 : decode cX7_changed 25 = .ok (.aload_n 0, 1) := by decide +kernel
theorem dX7_changed_26 : decode cX7_changed 26 = .ok (.getfield 16, 3) := by decide +kernel
theorem dX7_changed_29 : decode cX7_changed 29 = .ok (.iload_n 2, 1) := by decide +kernel
theorem dX7_changed_30 : decode cX7_changed 30 = .ok (.aload_n 0, 1) := by decide +kernel
theorem dX7_changed_31 : decode cX7_changed 31 = .ok (.getfield 16, 3) := by decide +kernel
theorem dX7_changed_34 : decode cX7_changed 34 = .ok (.iload_n 2, 1) := by decide +kernel
theorem dX7_changed_35 : decode cX7_changed 35 = .ok (.sipush 180, 3) := by decide +kernel
theorem dX7_changed_38 : decode cX7_changed 38 = .ok (.iadd, 1) := by decide +kernel
theorem dX7_changed_39 : decode cX7_changed 39 = .ok (.iaload, 1) := by decide +kernel
theorem dX7_changed_40 : decode cX7_changed 40 = .ok (.iastore, 1) := by decide +kernel
theorem dX7_changed_41 : decode cX7_changed 41 = .ok (.iinc 2 1, 3) := by decide +kernel
theorem dX7_changed_44 : decode cX7_changed 44 = .ok (.goto (-26), 3) := by decide +kernel
theorem dX7_changed_47 : decode cX7_changed 47 = .ok (.aload_n 0, 1) := by decide +kernel
theorem dX7_changed_48 : decode cX7_changed 48 = .ok (.dup, 1) := by decide +kernel
theorem dX7_changed_49 : decode cX7_changed 49 = .ok (.getfield 23, 3) := by decide +kernel
theorem dX7_changed_52 : decode cX7_changed 52 = .ok (.iconst 1, 1) := by decide +kernel
theorem dX7_changed_53 : decode cX7_changed 53 = .ok (.isub, 1) := by decide +kernel
theorem dX7_changed_54 : decode cX7_changed 54 = .ok (.putfield 23, 3) := by decide +kernel
theorem dX7_changed_57 : decode cX7_changed 57 = .ok (.iconst 0, 1) := by decide +kernel
theorem dX7_changed_58 : decode cX7_changed 58 = .ok (.istore_n 2, 1) := by decide +kernel
theorem dX7_changed_59 : decode cX7_changed 59 = .ok (.iload_n 2, 1) := by decide +kernel
theorem dX7_changed_60 : decode cX7_changed 60 = .ok (.sipush 180, 3) := by decide +kernel
theorem dX7_changed_63 : decode cX7_changed 63 = .ok (.if_icmp .ge 30, 3) := by decide +kernel
theorem dX7_changed_66 : decode cX7_changed 66 = .ok (.aload_n 0, 1) := by decide +kernel
theorem dX7_changed_67 : decode cX7_changed 67 = .ok (.getfield 16, 3) := by decide +kernel
theorem dX7_changed_70 : decode cX7_changed 70 = .ok (.sipush 180, 3) := by decide +kernel
theorem dX7_changed_73 : decode cX7_changed 73 = .ok (.aload_n 0, 1) := by decide +kernel
theorem dX7_changed_74 : decode cX7_changed 74 = .ok (.getfield 23, 3) := by decide +kernel
theorem dX7_changed_77 : decode cX7_changed 77 = .ok (.imul, 1) := by decide +kernel
theorem dX7_changed_78 : decode cX7_changed 78 = .ok (.iload_n 2, 1) := by decide +kernel
theorem dX7_changed_79 : decode cX7_changed 79 = .ok (.iadd, 1) := by decide +kernel
theorem dX7_changed_80 : decode cX7_changed 80 = .ok (.aload_n 0, 1) := by decide +kernel
theorem dX7_changed_81 : decode cX7_changed 81 = .ok (.getfield 13, 3) := by decide +kernel
theorem dX7_changed_84 : decode cX7_changed 84 = .ok (.iload_n 2, 1) := by decide +kernel
theorem dX7_changed_85 : decode cX7_changed 85 = .ok (.iaload, 1) := by decide +kernel
theorem dX7_changed_86 : decode cX7_changed 86 = .ok (.iastore, 1) := by decide +kernel
theorem dX7_changed_87 : decode cX7_changed 87 = .ok (.iinc 2 1, 3) := by decide +kernel
theorem dX7_changed_90 : decode cX7_changed 90 = .ok (.goto (-31), 3) := by decide +kernel
theorem dX7_changed_93 : decode cX7_changed 93 = .ok (.aload_n 0, 1) := by decide +kernel
theorem dX7_changed_94 : decode cX7_changed 94 = .ok (.dup, 1) := by decide +kernel
theorem dX7_changed_95 : decode cX7_changed 95 = .ok (.getfield 23, 3) := by decide +kernel
theorem dX7_changed_98 : decode cX7_changed 98 = .ok (.iconst 1, 1) := by decide +kernel
theorem dX7_changed_99 : decode cX7_changed 99 = .ok (.iadd, 1) := by decide +kernel
theorem dX7_changed_100 : decode cX7_changed 100 = .ok (.putfield 23, 3) := by decide +kernel
theorem dX7_changed_103 : decode cX7_changed 103 = .ok (.iload_n 1, 1) := by decide +kernel
theorem dX7_changed_104 : decode cX7_changed 104 = .ok (.ireturn, 1) := by decide +kernel
theorem dX7_counts_0 : decode cX7_counts 0 = .ok (.aload_n 0, 1) := by decide +kernel
theorem dX7_counts_1 : decode cX7_counts 1 = .ok (.getfield 7, 3) := by decide +kernel
theorem dX7_counts_4 : decode cX7_counts 4 = .ok (.sipush 164, 3) := by decide +kernel
theorem dX7_counts_7 : decode cX7_counts 7 = .ok (.iload_n 1, 1) := by decide +kernel
theorem dX7_counts_8 : decode cX7_counts 8 = .ok (.iadd, 1) := by decide +kernel
theorem dX7_counts_9 : decode cX7_counts 9 = .ok (.dup2, 1) := by decide +kernel
theorem dX7_counts_10 : decode cX7_counts 10 = .ok (.iaload, 1) := by decide +kernel
theorem dX7_counts_11 : decode cX7_counts 11 = .ok (.iconst 1, 1) := by decide +kernel
theorem dX7_counts_12 : decode cX7_counts 12 = .ok (.iadd, 1) := by decide +kernel
theorem dX7_counts_13 : decode cX7_counts 13 = .ok (.iastore, 1) := by decide +kernel
theorem dX7_counts_14 : decode cX7_counts 14 = .ok (.return_, 1) := by decide +kernel
theorem dX7_setting_0 : decode cX7_setting 0 = .ok (.aload_n 0, 1) := by decide +kernel
theorem dX7_setting_1 : decode cX7_setting 1 = .ok (.getfield 7, 3) := by decide +kernel
theorem dX7_setting_4 : decode cX7_setting 4 = .ok (.sipush 174, 3) := by decide +kernel
theorem dX7_setting_7 : decode cX7_setting 7 = .ok (.iload_n 1, 1) := by decide +kernel
theorem dX7_setting_8 : decode cX7_setting 8 = .ok (.iadd, 1) := by decide +kernel
theorem dX7_setting_9 : decode cX7_setting 9 = .ok (.iaload, 1) := by decide +kernel
theorem dX7_setting_10 : decode cX7_setting 10 = .ok (.ireturn, 1) := by decide +kernel
set_option maxRecDepth 20000 in
theorem ggX7_isPlace_X7_in : GoodIn wsX7_isPlace wsX7_in := goodIn_r _ [5] (by decide +kernel) (by decide +kernel)
set_option maxRecDepth 20000 in
theorem gX7_isPlace_X7_in : GoodIn wsX7_isPlace (va_wsS RX7 29 yX7_in wsX7_in) := goodIn_app (goodIn_of _ (by decide +kernel)) ggX7_isPlace_X7_in
theorem dX7_isPlace_0 : decode cX7_isPlace 0 = .ok (.iload_n 0, 1) := by decide +kernel
theorem dX7_isPlace_1 : decode cX7_isPlace 1 = .ok (.i2l, 1) := by decide +kernel
theorem dX7_isPlace_2 : decode cX7_isPlace 2 = .ok (.lconst 0, 1) := by decide +kernel
theorem dX7_isPlace_3 : decode cX7_isPlace 3 = .ok (.ldc2_w 27, 3) := by decide +kernel
theorem dX7_isPlace_6 : decode cX7_isPlace 6 = .ok (.invokestatic 29, 3) := by decide +kernel
theorem dX7_isPlace_9 : decode cX7_isPlace 9 = .ok (.ireturn, 1) := by decide +kernel
set_option maxRecDepth 20000 in
theorem ggX7_isLine_X7_in : GoodIn wsX7_isLine wsX7_in := goodIn_r _ [5] (by decide +kernel) (by decide +kernel)
set_option maxRecDepth 20000 in
theorem gX7_isLine_X7_in : GoodIn wsX7_isLine (va_wsS RX7 29 yX7_in wsX7_in) := goodIn_app (goodIn_of _ (by decide +kernel)) ggX7_isLine_X7_in
theorem dX7_isLine_0 : decode cX7_isLine 0 = .ok (.iload_n 0, 1) := by decide +kernel
theorem dX7_isLine_1 : decode cX7_isLine 1 = .ok (.i2l, 1) := by decide +kernel
theorem dX7_isLine_2 : decode cX7_isLine 2 = .ok (.lconst 0, 1) := by decide +kernel
theorem dX7_isLine_3 : decode cX7_isLine 3 = .ok (.ldc2_w 33, 3) := by decide +kernel
theorem dX7_isLine_6 : decode cX7_isLine 6 = .ok (.invokestatic 29, 3) := by decide +kernel
theorem dX7_isLine_9 : decode cX7_isLine 9 = .ok (.ireturn, 1) := by decide +kernel
theorem dX7_many_0 : decode cX7_many 0 = .ok (.iconst 0, 1) := by decide +kernel
theorem dX7_many_1 : decode cX7_many 1 = .ok (.istore_n 2, 1) := by decide +kernel
theorem dX7_many_2 : decode cX7_many 2 = .ok (.iconst 0, 1) := by decide +kernel
theorem dX7_many_3 : decode cX7_many 3 = .ok (.istore_n 3, 1) := by decide +kernel
theorem dX7_many_4 : decode cX7_many 4 = .ok (.iload_n 3, 1) := by decide +kernel
theorem dX7_many_5 : decode cX7_many 5 = .ok (.bipush 8, 2) := by decide +kernel
theorem dX7_many_7 : decode cX7_many 7 = .ok (.if_icmp .ge 31, 3) := by decide +kernel
theorem dX7_many_10 : decode cX7_many 10 = .ok (.iload_n 2, 1) := by decide +kernel
theorem dX7_many_11 : decode cX7_many 11 = .ok (.aload_n 0, 1) := by decide +kernel
theorem dX7_many_12 : decode cX7_many 12 = .ok (.getfield 7, 3) := by decide +kernel
theorem dX7_many_15 : decode cX7_many 15 = .ok (.sipush 128, 3) := by decide +kernel
theorem dX7_many_18 : decode cX7_many 18 = .ok (.iload_n 3, 1) := by decide +kernel
theorem dX7_many_19 : decode cX7_many 19 = .ok (.iadd, 1) := by decide +kernel
theorem dX7_many_20 : decode cX7_many 20 = .ok (.iaload, 1) := by decide +kernel
theorem dX7_many_21 : decode cX7_many 21 = .ok (.iload_n 1, 1) := by decide +kernel
theorem dX7_many_22 : decode cX7_many 22 = .ok (.if_icmp .ne 7, 3) := by decide +kernel
theorem dX7_many_25 : decode cX7_many 25 = .ok (.iconst 1, 1) := by decide +kernel
theorem dX7_many_26 : decode cX7_many 26 = .ok (.goto 4, 3) := by decide +kernel
theorem dX7_many_29 : decode cX7_many 29 = .ok (.iconst 0, 1) := by decide +kernel
theorem dX7_many_30 : decode cX7_many 30 = .ok (.iadd, 1) := by decide +kernel
theorem dX7_many_31 : decode cX7_many 31 = .ok (.istore_n 2, 1) := by decide +kernel
theorem dX7_many_32 : decode cX7_many 32 = .ok (.iinc 3 1, 3) := by decide +kernel
theorem dX7_many_35 : decode cX7_many 35 = .ok (.goto (-31), 3) := by decide +kernel
theorem dX7_many_38 : decode cX7_many 38 = .ok (.iload_n 2, 1) := by decide +kernel
theorem dX7_many_39 : decode cX7_many 39 = .ok (.ireturn, 1) := by decide +kernel
theorem dX7_oldest_0 : decode cX7_oldest 0 = .ok (.iconst (-1), 1) := by decide +kernel
theorem dX7_oldest_1 : decode cX7_oldest 1 = .ok (.istore_n 2, 1) := by decide +kernel
theorem dX7_oldest_2 : decode cX7_oldest 2 = .ok (.iconst 0, 1) := by decide +kernel
theorem dX7_oldest_3 : decode cX7_oldest 3 = .ok (.istore_n 3, 1) := by decide +kernel
theorem dX7_oldest_4 : decode cX7_oldest 4 = .ok (.iload_n 3, 1) := by decide +kernel
theorem dX7_oldest_5 : decode cX7_oldest 5 = .ok (.bipush 8, 2) := by decide +kernel
theorem dX7_oldest_7 : decode cX7_oldest 7 = .ok (.if_icmp .ge 57, 3) := by decide +kernel
theorem dX7_oldest_10 : decode cX7_oldest 10 = .ok (.aload_n 0, 1) := by decide +kernel
theorem dX7_oldest_11 : decode cX7_oldest 11 = .ok (.getfield 7, 3) := by decide +kernel
theorem dX7_oldest_14 : decode cX7_oldest 14 = .ok (.sipush 128, 3) := by decide +kernel
theorem dX7_oldest_17 : decode cX7_oldest 17 = .ok (.iload_n 3, 1) := by decide +kernel
theorem dX7_oldest_18 : decode cX7_oldest 18 = .ok (.iadd, 1) := by decide +kernel
theorem dX7_oldest_19 : decode cX7_oldest 19 = .ok (.iaload, 1) := by decide +kernel
theorem dX7_oldest_20 : decode cX7_oldest 20 = .ok (.iload_n 1, 1) := by decide +kernel
theorem dX7_oldest_21 : decode cX7_oldest 21 = .ok (.if_icmp .ne 35, 3) := by decide +kernel
theorem dX7_oldest_24 : decode cX7_oldest 24 = .ok (.iload_n 2, 1) := by decide +kernel
theorem dX7_oldest_25 : decode cX7_oldest 25 = .ok (.iconst (-1), 1) := by decide +kernel
theorem dX7_oldest_26 : decode cX7_oldest 26 = .ok (.if_icmp .eq 26, 3) := by decide +kernel
theorem dX7_oldest_29 : decode cX7_oldest 29 = .ok (.aload_n 0, 1) := by decide +kernel
theorem dX7_oldest_30 : decode cX7_oldest 30 = .ok (.getfield 7, 3) := by decide +kernel
theorem dX7_oldest_33 : decode cX7_oldest 33 = .ok (.sipush 152, 3) := by decide +kernel
theorem dX7_oldest_36 : decode cX7_oldest 36 = .ok (.iload_n 3, 1) := by decide +kernel
theorem dX7_oldest_37 : decode cX7_oldest 37 = .ok (.iadd, 1) := by decide +kernel
theorem dX7_oldest_38 : decode cX7_oldest 38 = .ok (.iaload, 1) := by decide +kernel
theorem dX7_oldest_39 : decode cX7_oldest 39 = .ok (.aload_n 0, 1) := by decide +kernel
theorem dX7_oldest_40 : decode cX7_oldest 40 = .ok (.getfield 7, 3) := by decide +kernel
theorem dX7_oldest_43 : decode cX7_oldest 43 = .ok (.sipush 152, 3) := by decide +kernel
theorem dX7_oldest_46 : decode cX7_oldest 46 = .ok (.iload_n 2, 1) := by decide +kernel
theorem dX7_oldest_47 : decode cX7_oldest 47 = .ok (.iadd, 1) := by decide +kernel
theorem dX7_oldest_48 : decode cX7_oldest 48 = .ok (.iaload, 1) := by decide +kernel
theorem dX7_oldest_49 : decode cX7_oldest 49 = .ok (.if_icmp .ge 7, 3) := by decide +kernel
theorem dX7_oldest_52 : decode cX7_oldest 52 = .ok (.iload_n 3, 1) := by decide +kernel
theorem dX7_oldest_53 : decode cX7_oldest 53 = .ok (.goto 4, 3) := by decide +kernel
theorem dX7_oldest_56 : decode cX7_oldest 56 = .ok (.iload_n 2, 1) := by decide +kernel
theorem dX7_oldest_57 : decode cX7_oldest 57 = .ok (.istore_n 2, 1) := by decide +kernel
theorem dX7_oldest_58 : decode cX7_oldest 58 = .ok (.iinc 3 1, 3) := by decide +kernel
theorem dX7_oldest_61 : decode cX7_oldest 61 = .ok (.goto (-57), 3) := by decide +kernel
theorem dX7_oldest_64 : decode cX7_oldest 64 = .ok (.iload_n 2, 1) := by decide +kernel
theorem dX7_oldest_65 : decode cX7_oldest 65 = .ok (.ireturn, 1) := by decide +kernel
theorem dX7_holder_0 : decode cX7_holder 0 = .ok (.iconst 0, 1) := by decide +kernel
theorem dX7_holder_1 : decode cX7_holder 1 = .ok (.istore_n 2, 1) := by decide +kernel
theorem dX7_holder_2 : decode cX7_holder 2 = .ok (.iload_n 2, 1) := by decide +kernel
theorem dX7_holder_3 : decode cX7_holder 3 = .ok (.bipush 8, 2) := by decide +kernel
theorem dX7_holder_5 : decode cX7_holder 5 = .ok (.if_icmp .ge 38, 3) := by decide +kernel
theorem dX7_holder_8 : decode cX7_holder 8 = .ok (.aload_n 0, 1) := by decide +kernel
theorem dX7_holder_9 : decode cX7_holder 9 = .ok (.getfield 7, 3) := by decide +kernel
theorem dX7_holder_12 : decode cX7_holder 12 = .ok (.sipush 128, 3) := by decide +kernel
theorem dX7_holder_15 : decode cX7_holder 15 = .ok (.iload_n 2, 1) := by decide +kernel
theorem dX7_holder_16 : decode cX7_holder 16 = .ok (.iadd, 1) := by decide +kernel
theorem dX7_holder_17 : decode cX7_holder 17 = .ok (.iaload, 1) := by decide +kernel
theorem dX7_holder_18 : decode cX7_holder 18 = .ok (.ifCond .eq 19, 3) := by decide +kernel
theorem dX7_holder_21 : decode cX7_holder 21 = .ok (.aload_n 0, 1) := by decide +kernel
theorem dX7_holder_22 : decode cX7_holder 22 = .ok (.getfield 7, 3) := by decide +kernel
theorem dX7_holder_25 : decode cX7_holder 25 = .ok (.sipush 136, 3) := by decide +kernel
theorem dX7_holder_28 : decode cX7_holder 28 = .ok (.iload_n 2, 1) := by decide +kernel
theorem dX7_holder_29 : decode cX7_holder 29 = .ok (.iadd, 1) := by decide +kernel
theorem dX7_holder_30 : decode cX7_holder 30 = .ok (.iaload, 1) := by decide +kernel
theorem dX7_holder_31 : decode cX7_holder 31 = .ok (.iload_n 1, 1) := by decide +kernel
theorem dX7_holder_32 : decode cX7_holder 32 = .ok (.if_icmp .ne 5, 3) := by decide +kernel
theorem dX7_holder_35 : decode cX7_holder 35 = .ok (.iload_n 2, 1) := by decide +kernel
theorem dX7_holder_36 : decode cX7_holder 36 = .ok (.ireturn, 1) := by decide +kernel
theorem dX7_holder_37 : decode cX7_holder 37 = .ok (.iinc 2 1, 3) := by decide +kernel
theorem dX7_holder_40 : decode cX7_holder 40 = .ok (.goto (-38), 3) := by decide +kernel
theorem dX7_holder_43 : decode cX7_holder 43 = .ok (.iconst (-1), 1) := by decide +kernel
theorem dX7_holder_44 : decode cX7_holder 44 = .ok (.ireturn, 1) := by decide +kernel
set_option maxRecDepth 20000 in
theorem ggX7_lays_X7_counts : GoodIn wsX7_lays wsX7_counts := goodIn_r _ [6, 1, 7, 8, 9, 10, 11, 12, 13, 14, 15, 16, 17, 18, 19, 20] (by decide +kernel) (by decide +kernel)
set_option maxRecDepth 20000 in
theorem gX7_lays_X7_counts : GoodIn wsX7_lays (wsV RX7 35 RX7 yX7_counts wsX7_counts) := goodIn_app (goodIn_of _ (by decide +kernel)) ggX7_lays_X7_counts
theorem dX7_lays_0 : decode cX7_lays 0 = .ok (.aload_n 0, 1) := by decide +kernel
theorem dX7_lays_1 : decode cX7_lays 1 = .ok (.getfield 7, 3) := by decide +kernel
theorem dX7_lays_4 : decode cX7_lays 4 = .ok (.iconst 0, 1) := by decide +kernel
theorem dX7_lays_5 : decode cX7_lays 5 = .ok (.iload_n 1, 1) := by decide +kernel
theorem dX7_lays_6 : decode cX7_lays 6 = .ok (.iadd, 1) := by decide +kernel
theorem dX7_lays_7 : decode cX7_lays 7 = .ok (.iload_n 2, 1) := by decide +kernel
theorem dX7_lays_8 : decode cX7_lays 8 = .ok (.iastore, 1) := by decide +kernel
theorem dX7_lays_9 : decode cX7_lays 9 = .ok (.aload_n 0, 1) := by decide +kernel
theorem dX7_lays_10 : decode cX7_lays 10 = .ok (.getfield 7, 3) := by decide +kernel
theorem dX7_lays_13 : decode cX7_lays 13 = .ok (.bipush 64, 2) := by decide +kernel
theorem dX7_lays_15 : decode cX7_lays 15 = .ok (.iload_n 1, 1) := by decide +kernel
theorem dX7_lays_16 : decode cX7_lays 16 = .ok (.iadd, 1) := by decide +kernel
theorem dX7_lays_17 : decode cX7_lays 17 = .ok (.dup2, 1) := by decide +kernel
theorem dX7_lays_18 : decode cX7_lays 18 = .ok (.iaload, 1) := by decide +kernel
theorem dX7_lays_19 : decode cX7_lays 19 = .ok (.iconst 1, 1) := by decide +kernel
theorem dX7_lays_20 : decode cX7_lays 20 = .ok (.iadd, 1) := by decide +kernel
theorem dX7_lays_21 : decode cX7_lays 21 = .ok (.iastore, 1) := by decide +kernel
theorem dX7_lays_22 : decode cX7_lays 22 = .ok (.aload_n 0, 1) := by decide +kernel
theorem dX7_lays_23 : decode cX7_lays 23 = .ok (.bipush 8, 2) := by decide +kernel
theorem dX7_lays_25 : decode cX7_lays 25 = .ok (.invokevirtual 35, 3) := by decide +kernel
theorem dX7_lays_28 : decode cX7_lays 28 = .ok (.return_, 1) := by decide +kernel
set_option maxRecDepth 20000 in
theorem ggX7_flushes_X7_lays : GoodIn wsX7_flushes wsX7_lays := goodIn_r _ [6, 1, 7, 8, 9, 5, 10, 11, 12, 13, 14, 15, 16, 17, 18, 19, 20, 21, 22, 23, 24] (by decide +kernel) (by decide +kernel)
set_option maxRecDepth 20000 in
theorem gX7_flushes_X7_lays : GoodIn wsX7_flushes (wsV RX7 39 RX7 yX7_lays wsX7_lays) := goodIn_app (goodIn_of _ (by decide +kernel)) ggX7_flushes_X7_lays
set_option maxRecDepth 20000 in
theorem ggX7_flushes_X7_counts : GoodIn wsX7_flushes wsX7_counts := goodIn_r _ [10, 1, 11, 12, 13, 14, 15, 16, 17, 18, 19, 20, 21, 22, 23, 24] (by decide +kernel) (by decide +kernel)
set_option maxRecDepth 20000 in
theorem gX7_flushes_X7_counts : GoodIn wsX7_flushes (wsV RX7 35 RX7 yX7_counts wsX7_counts) := goodIn_app (goodIn_of _ (by decide +kernel)) ggX7_flushes_X7_counts
theorem dX7_flushes_0 : decode cX7_flushes 0 = .ok (.aload_n 0, 1) := by decide +kernel
theorem dX7_flushes_1 : decode cX7_flushes 1 = .ok (.aload_n 0, 1) := by decide +kernel
theorem dX7_flushes_2 : decode cX7_flushes 2 = .ok (.getfield 7, 3) := by decide +kernel
theorem dX7_flushes_5 : decode cX7_flushes 5 = .ok (.sipush 136, 3) := by decide +kernel
theorem dX7_flushes_8 : decode cX7_flushes 8 = .ok (.iload_n 1, 1) := by decide +kernel
theorem dX7_flushes_9 : decode cX7_flushes 9 = .ok (.iadd, 1) := by decide +kernel
theorem dX7_flushes_10 : decode cX7_flushes 10 = .ok (.iaload, 1) := by decide +kernel
theorem dX7_flushes_11 : decode cX7_flushes 11 = .ok (.aload_n 0, 1) := by decide +kernel
theorem dX7_flushes_12 : decode cX7_flushes 12 = .ok (.getfield 7, 3) := by decide +kernel
theorem dX7_flushes_15 : decode cX7_flushes 15 = .ok (.sipush 144, 3) := by decide +kernel
theorem dX7_flushes_18 : decode cX7_flushes 18 = .ok (.iload_n 1, 1) := by decide +kernel
theorem dX7_flushes_19 : decode cX7_flushes 19 = .ok (.iadd, 1) := by decide +kernel
theorem dX7_flushes_20 : decode cX7_flushes 20 = .ok (.iaload, 1) := by decide +kernel
theorem dX7_flushes_21 : decode cX7_flushes 21 = .ok (.invokevirtual 39, 3) := by decide +kernel
theorem dX7_flushes_24 : decode cX7_flushes 24 = .ok (.aload_n 0, 1) := by decide +kernel
theorem dX7_flushes_25 : decode cX7_flushes 25 = .ok (.getfield 7, 3) := by decide +kernel
theorem dX7_flushes_28 : decode cX7_flushes 28 = .ok (.sipush 128, 3) := by decide +kernel
theorem dX7_flushes_31 : decode cX7_flushes 31 = .ok (.iload_n 1, 1) := by decide +kernel
theorem dX7_flushes_32 : decode cX7_flushes 32 = .ok (.iadd, 1) := by decide +kernel
theorem dX7_flushes_33 : decode cX7_flushes 33 = .ok (.iconst 1, 1) := by decide +kernel
theorem dX7_flushes_34 : decode cX7_flushes 34 = .ok (.iastore, 1) := by decide +kernel
theorem dX7_flushes_35 : decode cX7_flushes 35 = .ok (.aload_n 0, 1) := by decide +kernel
theorem dX7_flushes_36 : decode cX7_flushes 36 = .ok (.iconst 3, 1) := by decide +kernel
theorem dX7_flushes_37 : decode cX7_flushes 37 = .ok (.invokevirtual 35, 3) := by decide +kernel
theorem dX7_flushes_40 : decode cX7_flushes 40 = .ok (.return_, 1) := by decide +kernel
set_option maxRecDepth 20000 in
theorem ggX7_allowance_X7_setting : GoodIn wsX7_allowance wsX7_setting := goodIn_r _ [6, 1, 7, 8, 9, 10, 11, 12, 13, 14, 15, 16, 17, 18, 19, 20] (by decide +kernel) (by decide +kernel)
set_option maxRecDepth 20000 in
theorem gX7_allowance_X7_setting : GoodIn wsX7_allowance (wsV RX7 43 RX7 yX7_setting wsX7_setting) := goodIn_app (goodIn_of _ (by decide +kernel)) ggX7_allowance_X7_setting
theorem dX7_allowance_0 : decode cX7_allowance 0 = .ok (.aload_n 0, 1) := by decide +kernel
theorem dX7_allowance_1 : decode cX7_allowance 1 = .ok (.getfield 7, 3) := by decide +kernel
theorem dX7_allowance_4 : decode cX7_allowance 4 = .ok (.sipush 162, 3) := by decide +kernel
theorem dX7_allowance_7 : decode cX7_allowance 7 = .ok (.iaload, 1) := by decide +kernel
theorem dX7_allowance_8 : decode cX7_allowance 8 = .ok (.ifCond .ne 19, 3) := by decide +kernel
theorem dX7_allowance_11 : decode cX7_allowance 11 = .ok (.aload_n 0, 1) := by decide +kernel
theorem dX7_allowance_12 : decode cX7_allowance 12 = .ok (.getfield 7, 3) := by decide +kernel
theorem dX7_allowance_15 : decode cX7_allowance 15 = .ok (.sipush 160, 3) := by decide +kernel
theorem dX7_allowance_18 : decode cX7_allowance 18 = .ok (.iaload, 1) := by decide +kernel
theorem dX7_allowance_19 : decode cX7_allowance 19 = .ok (.aload_n 0, 1) := by decide +kernel
theorem dX7_allowance_20 : decode cX7_allowance 20 = .ok (.iconst 1, 1) := by decide +kernel
theorem dX7_allowance_21 : decode cX7_allowance 21 = .ok (.invokevirtual 43, 3) := by decide +kernel
theorem dX7_allowance_24 : decode cX7_allowance 24 = .ok (.if_icmp .ge 5, 3) := by decide +kernel
theorem dX7_allowance_27 : decode cX7_allowance 27 = .ok (.iconst 0, 1) := by decide +kernel
theorem dX7_allowance_28 : decode cX7_allowance 28 = .ok (.ireturn, 1) := by decide +kernel
theorem dX7_allowance_29 : decode cX7_allowance 29 = .ok (.aload_n 0, 1) := by decide +kernel
theorem dX7_allowance_30 : decode cX7_allowance 30 = .ok (.getfield 7, 3) := by decide +kernel
theorem dX7_allowance_33 : decode cX7_allowance 33 = .ok (.sipush 160, 3) := by decide +kernel
theorem dX7_allowance_36 : decode cX7_allowance 36 = .ok (.iaload, 1) := by decide +kernel
theorem dX7_allowance_37 : decode cX7_allowance 37 = .ok (.aload_n 0, 1) := by decide +kernel
theorem dX7_allowance_38 : decode cX7_allowance 38 = .ok (.iconst 1, 1) := by decide +kernel
theorem dX7_allowance_39 : decode cX7_allowance 39 = .ok (.invokevirtual 43, 3) := by decide +kernel
theorem dX7_allowance_42 : decode cX7_allowance 42 = .ok (.isub, 1) := by decide +kernel
theorem dX7_allowance_43 : decode cX7_allowance 43 = .ok (.aload_n 0, 1) := by decide +kernel
theorem dX7_allowance_44 : decode cX7_allowance 44 = .ok (.iconst 0, 1) := by decide +kernel
theorem dX7_allowance_45 : decode cX7_allowance 45 = .ok (.invokevirtual 43, 3) := by decide +kernel
theorem dX7_allowance_48 : decode cX7_allowance 48 = .ok (.idiv, 1) := by decide +kernel
theorem dX7_allowance_49 : decode cX7_allowance 49 = .ok (.istore_n 1, 1) := by decide +kernel
theorem dX7_allowance_50 : decode cX7_allowance 50 = .ok (.iload_n 1, 1) := by decide +kernel
theorem dX7_allowance_51 : decode cX7_allowance 51 = .ok (.bipush 8, 2) := by decide +kernel
theorem dX7_allowance_53 : decode cX7_allowance 53 = .ok (.if_icmp .le 8, 3) := by decide +kernel
theorem dX7_allowance_56 : decode cX7_allowance 56 = .ok (.bipush 8, 2) := by decide +kernel
theorem dX7_allowance_58 : decode cX7_allowance 58 = .ok (.goto 4, 3) := by decide +kernel
theorem dX7_allowance_61 : decode cX7_allowance 61 = .ok (.iload_n 1, 1) := by decide +kernel
theorem dX7_allowance_62 : decode cX7_allowance 62 = .ok (.ireturn, 1) := by decide +kernel
set_option maxRecDepth 20000 in
theorem ggX7_flushesToo_X7_many : GoodIn wsX7_flushesToo wsX7_many := goodIn_r _ [5, 6, 31, 32, 33, 34, 35, 36, 37, 38, 39, 40, 41, 42, 43, 44] (by decide +kernel) (by decide +kernel)
set_option maxRecDepth 20000 in
theorem gX7_flushesToo_X7_many : GoodIn wsX7_flushesToo (wsV RX7 47 RX7 yX7_many wsX7_many) := goodIn_app (goodIn_of _ (by decide +kernel)) ggX7_flushesToo_X7_many
set_option maxRecDepth 20000 in
theorem ggX7_flushesToo_X7_allowance : GoodIn wsX7_flushesToo wsX7_allowance := goodIn_r _ [10, 6, 11, 12, 13, 4, 14, 31, 32, 33, 34, 35, 36, 37, 38, 39, 40, 41, 42, 43, 44] (by decide +kernel) (by decide +kernel)
set_option maxRecDepth 20000 in
theorem gX7_flushesToo_X7_allowance : GoodIn wsX7_flushesToo (wsV RX7 50 RX7 yX7_allowance wsX7_allowance) := goodIn_app (goodIn_of _ (by decide +kernel)) ggX7_flushesToo_X7_allowance
set_option maxRecDepth 20000 in
theorem ggX7_flushesToo_X7_oldest : GoodIn wsX7_flushesToo wsX7_oldest := goodIn_r _ [18, 6, 31, 32, 33, 34, 35, 36, 37, 38, 39, 40, 41, 42, 43, 44] (by decide +kernel) (by decide +kernel)
set_option maxRecDepth 20000 in
theorem gX7_flushesToo_X7_oldest : GoodIn wsX7_flushesToo (wsV RX7 54 RX7 yX7_oldest wsX7_oldest) := goodIn_app (goodIn_of _ (by decide +kernel)) ggX7_flushesToo_X7_oldest
set_option maxRecDepth 20000 in
theorem ggX7_flushesToo_X7_flushes : GoodIn wsX7_flushesToo wsX7_flushes := goodIn_r _ [22, 6, 23, 24, 25, 4, 26, 27, 28, 29, 30, 31, 32, 33, 34, 35, 36, 37, 38, 39, 40, 41, 42, 43, 44] (by decide +kernel) (by decide +kernel)
set_option maxRecDepth 20000 in
theorem gX7_flushesToo_X7_flushes : GoodIn wsX7_flushesToo (wsV RX7 57 RX7 yX7_flushes wsX7_flushes) := goodIn_app (goodIn_of _ (by decide +kernel)) ggX7_flushesToo_X7_flushes
theorem dX7_flushesToo_0 : decode cX7_flushesToo 0 = .ok (.iconst 0, 1) := by decide +kernel
theorem dX7_flushesToo_1 : decode cX7_flushesToo 1 = .ok (.istore_n 1, 1) := by decide +kernel
theorem dX7_flushesToo_2 : decode cX7_flushesToo 2 = .ok (.aload_n 0, 1) := by decide +kernel
theorem dX7_flushesToo_3 : decode cX7_flushesToo 3 = .ok (.iconst 2, 1) := by decide +kernel
theorem dX7_flushesToo_4 : decode cX7_flushesToo 4 = .ok (.invokevirtual 47, 3) := by decide +kernel
theorem dX7_flushesToo_7 : decode cX7_flushesToo 7 = .ok (.aload_n 0, 1) := by decide +kernel
theorem dX7_flushesToo_8 : decode cX7_flushesToo 8 = .ok (.invokevirtual 50, 3) := by decide +kernel
theorem dX7_flushesToo_11 : decode cX7_flushesToo 11 = .ok (.if_icmp .le 18, 3) := by decide +kernel
theorem dX7_flushesToo_14 : decode cX7_flushesToo 14 = .ok (.aload_n 0, 1) := by decide +kernel
theorem dX7_flushesToo_15 : decode cX7_flushesToo 15 = .ok (.aload_n 0, 1) := by decide +kernel
theorem dX7_flushesToo_16 : decode cX7_flushesToo 16 = .ok (.iconst 2, 1) := by decide +kernel
theorem dX7_flushesToo_17 : decode cX7_flushesToo 17 = .ok (.invokevirtual 54, 3) := by decide +kernel
theorem dX7_flushesToo_20 : decode cX7_flushesToo 20 = .ok (.invokevirtual 57, 3) := by decide +kernel
theorem dX7_flushesToo_23 : decode cX7_flushesToo 23 = .ok (.iinc 1 1, 3) := by decide +kernel
theorem dX7_flushesToo_26 : decode cX7_flushesToo 26 = .ok (.goto (-24), 3) := by decide +kernel
theorem dX7_flushesToo_29 : decode cX7_flushesToo 29 = .ok (.iload_n 1, 1) := by decide +kernel
theorem dX7_flushesToo_30 : decode cX7_flushesToo 30 = .ok (.ireturn, 1) := by decide +kernel
theorem dX7_turns_0 : decode cX7_turns 0 = .ok (.aload_n 0, 1) := by decide +kernel
theorem dX7_turns_1 : decode cX7_turns 1 = .ok (.getfield 7, 3) := by decide +kernel
theorem dX7_turns_4 : decode cX7_turns 4 = .ok (.sipush 152, 3) := by decide +kernel
theorem dX7_turns_7 : decode cX7_turns 7 = .ok (.iload_n 1, 1) := by decide +kernel
theorem dX7_turns_8 : decode cX7_turns 8 = .ok (.iadd, 1) := by decide +kernel
theorem dX7_turns_9 : decode cX7_turns 9 = .ok (.aload_n 0, 1) := by decide +kernel
theorem dX7_turns_10 : decode cX7_turns 10 = .ok (.getfield 7, 3) := by decide +kernel
theorem dX7_turns_13 : decode cX7_turns 13 = .ok (.sipush 163, 3) := by decide +kernel
theorem dX7_turns_16 : decode cX7_turns 16 = .ok (.iaload, 1) := by decide +kernel
theorem dX7_turns_17 : decode cX7_turns 17 = .ok (.iastore, 1) := by decide +kernel
theorem dX7_turns_18 : decode cX7_turns 18 = .ok (.aload_n 0, 1) := by decide +kernel
theorem dX7_turns_19 : decode cX7_turns 19 = .ok (.getfield 7, 3) := by decide +kernel
theorem dX7_turns_22 : decode cX7_turns 22 = .ok (.sipush 163, 3) := by decide +kernel
theorem dX7_turns_25 : decode cX7_turns 25 = .ok (.dup2, 1) := by decide +kernel
theorem dX7_turns_26 : decode cX7_turns 26 = .ok (.iaload, 1) := by decide +kernel
theorem dX7_turns_27 : decode cX7_turns 27 = .ok (.iconst 1, 1) := by decide +kernel
theorem dX7_turns_28 : decode cX7_turns 28 = .ok (.iadd, 1) := by decide +kernel
theorem dX7_turns_29 : decode cX7_turns 29 = .ok (.iastore, 1) := by decide +kernel
theorem dX7_turns_30 : decode cX7_turns 30 = .ok (.return_, 1) := by decide +kernel
set_option maxRecDepth 20000 in
theorem ggX7_touches_X7_holder : GoodIn wsX7_touches wsX7_holder := goodIn_r _ [6, 1, 27, 28, 29, 30, 31, 32, 33, 34, 35, 36, 37, 38, 39, 40] (by decide +kernel) (by decide +kernel)
set_option maxRecDepth 20000 in
theorem gX7_touches_X7_holder : GoodIn wsX7_touches (wsV RX7 60 RX7 yX7_holder wsX7_holder) := goodIn_app (goodIn_of _ (by decide +kernel)) ggX7_touches_X7_holder
set_option maxRecDepth 20000 in
theorem ggX7_touches_X7_counts : GoodIn wsX7_touches wsX7_counts := goodIn_r _ [10, 1, 27, 28, 29, 30, 31, 32, 33, 34, 35, 36, 37, 38, 39, 40] (by decide +kernel) (by decide +kernel)
set_option maxRecDepth 20000 in
theorem gX7_touches_X7_counts : GoodIn wsX7_touches (wsV RX7 35 RX7 yX7_counts wsX7_counts) := goodIn_app (goodIn_of _ (by decide +kernel)) ggX7_touches_X7_counts
set_option maxRecDepth 20000 in
theorem ggX7_touches_X7_oldest : GoodIn wsX7_touches wsX7_oldest := goodIn_r _ [14, 1, 27, 28, 29, 30, 31, 32, 33, 34, 35, 36, 37, 38, 39, 40] (by decide +kernel) (by decide +kernel)
set_option maxRecDepth 20000 in
theorem gX7_touches_X7_oldest : GoodIn wsX7_touches (wsV RX7 54 RX7 yX7_oldest wsX7_oldest) := goodIn_app (goodIn_of _ (by decide +kernel)) ggX7_touches_X7_oldest
set_option maxRecDepth 20000 in
theorem ggX7_touches_X7_flushes : GoodIn wsX7_touches wsX7_flushes := goodIn_r _ [18, 1, 19, 20, 21, 5, 22, 7, 8, 9, 10, 27, 28, 29, 30, 31, 32, 33, 34, 35, 36, 37, 38, 39, 40] (by decide +kernel) (by decide +kernel)
set_option maxRecDepth 20000 in
theorem gX7_touches_X7_flushes : GoodIn wsX7_touches (wsV RX7 57 RX7 yX7_flushes wsX7_flushes) := goodIn_app (goodIn_of _ (by decide +kernel)) ggX7_touches_X7_flushes
set_option maxRecDepth 20000 in
theorem ggX7_touches_X7_turns : GoodIn wsX7_touches wsX7_turns := goodIn_r _ [26, 1, 27, 28, 29, 30, 31, 32, 33, 34, 35, 36, 37, 38, 39, 40] (by decide +kernel) (by decide +kernel)
set_option maxRecDepth 20000 in
theorem gX7_touches_X7_turns : GoodIn wsX7_touches (wsV RX7 63 RX7 yX7_turns wsX7_turns) := goodIn_app (goodIn_of _ (by decide +kernel)) ggX7_touches_X7_turns
theorem dX7_touches_0 : decode cX7_touches 0 = .ok (.aload_n 0, 1) := by decide +kernel
theorem dX7_touches_1 : decode cX7_touches 1 = .ok (.iload_n 1, 1) := by decide +kernel
theorem dX7_touches_2 : decode cX7_touches 2 = .ok (.invokevirtual 60, 3) := by decide +kernel
theorem dX7_touches_5 : decode cX7_touches 5 = .ok (.istore_n 2, 1) := by decide +kernel
theorem dX7_touches_6 : decode cX7_touches 6 = .ok (.aload_n 0, 1) := by decide +kernel
theorem dX7_touches_7 : decode cX7_touches 7 = .ok (.iload_n 2, 1) := by decide +kernel
theorem dX7_touches_8 : decode cX7_touches 8 = .ok (.iconst (-1), 1) := by decide +kernel
theorem dX7_touches_9 : decode cX7_touches 9 = .ok (.if_icmp .ne 7, 3) := by decide +kernel
theorem dX7_touches_12 : decode cX7_touches 12 = .ok (.iconst 2, 1) := by decide +kernel
theorem dX7_touches_13 : decode cX7_touches 13 = .ok (.goto 4, 3) := by decide +kernel
theorem dX7_touches_16 : decode cX7_touches 16 = .ok (.iconst 1, 1) := by decide +kernel
theorem dX7_touches_17 : decode cX7_touches 17 = .ok (.invokevirtual 35, 3) := by decide +kernel
theorem dX7_touches_20 : decode cX7_touches 20 = .ok (.iload_n 2, 1) := by decide +kernel
theorem dX7_touches_21 : decode cX7_touches 21 = .ok (.iconst (-1), 1) := by decide +kernel
theorem dX7_touches_22 : decode cX7_touches 22 = .ok (.if_icmp .ne 102, 3) := by decide +kernel
theorem dX7_touches_25 : decode cX7_touches 25 = .ok (.iconst 0, 1) := by decide +kernel
theorem dX7_touches_26 : decode cX7_touches 26 = .ok (.istore_n 2, 1) := by decide +kernel
theorem dX7_touches_27 : decode cX7_touches 27 = .ok (.iload_n 2, 1) := by decide +kernel
theorem dX7_touches_28 : decode cX7_touches 28 = .ok (.bipush 8, 2) := by decide +kernel
theorem dX7_touches_30 : decode cX7_touches 30 = .ok (.if_icmp .ge 22, 3) := by decide +kernel
theorem dX7_touches_33 : decode cX7_touches 33 = .ok (.aload_n 0, 1) := by decide +kernel
theorem dX7_touches_34 : decode cX7_touches 34 = .ok (.getfield 7, 3) := by decide +kernel
theorem dX7_touches_37 : decode cX7_touches 37 = .ok (.sipush 128, 3) := by decide +kernel
theorem dX7_touches_40 : decode cX7_touches 40 = .ok (.iload_n 2, 1) := by decide +kernel
theorem dX7_touches_41 : decode cX7_touches 41 = .ok (.iadd, 1) := by decide +kernel
theorem dX7_touches_42 : decode cX7_touches 42 = .ok (.iaload, 1) := by decide +kernel
theorem dX7_touches_43 : decode cX7_touches 43 = .ok (.ifCond .eq 9, 3) := by decide +kernel
theorem dX7_touches_46 : decode cX7_touches 46 = .ok (.iinc 2 1, 3) := by decide +kernel
theorem dX7_touches_49 : decode cX7_touches 49 = .ok (.goto (-22), 3) := by decide +kernel
theorem dX7_touches_52 : decode cX7_touches 52 = .ok (.iload_n 2, 1) := by decide +kernel
theorem dX7_touches_53 : decode cX7_touches 53 = .ok (.bipush 8, 2) := by decide +kernel
theorem dX7_touches_55 : decode cX7_touches 55 = .ok (.if_icmp .ge 7, 3) := by decide +kernel
theorem dX7_touches_58 : decode cX7_touches 58 = .ok (.iload_n 2, 1) := by decide +kernel
theorem dX7_touches_59 : decode cX7_touches 59 = .ok (.goto 8, 3) := by decide +kernel
theorem dX7_touches_62 : decode cX7_touches 62 = .ok (.aload_n 0, 1) := by decide +kernel
theorem dX7_touches_63 : decode cX7_touches 63 = .ok (.iconst 1, 1) := by decide +kernel
theorem dX7_touches_64 : decode cX7_touches 64 = .ok (.invokevirtual 54, 3) := by decide +kernel
theorem dX7_touches_67 : decode cX7_touches 67 = .ok (.istore_n 2, 1) := by decide +kernel
theorem dX7_touches_68 : decode cX7_touches 68 = .ok (.iload_n 2, 1) := by decide +kernel
theorem dX7_touches_69 : decode cX7_touches 69 = .ok (.iconst (-1), 1) := by decide +kernel
theorem dX7_touches_70 : decode cX7_touches 70 = .ok (.if_icmp .ne 14, 3) := by decide +kernel
theorem dX7_touches_73 : decode cX7_touches 73 = .ok (.aload_n 0, 1) := by decide +kernel
theorem dX7_touches_74 : decode cX7_touches 74 = .ok (.iconst 2, 1) := by decide +kernel
theorem dX7_touches_75 : decode cX7_touches 75 = .ok (.invokevirtual 54, 3) := by decide +kernel
theorem dX7_touches_78 : decode cX7_touches 78 = .ok (.istore_n 2, 1) := by decide +kernel
theorem dX7_touches_79 : decode cX7_touches 79 = .ok (.aload_n 0, 1) := by decide +kernel
theorem dX7_touches_80 : decode cX7_touches 80 = .ok (.iload_n 2, 1) := by decide +kernel
theorem dX7_touches_81 : decode cX7_touches 81 = .ok (.invokevirtual 57, 3) := by decide +kernel
theorem dX7_touches_84 : decode cX7_touches 84 = .ok (.aload_n 0, 1) := by decide +kernel
theorem dX7_touches_85 : decode cX7_touches 85 = .ok (.getfield 7, 3) := by decide +kernel
theorem dX7_touches_88 : decode cX7_touches 88 = .ok (.sipush 128, 3) := by decide +kernel
theorem dX7_touches_91 : decode cX7_touches 91 = .ok (.iload_n 2, 1) := by decide +kernel
theorem dX7_touches_92 : decode cX7_touches 92 = .ok (.iadd, 1) := by decide +kernel
theorem dX7_touches_93 : decode cX7_touches 93 = .ok (.iconst 1, 1) := by decide +kernel
theorem dX7_touches_94 : decode cX7_touches 94 = .ok (.iastore, 1) := by decide +kernel
theorem dX7_touches_95 : decode cX7_touches 95 = .ok (.aload_n 0, 1) := by decide +kernel
theorem dX7_touches_96 : decode cX7_touches 96 = .ok (.getfield 7, 3) := by decide +kernel
theorem dX7_touches_99 : decode cX7_touches 99 = .ok (.sipush 136, 3) := by decide +kernel
theorem dX7_touches_102 : decode cX7_touches 102 = .ok (.iload_n 2, 1) := by decide +kernel
theorem dX7_touches_103 : decode cX7_touches 103 = .ok (.iadd, 1) := by decide +kernel
theorem dX7_touches_104 : decode cX7_touches 104 = .ok (.iload_n 1, 1) := by decide +kernel
theorem dX7_touches_105 : decode cX7_touches 105 = .ok (.iastore, 1) := by decide +kernel
theorem dX7_touches_106 : decode cX7_touches 106 = .ok (.aload_n 0, 1) := by decide +kernel
theorem dX7_touches_107 : decode cX7_touches 107 = .ok (.getfield 7, 3) := by decide +kernel
theorem dX7_touches_110 : decode cX7_touches 110 = .ok (.sipush 144, 3) := by decide +kernel
theorem dX7_touches_113 : decode cX7_touches 113 = .ok (.iload_n 2, 1) := by decide +kernel
theorem dX7_touches_114 : decode cX7_touches 114 = .ok (.iadd, 1) := by decide +kernel
theorem dX7_touches_115 : decode cX7_touches 115 = .ok (.aload_n 0, 1) := by decide +kernel
theorem dX7_touches_116 : decode cX7_touches 116 = .ok (.getfield 7, 3) := by decide +kernel
theorem dX7_touches_119 : decode cX7_touches 119 = .ok (.iconst 0, 1) := by decide +kernel
theorem dX7_touches_120 : decode cX7_touches 120 = .ok (.iload_n 1, 1) := by decide +kernel
theorem dX7_touches_121 : decode cX7_touches 121 = .ok (.iadd, 1) := by decide +kernel
theorem dX7_touches_122 : decode cX7_touches 122 = .ok (.iaload, 1) := by decide +kernel
theorem dX7_touches_123 : decode cX7_touches 123 = .ok (.iastore, 1) := by decide +kernel
theorem dX7_touches_124 : decode cX7_touches 124 = .ok (.aload_n 0, 1) := by decide +kernel
theorem dX7_touches_125 : decode cX7_touches 125 = .ok (.iload_n 2, 1) := by decide +kernel
theorem dX7_touches_126 : decode cX7_touches 126 = .ok (.invokevirtual 63, 3) := by decide +kernel
theorem dX7_touches_129 : decode cX7_touches 129 = .ok (.iload_n 2, 1) := by decide +kernel
theorem dX7_touches_130 : decode cX7_touches 130 = .ok (.ireturn, 1) := by decide +kernel
set_option maxRecDepth 20000 in
theorem ggX7_doRead_X7_isPlace : GoodIn wsX7_doRead wsX7_isPlace := goodIn_r _ [6, 7, 8, 9, 5, 10] (by decide +kernel) (by decide +kernel)
set_option maxRecDepth 20000 in
theorem gX7_doRead_X7_isPlace : GoodIn wsX7_doRead (va_wsS RX7 66 yX7_isPlace wsX7_isPlace) := goodIn_app (goodIn_of _ (by decide +kernel)) ggX7_doRead_X7_isPlace
set_option maxRecDepth 20000 in
theorem ggX7_doRead_X7_touches : GoodIn wsX7_doRead wsX7_touches := goodIn_r _ [14, 1, 15, 16, 17, 5, 18, 19, 20, 21, 22, 23, 24, 25, 26, 27, 28, 29, 30, 31, 32, 33, 34, 35, 36, 37, 38, 39, 40, 41, 42, 43, 44, 45, 46, 47, 48, 49, 50, 51, 52] (by decide +kernel) (by decide +kernel)
set_option maxRecDepth 20000 in
theorem gX7_doRead_X7_touches : GoodIn wsX7_doRead (wsV RX7 70 RX7 yX7_touches wsX7_touches) := goodIn_app (goodIn_of _ (by decide +kernel)) ggX7_doRead_X7_touches
theorem dX7_doRead_0 : decode cX7_doRead 0 = .ok (.iload_n 1, 1) := by decide +kernel
theorem dX7_doRead_1 : decode cX7_doRead 1 = .ok (.invokestatic 66, 3) := by decide +kernel
theorem dX7_doRead_4 : decode cX7_doRead 4 = .ok (.ifCond .eq 20, 3) := by decide +kernel
theorem dX7_doRead_7 : decode cX7_doRead 7 = .ok (.aload_n 0, 1) := by decide +kernel
theorem dX7_doRead_8 : decode cX7_doRead 8 = .ok (.getfield 7, 3) := by decide +kernel
theorem dX7_doRead_11 : decode cX7_doRead 11 = .ok (.sipush 144, 3) := by decide +kernel
theorem dX7_doRead_14 : decode cX7_doRead 14 = .ok (.aload_n 0, 1) := by decide +kernel
theorem dX7_doRead_15 : decode cX7_doRead 15 = .ok (.iload_n 1, 1) := by decide +kernel
theorem dX7_doRead_16 : decode cX7_doRead 16 = .ok (.invokevirtual 70, 3) := by decide +kernel
theorem dX7_doRead_19 : decode cX7_doRead 19 = .ok (.iadd, 1) := by decide +kernel
theorem dX7_doRead_20 : decode cX7_doRead 20 = .ok (.iaload, 1) := by decide +kernel
theorem dX7_doRead_21 : decode cX7_doRead 21 = .ok (.goto 5, 3) := by decide +kernel
theorem dX7_doRead_24 : decode cX7_doRead 24 = .ok (.ldc 73, 2) := by decide +kernel
theorem dX7_doRead_26 : decode cX7_doRead 26 = .ok (.ireturn, 1) := by decide +kernel
set_option maxRecDepth 20000 in
theorem ggX7_doWrite_X7_isPlace : GoodIn wsX7_doWrite wsX7_isPlace := goodIn_r _ [7, 8, 9, 10, 6, 11] (by decide +kernel) (by decide +kernel)
set_option maxRecDepth 20000 in
theorem gX7_doWrite_X7_isPlace : GoodIn wsX7_doWrite (va_wsS RX7 66 yX7_isPlace wsX7_isPlace) := goodIn_app (goodIn_of _ (by decide +kernel)) ggX7_doWrite_X7_isPlace
set_option maxRecDepth 20000 in
theorem ggX7_doWrite_X7_in : GoodIn wsX7_doWrite wsX7_in := goodIn_r _ [11] (by decide +kernel) (by decide +kernel)
set_option maxRecDepth 20000 in
theorem gX7_doWrite_X7_in : GoodIn wsX7_doWrite (va_wsS RX7 29 yX7_in wsX7_in) := goodIn_app (goodIn_of _ (by decide +kernel)) ggX7_doWrite_X7_in
set_option maxRecDepth 20000 in
theorem ggX7_doWrite_X7_touches : GoodIn wsX7_doWrite wsX7_touches := goodIn_r _ [15, 3, 16, 17, 18, 6, 19, 20, 21, 22, 23, 24, 25, 26, 27, 28, 29, 30, 31, 32, 33, 34, 35, 36, 37, 38, 39, 52, 53, 54, 55, 56, 57, 58, 59, 60, 61, 62, 63, 64, 65] (by decide +kernel) (by decide +kernel)
set_option maxRecDepth 20000 in
theorem gX7_doWrite_X7_touches : GoodIn wsX7_doWrite (wsV RX7 70 RX7 yX7_touches wsX7_touches) := goodIn_app (goodIn_of _ (by decide +kernel)) ggX7_doWrite_X7_touches
set_option maxRecDepth 20000 in
theorem ggX7_doWrite_X7_many : GoodIn wsX7_doWrite wsX7_many := goodIn_r _ [43, 3, 52, 53, 54, 55, 56, 57, 58, 59, 60, 61, 62, 63, 64, 65] (by decide +kernel) (by decide +kernel)
set_option maxRecDepth 20000 in
theorem gX7_doWrite_X7_many : GoodIn wsX7_doWrite (wsV RX7 47 RX7 yX7_many wsX7_many) := goodIn_app (goodIn_of _ (by decide +kernel)) ggX7_doWrite_X7_many
set_option maxRecDepth 20000 in
theorem ggX7_doWrite_X7_allowance : GoodIn wsX7_doWrite wsX7_allowance := goodIn_r _ [47, 3, 48, 49, 50, 6, 51, 52, 53, 54, 55, 56, 57, 58, 59, 60, 61, 62, 63, 64, 65] (by decide +kernel) (by decide +kernel)
set_option maxRecDepth 20000 in
theorem gX7_doWrite_X7_allowance : GoodIn wsX7_doWrite (wsV RX7 50 RX7 yX7_allowance wsX7_allowance) := goodIn_app (goodIn_of _ (by decide +kernel)) ggX7_doWrite_X7_allowance
set_option maxRecDepth 20000 in
theorem ggX7_doWrite_X7_lays : GoodIn wsX7_doWrite wsX7_lays := goodIn_r _ [35, 3, 20, 21, 22, 6, 23, 52, 53, 54, 55, 56, 57, 58, 59, 60, 61, 62, 63, 64, 65] (by decide +kernel) (by decide +kernel)
set_option maxRecDepth 20000 in
theorem gX7_doWrite_X7_lays : GoodIn wsX7_doWrite (wsV RX7 39 RX7 yX7_lays wsX7_lays) := goodIn_app (goodIn_of _ (by decide +kernel)) ggX7_doWrite_X7_lays
set_option maxRecDepth 20000 in
theorem ggX7_doWrite_X7_counts : GoodIn wsX7_doWrite wsX7_counts := goodIn_r _ [23, 3, 52, 53, 54, 55, 56, 57, 58, 59, 60, 61, 62, 63, 64, 65] (by decide +kernel) (by decide +kernel)
set_option maxRecDepth 20000 in
theorem gX7_doWrite_X7_counts : GoodIn wsX7_doWrite (wsV RX7 35 RX7 yX7_counts wsX7_counts) := goodIn_app (goodIn_of _ (by decide +kernel)) ggX7_doWrite_X7_counts
theorem dX7_doWrite_0 : decode cX7_doWrite 0 = .ok (.iload_n 1, 1) := by decide +kernel
theorem dX7_doWrite_1 : decode cX7_doWrite 1 = .ok (.invokestatic 66, 3) := by decide +kernel
theorem dX7_doWrite_4 : decode cX7_doWrite 4 = .ok (.ifCond .eq 15, 3) := by decide +kernel
theorem dX7_doWrite_7 : decode cX7_doWrite 7 = .ok (.iload_n 2, 1) := by decide +kernel
theorem dX7_doWrite_8 : decode cX7_doWrite 8 = .ok (.i2l, 1) := by decide +kernel
theorem dX7_doWrite_9 : decode cX7_doWrite 9 = .ok (.lconst 0, 1) := by decide +kernel
theorem dX7_doWrite_10 : decode cX7_doWrite 10 = .ok (.ldc2_w 74, 3) := by decide +kernel
theorem dX7_doWrite_13 : decode cX7_doWrite 13 = .ok (.invokestatic 29, 3) := by decide +kernel
theorem dX7_doWrite_16 : decode cX7_doWrite 16 = .ok (.ifCond .ne 6, 3) := by decide +kernel
theorem dX7_doWrite_19 : decode cX7_doWrite 19 = .ok (.ldc 73, 2) := by decide +kernel
theorem dX7_doWrite_21 : decode cX7_doWrite 21 = .ok (.ireturn, 1) := by decide +kernel
theorem dX7_doWrite_22 : decode cX7_doWrite 22 = .ok (.aload_n 0, 1) := by decide +kernel
theorem dX7_doWrite_23 : decode cX7_doWrite 23 = .ok (.iload_n 1, 1) := by decide +kernel
theorem dX7_doWrite_24 : decode cX7_doWrite 24 = .ok (.invokevirtual 70, 3) := by decide +kernel
theorem dX7_doWrite_27 : decode cX7_doWrite 27 = .ok (.istore_n 3, 1) := by decide +kernel
theorem dX7_doWrite_28 : decode cX7_doWrite 28 = .ok (.aload_n 0, 1) := by decide +kernel
theorem dX7_doWrite_29 : decode cX7_doWrite 29 = .ok (.getfield 7, 3) := by decide +kernel
theorem dX7_doWrite_32 : decode cX7_doWrite 32 = .ok (.sipush 144, 3) := by decide +kernel
theorem dX7_doWrite_35 : decode cX7_doWrite 35 = .ok (.iload_n 3, 1) := by decide +kernel
theorem dX7_doWrite_36 : decode cX7_doWrite 36 = .ok (.iadd, 1) := by decide +kernel
theorem dX7_doWrite_37 : decode cX7_doWrite 37 = .ok (.iload_n 2, 1) := by decide +kernel
theorem dX7_doWrite_38 : decode cX7_doWrite 38 = .ok (.iastore, 1) := by decide +kernel
theorem dX7_doWrite_39 : decode cX7_doWrite 39 = .ok (.aload_n 0, 1) := by decide +kernel
theorem dX7_doWrite_40 : decode cX7_doWrite 40 = .ok (.getfield 7, 3) := by decide +kernel
theorem dX7_doWrite_43 : decode cX7_doWrite 43 = .ok (.sipush 128, 3) := by decide +kernel
theorem dX7_doWrite_46 : decode cX7_doWrite 46 = .ok (.iload_n 3, 1) := by decide +kernel
theorem dX7_doWrite_47 : decode cX7_doWrite 47 = .ok (.iadd, 1) := by decide +kernel
theorem dX7_doWrite_48 : decode cX7_doWrite 48 = .ok (.iaload, 1) := by decide +kernel
theorem dX7_doWrite_49 : decode cX7_doWrite 49 = .ok (.iconst 2, 1) := by decide +kernel
theorem dX7_doWrite_50 : decode cX7_doWrite 50 = .ok (.if_icmp .eq 15, 3) := by decide +kernel
theorem dX7_doWrite_53 : decode cX7_doWrite 53 = .ok (.aload_n 0, 1) := by decide +kernel
theorem dX7_doWrite_54 : decode cX7_doWrite 54 = .ok (.iconst 2, 1) := by decide +kernel
theorem dX7_doWrite_55 : decode cX7_doWrite 55 = .ok (.invokevirtual 47, 3) := by decide +kernel
theorem dX7_doWrite_58 : decode cX7_doWrite 58 = .ok (.aload_n 0, 1) := by decide +kernel
theorem dX7_doWrite_59 : decode cX7_doWrite 59 = .ok (.invokevirtual 50, 3) := by decide +kernel
theorem dX7_doWrite_62 : decode cX7_doWrite 62 = .ok (.if_icmp .ge 16, 3) := by decide +kernel
theorem dX7_doWrite_65 : decode cX7_doWrite 65 = .ok (.aload_n 0, 1) := by decide +kernel
theorem dX7_doWrite_66 : decode cX7_doWrite 66 = .ok (.getfield 7, 3) := by decide +kernel
theorem dX7_doWrite_69 : decode cX7_doWrite 69 = .ok (.sipush 128, 3) := by decide +kernel
theorem dX7_doWrite_72 : decode cX7_doWrite 72 = .ok (.iload_n 3, 1) := by decide +kernel
theorem dX7_doWrite_73 : decode cX7_doWrite 73 = .ok (.iadd, 1) := by decide +kernel
theorem dX7_doWrite_74 : decode cX7_doWrite 74 = .ok (.iconst 2, 1) := by decide +kernel
theorem dX7_doWrite_75 : decode cX7_doWrite 75 = .ok (.iastore, 1) := by decide +kernel
theorem dX7_doWrite_76 : decode cX7_doWrite 76 = .ok (.iconst 0, 1) := by decide +kernel
theorem dX7_doWrite_77 : decode cX7_doWrite 77 = .ok (.ireturn, 1) := by decide +kernel
theorem dX7_doWrite_78 : decode cX7_doWrite 78 = .ok (.aload_n 0, 1) := by decide +kernel
theorem dX7_doWrite_79 : decode cX7_doWrite 79 = .ok (.iload_n 1, 1) := by decide +kernel
theorem dX7_doWrite_80 : decode cX7_doWrite 80 = .ok (.iload_n 2, 1) := by decide +kernel
theorem dX7_doWrite_81 : decode cX7_doWrite 81 = .ok (.invokevirtual 39, 3) := by decide +kernel
theorem dX7_doWrite_84 : decode cX7_doWrite 84 = .ok (.aload_n 0, 1) := by decide +kernel
theorem dX7_doWrite_85 : decode cX7_doWrite 85 = .ok (.iconst 4, 1) := by decide +kernel
theorem dX7_doWrite_86 : decode cX7_doWrite 86 = .ok (.invokevirtual 35, 3) := by decide +kernel
theorem dX7_doWrite_89 : decode cX7_doWrite 89 = .ok (.iconst 1, 1) := by decide +kernel
theorem dX7_doWrite_90 : decode cX7_doWrite 90 = .ok (.ireturn, 1) := by decide +kernel
theorem dX7_capacity_0 : decode cX7_capacity 0 = .ok (.sipush 1000, 3) := by decide +kernel
theorem dX7_capacity_3 : decode cX7_capacity 3 = .ok (.bipush 10, 2) := by decide +kernel
theorem dX7_capacity_5 : decode cX7_capacity 5 = .ok (.aload_n 0, 1) := by decide +kernel
theorem dX7_capacity_6 : decode cX7_capacity 6 = .ok (.getfield 7, 3) := by decide +kernel
theorem dX7_capacity_9 : decode cX7_capacity 9 = .ok (.sipush 161, 3) := by decide +kernel
theorem dX7_capacity_12 : decode cX7_capacity 12 = .ok (.iaload, 1) := by decide +kernel
theorem dX7_capacity_13 : decode cX7_capacity 13 = .ok (.imul, 1) := by decide +kernel
theorem dX7_capacity_14 : decode cX7_capacity 14 = .ok (.isub, 1) := by decide +kernel
theorem dX7_capacity_15 : decode cX7_capacity 15 = .ok (.ireturn, 1) := by decide +kernel
set_option maxRecDepth 20000 in
theorem ggX7_charges_X7_setting : GoodIn wsX7_charges wsX7_setting := goodIn_r _ [6, 1, 11, 12, 13, 14, 15, 16, 17, 18, 19, 20, 21, 22, 23, 24] (by decide +kernel) (by decide +kernel)
set_option maxRecDepth 20000 in
theorem gX7_charges_X7_setting : GoodIn wsX7_charges (wsV RX7 43 RX7 yX7_setting wsX7_setting) := goodIn_app (goodIn_of _ (by decide +kernel)) ggX7_charges_X7_setting
set_option maxRecDepth 20000 in
theorem ggX7_charges_X7_capacity : GoodIn wsX7_charges wsX7_capacity := goodIn_r _ [10, 1, 11, 12, 13, 14, 15, 16, 17, 18, 19, 20, 21, 22, 23, 24] (by decide +kernel) (by decide +kernel)
set_option maxRecDepth 20000 in
theorem gX7_charges_X7_capacity : GoodIn wsX7_charges (wsV RX7 76 RX7 yX7_capacity wsX7_capacity) := goodIn_app (goodIn_of _ (by decide +kernel)) ggX7_charges_X7_capacity
theorem dX7_charges_0 : decode cX7_charges 0 = .ok (.aload_n 0, 1) := by decide +kernel
theorem dX7_charges_1 : decode cX7_charges 1 = .ok (.getfield 7, 3) := by decide +kernel
theorem dX7_charges_4 : decode cX7_charges 4 = .ok (.sipush 160, 3) := by decide +kernel
theorem dX7_charges_7 : decode cX7_charges 7 = .ok (.iaload, 1) := by decide +kernel
theorem dX7_charges_8 : decode cX7_charges 8 = .ok (.aload_n 0, 1) := by decide +kernel
theorem dX7_charges_9 : decode cX7_charges 9 = .ok (.iconst 2, 1) := by decide +kernel
theorem dX7_charges_10 : decode cX7_charges 10 = .ok (.invokevirtual 43, 3) := by decide +kernel
theorem dX7_charges_13 : decode cX7_charges 13 = .ok (.iadd, 1) := by decide +kernel
theorem dX7_charges_14 : decode cX7_charges 14 = .ok (.istore_n 1, 1) := by decide +kernel
theorem dX7_charges_15 : decode cX7_charges 15 = .ok (.aload_n 0, 1) := by decide +kernel
theorem dX7_charges_16 : decode cX7_charges 16 = .ok (.getfield 7, 3) := by decide +kernel
theorem dX7_charges_19 : decode cX7_charges 19 = .ok (.sipush 160, 3) := by decide +kernel
theorem dX7_charges_22 : decode cX7_charges 22 = .ok (.iload_n 1, 1) := by decide +kernel
theorem dX7_charges_23 : decode cX7_charges 23 = .ok (.aload_n 0, 1) := by decide +kernel
theorem dX7_charges_24 : decode cX7_charges 24 = .ok (.invokevirtual 76, 3) := by decide +kernel
theorem dX7_charges_27 : decode cX7_charges 27 = .ok (.if_icmp .le 10, 3) := by decide +kernel
theorem dX7_charges_30 : decode cX7_charges 30 = .ok (.aload_n 0, 1) := by decide +kernel
theorem dX7_charges_31 : decode cX7_charges 31 = .ok (.invokevirtual 76, 3) := by decide +kernel
theorem dX7_charges_34 : decode cX7_charges 34 = .ok (.goto 4, 3) := by decide +kernel
theorem dX7_charges_37 : decode cX7_charges 37 = .ok (.iload_n 1, 1) := by decide +kernel
theorem dX7_charges_38 : decode cX7_charges 38 = .ok (.iastore, 1) := by decide +kernel
theorem dX7_charges_39 : decode cX7_charges 39 = .ok (.return_, 1) := by decide +kernel
theorem dX7_drains_0 : decode cX7_drains 0 = .ok (.aload_n 0, 1) := by decide +kernel
theorem dX7_drains_1 : decode cX7_drains 1 = .ok (.getfield 7, 3) := by decide +kernel
theorem dX7_drains_4 : decode cX7_drains 4 = .ok (.sipush 160, 3) := by decide +kernel
theorem dX7_drains_7 : decode cX7_drains 7 = .ok (.aload_n 0, 1) := by decide +kernel
theorem dX7_drains_8 : decode cX7_drains 8 = .ok (.getfield 7, 3) := by decide +kernel
theorem dX7_drains_11 : decode cX7_drains 11 = .ok (.sipush 160, 3) := by decide +kernel
theorem dX7_drains_14 : decode cX7_drains 14 = .ok (.iaload, 1) := by decide +kernel
theorem dX7_drains_15 : decode cX7_drains 15 = .ok (.iload_n 1, 1) := by decide +kernel
theorem dX7_drains_16 : decode cX7_drains 16 = .ok (.if_icmp .le 16, 3) := by decide +kernel
theorem dX7_drains_19 : decode cX7_drains 19 = .ok (.aload_n 0, 1) := by decide +kernel
theorem dX7_drains_20 : decode cX7_drains 20 = .ok (.getfield 7, 3) := by decide +kernel
theorem dX7_drains_23 : decode cX7_drains 23 = .ok (.sipush 160, 3) := by decide +kernel
theorem dX7_drains_26 : decode cX7_drains 26 = .ok (.iaload, 1) := by decide +kernel
theorem dX7_drains_27 : decode cX7_drains 27 = .ok (.iload_n 1, 1) := by decide +kernel
theorem dX7_drains_28 : decode cX7_drains 28 = .ok (.isub, 1) := by decide +kernel
theorem dX7_drains_29 : decode cX7_drains 29 = .ok (.goto 4, 3) := by decide +kernel
theorem dX7_drains_32 : decode cX7_drains 32 = .ok (.iconst 0, 1) := by decide +kernel
theorem dX7_drains_33 : decode cX7_drains 33 = .ok (.iastore, 1) := by decide +kernel
theorem dX7_drains_34 : decode cX7_drains 34 = .ok (.return_, 1) := by decide +kernel
set_option maxRecDepth 20000 in
theorem ggX7_learnsOn_X7_setting : GoodIn wsX7_learnsOn wsX7_setting := goodIn_r _ [6, 1, 23, 24, 25, 26, 27, 28, 29, 30, 31, 32, 33, 34, 35, 36] (by decide +kernel) (by decide +kernel)
set_option maxRecDepth 20000 in
theorem gX7_learnsOn_X7_setting : GoodIn wsX7_learnsOn (wsV RX7 43 RX7 yX7_setting wsX7_setting) := goodIn_app (goodIn_of _ (by decide +kernel)) ggX7_learnsOn_X7_setting
set_option maxRecDepth 20000 in
theorem ggX7_learnsOn_X7_drains : GoodIn wsX7_learnsOn wsX7_drains := goodIn_r _ [10, 1, 23, 24, 25, 26, 27, 28, 29, 30, 31, 32, 33, 34, 35, 36] (by decide +kernel) (by decide +kernel)
set_option maxRecDepth 20000 in
theorem gX7_learnsOn_X7_drains : GoodIn wsX7_learnsOn (wsV RX7 79 RX7 yX7_drains wsX7_drains) := goodIn_app (goodIn_of _ (by decide +kernel)) ggX7_learnsOn_X7_drains
set_option maxRecDepth 20000 in
theorem ggX7_learnsOn_X7_charges : GoodIn wsX7_learnsOn wsX7_charges := goodIn_r _ [14, 1, 2, 3, 4, 5, 6, 15, 16, 17, 18, 23, 24, 25, 26, 27, 28, 29, 30, 31, 32, 33, 34, 35, 36] (by decide +kernel) (by decide +kernel)
set_option maxRecDepth 20000 in
theorem gX7_learnsOn_X7_charges : GoodIn wsX7_learnsOn (wsV RX7 82 RX7 yX7_charges wsX7_charges) := goodIn_app (goodIn_of _ (by decide +kernel)) ggX7_learnsOn_X7_charges
set_option maxRecDepth 20000 in
theorem ggX7_learnsOn_X7_capacity : GoodIn wsX7_learnsOn wsX7_capacity := goodIn_r _ [18, 1, 23, 24, 25, 26, 27, 28, 29, 30, 31, 32, 33, 34, 35, 36] (by decide +kernel) (by decide +kernel)
set_option maxRecDepth 20000 in
theorem gX7_learnsOn_X7_capacity : GoodIn wsX7_learnsOn (wsV RX7 76 RX7 yX7_capacity wsX7_capacity) := goodIn_app (goodIn_of _ (by decide +kernel)) ggX7_learnsOn_X7_capacity
set_option maxRecDepth 20000 in
theorem ggX7_learnsOn_X7_counts : GoodIn wsX7_learnsOn wsX7_counts := goodIn_r _ [22, 1, 23, 24, 25, 26, 27, 28, 29, 30, 31, 32, 33, 34, 35, 36] (by decide +kernel) (by decide +kernel)
set_option maxRecDepth 20000 in
theorem gX7_learnsOn_X7_counts : GoodIn wsX7_learnsOn (wsV RX7 35 RX7 yX7_counts wsX7_counts) := goodIn_app (goodIn_of _ (by decide +kernel)) ggX7_learnsOn_X7_counts
theorem dX7_learnsOn_0 : decode cX7_learnsOn 0 = .ok (.aload_n 0, 1) := by decide +kernel
theorem dX7_learnsOn_1 : decode cX7_learnsOn 1 = .ok (.getfield 7, 3) := by decide +kernel
theorem dX7_learnsOn_4 : decode cX7_learnsOn 4 = .ok (.sipush 162, 3) := by decide +kernel
theorem dX7_learnsOn_7 : decode cX7_learnsOn 7 = .ok (.iaload, 1) := by decide +kernel
theorem dX7_learnsOn_8 : decode cX7_learnsOn 8 = .ok (.iconst 1, 1) := by decide +kernel
theorem dX7_learnsOn_9 : decode cX7_learnsOn 9 = .ok (.if_icmp .ne 62, 3) := by decide +kernel
theorem dX7_learnsOn_12 : decode cX7_learnsOn 12 = .ok (.aload_n 0, 1) := by decide +kernel
theorem dX7_learnsOn_13 : decode cX7_learnsOn 13 = .ok (.aload_n 0, 1) := by decide +kernel
theorem dX7_learnsOn_14 : decode cX7_learnsOn 14 = .ok (.iconst 3, 1) := by decide +kernel
theorem dX7_learnsOn_15 : decode cX7_learnsOn 15 = .ok (.invokevirtual 43, 3) := by decide +kernel
theorem dX7_learnsOn_18 : decode cX7_learnsOn 18 = .ok (.invokevirtual 79, 3) := by decide +kernel
theorem dX7_learnsOn_21 : decode cX7_learnsOn 21 = .ok (.aload_n 0, 1) := by decide +kernel
theorem dX7_learnsOn_22 : decode cX7_learnsOn 22 = .ok (.getfield 7, 3) := by decide +kernel
theorem dX7_learnsOn_25 : decode cX7_learnsOn 25 = .ok (.sipush 160, 3) := by decide +kernel
theorem dX7_learnsOn_28 : decode cX7_learnsOn 28 = .ok (.iaload, 1) := by decide +kernel
theorem dX7_learnsOn_29 : decode cX7_learnsOn 29 = .ok (.ifCond .ne 41, 3) := by decide +kernel
theorem dX7_learnsOn_32 : decode cX7_learnsOn 32 = .ok (.aload_n 0, 1) := by decide +kernel
theorem dX7_learnsOn_33 : decode cX7_learnsOn 33 = .ok (.getfield 7, 3) := by decide +kernel
theorem dX7_learnsOn_36 : decode cX7_learnsOn 36 = .ok (.sipush 161, 3) := by decide +kernel
theorem dX7_learnsOn_39 : decode cX7_learnsOn 39 = .ok (.dup2, 1) := by decide +kernel
theorem dX7_learnsOn_40 : decode cX7_learnsOn 40 = .ok (.iaload, 1) := by decide +kernel
theorem dX7_learnsOn_41 : decode cX7_learnsOn 41 = .ok (.aload_n 0, 1) := by decide +kernel
theorem dX7_learnsOn_42 : decode cX7_learnsOn 42 = .ok (.getfield 7, 3) := by decide +kernel
theorem dX7_learnsOn_45 : decode cX7_learnsOn 45 = .ok (.sipush 161, 3) := by decide +kernel
theorem dX7_learnsOn_48 : decode cX7_learnsOn 48 = .ok (.iaload, 1) := by decide +kernel
theorem dX7_learnsOn_49 : decode cX7_learnsOn 49 = .ok (.bipush 90, 2) := by decide +kernel
theorem dX7_learnsOn_51 : decode cX7_learnsOn 51 = .ok (.if_icmp .ge 7, 3) := by decide +kernel
theorem dX7_learnsOn_54 : decode cX7_learnsOn 54 = .ok (.iconst 1, 1) := by decide +kernel
theorem dX7_learnsOn_55 : decode cX7_learnsOn 55 = .ok (.goto 4, 3) := by decide +kernel
theorem dX7_learnsOn_58 : decode cX7_learnsOn 58 = .ok (.iconst 0, 1) := by decide +kernel
theorem dX7_learnsOn_59 : decode cX7_learnsOn 59 = .ok (.iadd, 1) := by decide +kernel
theorem dX7_learnsOn_60 : decode cX7_learnsOn 60 = .ok (.iastore, 1) := by decide +kernel
theorem dX7_learnsOn_61 : decode cX7_learnsOn 61 = .ok (.aload_n 0, 1) := by decide +kernel
theorem dX7_learnsOn_62 : decode cX7_learnsOn 62 = .ok (.getfield 7, 3) := by decide +kernel
theorem dX7_learnsOn_65 : decode cX7_learnsOn 65 = .ok (.sipush 162, 3) := by decide +kernel
theorem dX7_learnsOn_68 : decode cX7_learnsOn 68 = .ok (.iconst 2, 1) := by decide +kernel
theorem dX7_learnsOn_69 : decode cX7_learnsOn 69 = .ok (.iastore, 1) := by decide +kernel
theorem dX7_learnsOn_70 : decode cX7_learnsOn 70 = .ok (.return_, 1) := by decide +kernel
theorem dX7_learnsOn_71 : decode cX7_learnsOn 71 = .ok (.aload_n 0, 1) := by decide +kernel
theorem dX7_learnsOn_72 : decode cX7_learnsOn 72 = .ok (.invokevirtual 82, 3) := by decide +kernel
theorem dX7_learnsOn_75 : decode cX7_learnsOn 75 = .ok (.aload_n 0, 1) := by decide +kernel
theorem dX7_learnsOn_76 : decode cX7_learnsOn 76 = .ok (.getfield 7, 3) := by decide +kernel
theorem dX7_learnsOn_79 : decode cX7_learnsOn 79 = .ok (.sipush 160, 3) := by decide +kernel
theorem dX7_learnsOn_82 : decode cX7_learnsOn 82 = .ok (.iaload, 1) := by decide +kernel
theorem dX7_learnsOn_83 : decode cX7_learnsOn 83 = .ok (.aload_n 0, 1) := by decide +kernel
theorem dX7_learnsOn_84 : decode cX7_learnsOn 84 = .ok (.invokevirtual 76, 3) := by decide +kernel
theorem dX7_learnsOn_87 : decode cX7_learnsOn 87 = .ok (.if_icmp .ne 18, 3) := by decide +kernel
theorem dX7_learnsOn_90 : decode cX7_learnsOn 90 = .ok (.aload_n 0, 1) := by decide +kernel
theorem dX7_learnsOn_91 : decode cX7_learnsOn 91 = .ok (.getfield 7, 3) := by decide +kernel
theorem dX7_learnsOn_94 : decode cX7_learnsOn 94 = .ok (.sipush 162, 3) := by decide +kernel
theorem dX7_learnsOn_97 : decode cX7_learnsOn 97 = .ok (.iconst 0, 1) := by decide +kernel
theorem dX7_learnsOn_98 : decode cX7_learnsOn 98 = .ok (.iastore, 1) := by decide +kernel
theorem dX7_learnsOn_99 : decode cX7_learnsOn 99 = .ok (.aload_n 0, 1) := by decide +kernel
theorem dX7_learnsOn_100 : decode cX7_learnsOn 100 = .ok (.bipush 7, 2) := by decide +kernel
theorem dX7_learnsOn_102 : decode cX7_learnsOn 102 = .ok (.invokevirtual 35, 3) := by decide +kernel
theorem dX7_learnsOn_105 : decode cX7_learnsOn 105 = .ok (.return_, 1) := by decide +kernel
set_option maxRecDepth 20000 in
theorem ggX7_ticksOn_X7_counts : GoodIn wsX7_ticksOn wsX7_counts := goodIn_r _ [6, 1, 51, 52, 53, 54, 55, 56, 57, 58, 59, 60, 61, 62, 63, 64] (by decide +kernel) (by decide +kernel)
set_option maxRecDepth 20000 in
theorem gX7_ticksOn_X7_counts : GoodIn wsX7_ticksOn (wsV RX7 35 RX7 yX7_counts wsX7_counts) := goodIn_app (goodIn_of _ (by decide +kernel)) ggX7_ticksOn_X7_counts
set_option maxRecDepth 20000 in
theorem ggX7_ticksOn_X7_learnsOn : GoodIn wsX7_ticksOn wsX7_learnsOn := goodIn_r _ [10, 1, 11, 12, 13, 5, 14, 15, 16, 17, 18, 19, 20, 21, 22, 23, 24, 25, 26, 2, 3, 4, 6, 51, 52, 53, 54, 55, 56, 57, 58, 59, 60, 61, 62, 63, 64] (by decide +kernel) (by decide +kernel)
set_option maxRecDepth 20000 in
theorem gX7_ticksOn_X7_learnsOn : GoodIn wsX7_ticksOn (wsV RX7 85 RX7 yX7_learnsOn wsX7_learnsOn) := goodIn_app (goodIn_of _ (by decide +kernel)) ggX7_ticksOn_X7_learnsOn
set_option maxRecDepth 20000 in
theorem ggX7_ticksOn_X7_charges : GoodIn wsX7_ticksOn wsX7_charges := goodIn_r _ [22, 1, 11, 12, 13, 5, 14, 23, 24, 25, 26, 51, 52, 53, 54, 55, 56, 57, 58, 59, 60, 61, 62, 63, 64] (by decide +kernel) (by decide +kernel)
set_option maxRecDepth 20000 in
theorem gX7_ticksOn_X7_charges : GoodIn wsX7_ticksOn (wsV RX7 82 RX7 yX7_charges wsX7_charges) := goodIn_app (goodIn_of _ (by decide +kernel)) ggX7_ticksOn_X7_charges
set_option maxRecDepth 20000 in
theorem ggX7_ticksOn_X7_flushesToo : GoodIn wsX7_ticksOn wsX7_flushesToo := goodIn_r _ [30, 31, 32, 33, 5, 34, 1, 35, 36, 37, 38, 11, 12, 13, 14, 39, 40, 41, 42, 43, 44, 45, 46, 47, 48, 49, 50, 2, 3, 4, 6, 51, 52, 53, 54, 55, 56, 57, 58, 59, 60, 61, 62, 63, 64] (by decide +kernel) (by decide +kernel)
set_option maxRecDepth 20000 in
theorem gX7_ticksOn_X7_flushesToo : GoodIn wsX7_ticksOn (wsV RX7 88 RX7 yX7_flushesToo wsX7_flushesToo) := goodIn_app (goodIn_of _ (by decide +kernel)) ggX7_ticksOn_X7_flushesToo
theorem dX7_ticksOn_0 : decode cX7_ticksOn 0 = .ok (.aload_n 0, 1) := by decide +kernel
theorem dX7_ticksOn_1 : decode cX7_ticksOn 1 = .ok (.iconst 0, 1) := by decide +kernel
theorem dX7_ticksOn_2 : decode cX7_ticksOn 2 = .ok (.invokevirtual 35, 3) := by decide +kernel
theorem dX7_ticksOn_5 : decode cX7_ticksOn 5 = .ok (.aload_n 0, 1) := by decide +kernel
theorem dX7_ticksOn_6 : decode cX7_ticksOn 6 = .ok (.getfield 7, 3) := by decide +kernel
theorem dX7_ticksOn_9 : decode cX7_ticksOn 9 = .ok (.sipush 162, 3) := by decide +kernel
theorem dX7_ticksOn_12 : decode cX7_ticksOn 12 = .ok (.iaload, 1) := by decide +kernel
theorem dX7_ticksOn_13 : decode cX7_ticksOn 13 = .ok (.ifCond .eq 10, 3) := by decide +kernel
theorem dX7_ticksOn_16 : decode cX7_ticksOn 16 = .ok (.aload_n 0, 1) := by decide +kernel
theorem dX7_ticksOn_17 : decode cX7_ticksOn 17 = .ok (.invokevirtual 85, 3) := by decide +kernel
theorem dX7_ticksOn_20 : decode cX7_ticksOn 20 = .ok (.goto 7, 3) := by decide +kernel
theorem dX7_ticksOn_23 : decode cX7_ticksOn 23 = .ok (.aload_n 0, 1) := by decide +kernel
theorem dX7_ticksOn_24 : decode cX7_ticksOn 24 = .ok (.invokevirtual 82, 3) := by decide +kernel
theorem dX7_ticksOn_27 : decode cX7_ticksOn 27 = .ok (.aload_n 0, 1) := by decide +kernel
theorem dX7_ticksOn_28 : decode cX7_ticksOn 28 = .ok (.invokevirtual 88, 3) := by decide +kernel
theorem dX7_ticksOn_31 : decode cX7_ticksOn 31 = .ok (.ireturn, 1) := by decide +kernel
set_option maxRecDepth 20000 in
theorem ggX7_doTick_X7_in : GoodIn wsX7_doTick wsX7_in := goodIn_r _ [6] (by decide +kernel) (by decide +kernel)
set_option maxRecDepth 20000 in
theorem gX7_doTick_X7_in : GoodIn wsX7_doTick (va_wsS RX7 29 yX7_in wsX7_in) := goodIn_app (goodIn_of _ (by decide +kernel)) ggX7_doTick_X7_in
set_option maxRecDepth 20000 in
theorem ggX7_doTick_X7_ticksOn : GoodIn wsX7_doTick wsX7_ticksOn := goodIn_r _ [10, 11, 12, 13, 14, 5, 15, 16, 17, 18, 19, 20, 21, 22, 23, 24, 25, 26, 27, 28, 29, 30, 31, 32, 33, 34, 35, 36, 37, 38, 39, 40, 41, 42, 43, 44, 45, 46, 47, 48, 49, 50, 51, 52, 53, 54, 55, 56, 57, 58, 59, 60, 61, 62, 63, 64, 65, 66, 67, 68, 69, 70, 71, 72, 73] (by decide +kernel) (by decide +kernel)
set_option maxRecDepth 20000 in
theorem gX7_doTick_X7_ticksOn : GoodIn wsX7_doTick (wsV RX7 93 RX7 yX7_ticksOn wsX7_ticksOn) := goodIn_app (goodIn_of _ (by decide +kernel)) ggX7_doTick_X7_ticksOn
theorem dX7_doTick_0 : decode cX7_doTick 0 = .ok (.iload_n 1, 1) := by decide +kernel
theorem dX7_doTick_1 : decode cX7_doTick 1 = .ok (.i2l, 1) := by decide +kernel
theorem dX7_doTick_2 : decode cX7_doTick 2 = .ok (.lconst 1, 1) := by decide +kernel
theorem dX7_doTick_3 : decode cX7_doTick 3 = .ok (.ldc2_w 91, 3) := by decide +kernel
theorem dX7_doTick_6 : decode cX7_doTick 6 = .ok (.invokestatic 29, 3) := by decide +kernel
theorem dX7_doTick_9 : decode cX7_doTick 9 = .ok (.ifCond .ne 6, 3) := by decide +kernel
theorem dX7_doTick_12 : decode cX7_doTick 12 = .ok (.ldc 73, 2) := by decide +kernel
theorem dX7_doTick_14 : decode cX7_doTick 14 = .ok (.ireturn, 1) := by decide +kernel
theorem dX7_doTick_15 : decode cX7_doTick 15 = .ok (.iconst 0, 1) := by decide +kernel
theorem dX7_doTick_16 : decode cX7_doTick 16 = .ok (.istore_n 2, 1) := by decide +kernel
theorem dX7_doTick_17 : decode cX7_doTick 17 = .ok (.iconst 0, 1) := by decide +kernel
theorem dX7_doTick_18 : decode cX7_doTick 18 = .ok (.istore_n 3, 1) := by decide +kernel
theorem dX7_doTick_19 : decode cX7_doTick 19 = .ok (.iload_n 3, 1) := by decide +kernel
theorem dX7_doTick_20 : decode cX7_doTick 20 = .ok (.iload_n 1, 1) := by decide +kernel
theorem dX7_doTick_21 : decode cX7_doTick 21 = .ok (.if_icmp .ge 16, 3) := by decide +kernel
theorem dX7_doTick_24 : decode cX7_doTick 24 = .ok (.iload_n 2, 1) := by decide +kernel
theorem dX7_doTick_25 : decode cX7_doTick 25 = .ok (.aload_n 0, 1) := by decide +kernel
theorem dX7_doTick_26 : decode cX7_doTick 26 = .ok (.invokevirtual 93, 3) := by decide +kernel
theorem dX7_doTick_29 : decode cX7_doTick 29 = .ok (.iadd, 1) := by decide +kernel
theorem dX7_doTick_30 : decode cX7_doTick 30 = .ok (.istore_n 2, 1) := by decide +kernel
theorem dX7_doTick_31 : decode cX7_doTick 31 = .ok (.iinc 3 1, 3) := by decide +kernel
theorem dX7_doTick_34 : decode cX7_doTick 34 = .ok (.goto (-15), 3) := by decide +kernel
theorem dX7_doTick_37 : decode cX7_doTick 37 = .ok (.iload_n 2, 1) := by decide +kernel
theorem dX7_doTick_38 : decode cX7_doTick 38 = .ok (.ireturn, 1) := by decide +kernel
set_option maxRecDepth 20000 in
theorem ggX7_doLoad_X7_in : GoodIn wsX7_doLoad wsX7_in := goodIn_r _ [6] (by decide +kernel) (by decide +kernel)
set_option maxRecDepth 20000 in
theorem gX7_doLoad_X7_in : GoodIn wsX7_doLoad (va_wsS RX7 29 yX7_in wsX7_in) := goodIn_app (goodIn_of _ (by decide +kernel)) ggX7_doLoad_X7_in
set_option maxRecDepth 20000 in
theorem ggX7_doLoad_X7_drains : GoodIn wsX7_doLoad wsX7_drains := goodIn_r _ [10, 11, 44, 45, 46, 47, 48, 49, 50, 51, 52, 53, 54, 55, 56, 57] (by decide +kernel) (by decide +kernel)
set_option maxRecDepth 20000 in
theorem gX7_doLoad_X7_drains : GoodIn wsX7_doLoad (wsV RX7 79 RX7 yX7_drains wsX7_drains) := goodIn_app (goodIn_of _ (by decide +kernel)) ggX7_doLoad_X7_drains
set_option maxRecDepth 20000 in
theorem ggX7_doLoad_X7_flushesToo : GoodIn wsX7_doLoad wsX7_flushesToo := goodIn_r _ [15, 16, 17, 18, 5, 19, 11, 20, 21, 22, 23, 24, 25, 26, 27, 28, 29, 30, 31, 32, 33, 34, 35, 36, 37, 38, 39, 40, 41, 42, 43, 44, 45, 46, 47, 48, 49, 50, 51, 52, 53, 54, 55, 56, 57] (by decide +kernel) (by decide +kernel)
set_option maxRecDepth 20000 in
theorem gX7_doLoad_X7_flushesToo : GoodIn wsX7_doLoad (wsV RX7 88 RX7 yX7_flushesToo wsX7_flushesToo) := goodIn_app (goodIn_of _ (by decide +kernel)) ggX7_doLoad_X7_flushesToo
theorem dX7_doLoad_0 : decode cX7_doLoad 0 = .ok (.iload_n 1, 1) := by decide +kernel
theorem dX7_doLoad_1 : decode cX7_doLoad 1 = .ok (.i2l, 1) := by decide +kernel
theorem dX7_doLoad_2 : decode cX7_doLoad 2 = .ok (.lconst 1, 1) := by decide +kernel
theorem dX7_doLoad_3 : decode cX7_doLoad 3 = .ok (.ldc2_w 74, 3) := by decide +kernel
theorem dX7_doLoad_6 : decode cX7_doLoad 6 = .ok (.invokestatic 29, 3) := by decide +kernel
theorem dX7_doLoad_9 : decode cX7_doLoad 9 = .ok (.ifCond .ne 6, 3) := by decide +kernel
theorem dX7_doLoad_12 : decode cX7_doLoad 12 = .ok (.ldc 73, 2) := by decide +kernel
theorem dX7_doLoad_14 : decode cX7_doLoad 14 = .ok (.ireturn, 1) := by decide +kernel
theorem dX7_doLoad_15 : decode cX7_doLoad 15 = .ok (.aload_n 0, 1) := by decide +kernel
theorem dX7_doLoad_16 : decode cX7_doLoad 16 = .ok (.iload_n 1, 1) := by decide +kernel
theorem dX7_doLoad_17 : decode cX7_doLoad 17 = .ok (.invokevirtual 79, 3) := by decide +kernel
theorem dX7_doLoad_20 : decode cX7_doLoad 20 = .ok (.aload_n 0, 1) := by decide +kernel
theorem dX7_doLoad_21 : decode cX7_doLoad 21 = .ok (.invokevirtual 88, 3) := by decide +kernel
theorem dX7_doLoad_24 : decode cX7_doLoad 24 = .ok (.ireturn, 1) := by decide +kernel
set_option maxRecDepth 20000 in
theorem ggX7_doLearn_X7_flushesToo : GoodIn wsX7_doLearn wsX7_flushesToo := goodIn_r _ [7, 8, 9, 10, 6, 11, 1, 12, 13, 14, 15, 16, 17, 18, 19, 20, 21, 22, 23, 24, 25, 26, 27, 28, 29, 30, 31, 32, 33, 34, 35, 36, 37, 38, 39, 40, 41, 42, 43, 44, 45, 46, 47, 48, 49] (by decide +kernel) (by decide +kernel)
set_option maxRecDepth 20000 in
theorem gX7_doLearn_X7_flushesToo : GoodIn wsX7_doLearn (wsV RX7 88 RX7 yX7_flushesToo wsX7_flushesToo) := goodIn_app (goodIn_of _ (by decide +kernel)) ggX7_doLearn_X7_flushesToo
theorem dX7_doLearn_0 : decode cX7_doLearn 0 = .ok (.aload_n 0, 1) := by decide +kernel
theorem dX7_doLearn_1 : decode cX7_doLearn 1 = .ok (.getfield 7, 3) := by decide +kernel
theorem dX7_doLearn_4 : decode cX7_doLearn 4 = .ok (.sipush 162, 3) := by decide +kernel
theorem dX7_doLearn_7 : decode cX7_doLearn 7 = .ok (.iaload, 1) := by decide +kernel
theorem dX7_doLearn_8 : decode cX7_doLearn 8 = .ok (.ifCond .eq 6, 3) := by decide +kernel
theorem dX7_doLearn_11 : decode cX7_doLearn 11 = .ok (.ldc 96, 2) := by decide +kernel
theorem dX7_doLearn_13 : decode cX7_doLearn 13 = .ok (.ireturn, 1) := by decide +kernel
theorem dX7_doLearn_14 : decode cX7_doLearn 14 = .ok (.aload_n 0, 1) := by decide +kernel
theorem dX7_doLearn_15 : decode cX7_doLearn 15 = .ok (.getfield 7, 3) := by decide +kernel
theorem dX7_doLearn_18 : decode cX7_doLearn 18 = .ok (.sipush 162, 3) := by decide +kernel
theorem dX7_doLearn_21 : decode cX7_doLearn 21 = .ok (.iconst 1, 1) := by decide +kernel
theorem dX7_doLearn_22 : decode cX7_doLearn 22 = .ok (.iastore, 1) := by decide +kernel
theorem dX7_doLearn_23 : decode cX7_doLearn 23 = .ok (.aload_n 0, 1) := by decide +kernel
theorem dX7_doLearn_24 : decode cX7_doLearn 24 = .ok (.invokevirtual 88, 3) := by decide +kernel
theorem dX7_doLearn_27 : decode cX7_doLearn 27 = .ok (.ireturn, 1) := by decide +kernel
set_option maxRecDepth 20000 in
theorem ggX7_doCut_X7_setting : GoodIn wsX7_doCut wsX7_setting := goodIn_r _ [6, 1, 27, 28, 29, 30, 31, 32, 33, 34, 35, 36, 37, 38, 39, 40] (by decide +kernel) (by decide +kernel)
set_option maxRecDepth 20000 in
theorem gX7_doCut_X7_setting : GoodIn wsX7_doCut (wsV RX7 43 RX7 yX7_setting wsX7_setting) := goodIn_app (goodIn_of _ (by decide +kernel)) ggX7_doCut_X7_setting
set_option maxRecDepth 20000 in
theorem ggX7_doCut_X7_many : GoodIn wsX7_doCut wsX7_many := goodIn_r _ [10, 1, 27, 28, 29, 30, 31, 32, 33, 34, 35, 36, 37, 38, 39, 40] (by decide +kernel) (by decide +kernel)
set_option maxRecDepth 20000 in
theorem gX7_doCut_X7_many : GoodIn wsX7_doCut (wsV RX7 47 RX7 yX7_many wsX7_many) := goodIn_app (goodIn_of _ (by decide +kernel)) ggX7_doCut_X7_many
set_option maxRecDepth 20000 in
theorem ggX7_doCut_X7_oldest : GoodIn wsX7_doCut wsX7_oldest := goodIn_r _ [14, 1, 27, 28, 29, 30, 31, 32, 33, 34, 35, 36, 37, 38, 39, 40] (by decide +kernel) (by decide +kernel)
set_option maxRecDepth 20000 in
theorem gX7_doCut_X7_oldest : GoodIn wsX7_doCut (wsV RX7 54 RX7 yX7_oldest wsX7_oldest) := goodIn_app (goodIn_of _ (by decide +kernel)) ggX7_doCut_X7_oldest
set_option maxRecDepth 20000 in
theorem ggX7_doCut_X7_flushes : GoodIn wsX7_doCut wsX7_flushes := goodIn_r _ [18, 1, 19, 20, 21, 5, 22, 23, 24, 25, 26, 27, 28, 29, 30, 31, 32, 33, 34, 35, 36, 37, 38, 39, 40] (by decide +kernel) (by decide +kernel)
set_option maxRecDepth 20000 in
theorem gX7_doCut_X7_flushes : GoodIn wsX7_doCut (wsV RX7 57 RX7 yX7_flushes wsX7_flushes) := goodIn_app (goodIn_of _ (by decide +kernel)) ggX7_doCut_X7_flushes
set_option maxRecDepth 20000 in
theorem ggX7_doCut_X7_counts : GoodIn wsX7_doCut wsX7_counts := goodIn_r _ [26, 1, 27, 28, 29, 30, 31, 32, 33, 34, 35, 36, 37, 38, 39, 40] (by decide +kernel) (by decide +kernel)
set_option maxRecDepth 20000 in
theorem gX7_doCut_X7_counts : GoodIn wsX7_doCut (wsV RX7 35 RX7 yX7_counts wsX7_counts) := goodIn_app (goodIn_of _ (by decide +kernel)) ggX7_doCut_X7_counts
theorem dX7_doCut_0 : decode cX7_doCut 0 = .ok (.aload_n 0, 1) := by decide +kernel
theorem dX7_doCut_1 : decode cX7_doCut 1 = .ok (.getfield 7, 3) := by decide +kernel
theorem dX7_doCut_4 : decode cX7_doCut 4 = .ok (.sipush 160, 3) := by decide +kernel
theorem dX7_doCut_7 : decode cX7_doCut 7 = .ok (.iaload, 1) := by decide +kernel
theorem dX7_doCut_8 : decode cX7_doCut 8 = .ok (.aload_n 0, 1) := by decide +kernel
theorem dX7_doCut_9 : decode cX7_doCut 9 = .ok (.iconst 1, 1) := by decide +kernel
theorem dX7_doCut_10 : decode cX7_doCut 10 = .ok (.invokevirtual 43, 3) := by decide +kernel
theorem dX7_doCut_13 : decode cX7_doCut 13 = .ok (.if_icmp .ge 15, 3) := by decide +kernel
theorem dX7_doCut_16 : decode cX7_doCut 16 = .ok (.aload_n 0, 1) := by decide +kernel
theorem dX7_doCut_17 : decode cX7_doCut 17 = .ok (.getfield 7, 3) := by decide +kernel
theorem dX7_doCut_20 : decode cX7_doCut 20 = .ok (.sipush 160, 3) := by decide +kernel
theorem dX7_doCut_23 : decode cX7_doCut 23 = .ok (.iconst 0, 1) := by decide +kernel
theorem dX7_doCut_24 : decode cX7_doCut 24 = .ok (.iastore, 1) := by decide +kernel
theorem dX7_doCut_25 : decode cX7_doCut 25 = .ok (.goto 71, 3) := by decide +kernel
theorem dX7_doCut_28 : decode cX7_doCut 28 = .ok (.aload_n 0, 1) := by decide +kernel
theorem dX7_doCut_29 : decode cX7_doCut 29 = .ok (.getfield 7, 3) := by decide +kernel
theorem dX7_doCut_32 : decode cX7_doCut 32 = .ok (.sipush 160, 3) := by decide +kernel
theorem dX7_doCut_35 : decode cX7_doCut 35 = .ok (.dup2, 1) := by decide +kernel
theorem dX7_doCut_36 : decode cX7_doCut 36 = .ok (.iaload, 1) := by decide +kernel
theorem dX7_doCut_37 : decode cX7_doCut 37 = .ok (.aload_n 0, 1) := by decide +kernel
theorem dX7_doCut_38 : decode cX7_doCut 38 = .ok (.iconst 1, 1) := by decide +kernel
theorem dX7_doCut_39 : decode cX7_doCut 39 = .ok (.invokevirtual 43, 3) := by decide +kernel
theorem dX7_doCut_42 : decode cX7_doCut 42 = .ok (.isub, 1) := by decide +kernel
theorem dX7_doCut_43 : decode cX7_doCut 43 = .ok (.iastore, 1) := by decide +kernel
theorem dX7_doCut_44 : decode cX7_doCut 44 = .ok (.aload_n 0, 1) := by decide +kernel
theorem dX7_doCut_45 : decode cX7_doCut 45 = .ok (.getfield 7, 3) := by decide +kernel
theorem dX7_doCut_48 : decode cX7_doCut 48 = .ok (.sipush 160, 3) := by decide +kernel
theorem dX7_doCut_51 : decode cX7_doCut 51 = .ok (.iaload, 1) := by decide +kernel
theorem dX7_doCut_52 : decode cX7_doCut 52 = .ok (.aload_n 0, 1) := by decide +kernel
theorem dX7_doCut_53 : decode cX7_doCut 53 = .ok (.iconst 0, 1) := by decide +kernel
theorem dX7_doCut_54 : decode cX7_doCut 54 = .ok (.invokevirtual 43, 3) := by decide +kernel
theorem dX7_doCut_57 : decode cX7_doCut 57 = .ok (.if_icmp .lt 39, 3) := by decide +kernel
theorem dX7_doCut_60 : decode cX7_doCut 60 = .ok (.aload_n 0, 1) := by decide +kernel
theorem dX7_doCut_61 : decode cX7_doCut 61 = .ok (.iconst 2, 1) := by decide +kernel
theorem dX7_doCut_62 : decode cX7_doCut 62 = .ok (.invokevirtual 47, 3) := by decide +kernel
theorem dX7_doCut_65 : decode cX7_doCut 65 = .ok (.ifCond .le 31, 3) := by decide +kernel
theorem dX7_doCut_68 : decode cX7_doCut 68 = .ok (.aload_n 0, 1) := by decide +kernel
theorem dX7_doCut_69 : decode cX7_doCut 69 = .ok (.getfield 7, 3) := by decide +kernel
theorem dX7_doCut_72 : decode cX7_doCut 72 = .ok (.sipush 160, 3) := by decide +kernel
theorem dX7_doCut_75 : decode cX7_doCut 75 = .ok (.dup2, 1) := by decide +kernel
theorem dX7_doCut_76 : decode cX7_doCut 76 = .ok (.iaload, 1) := by decide +kernel
theorem dX7_doCut_77 : decode cX7_doCut 77 = .ok (.aload_n 0, 1) := by decide +kernel
theorem dX7_doCut_78 : decode cX7_doCut 78 = .ok (.iconst 0, 1) := by decide +kernel
theorem dX7_doCut_79 : decode cX7_doCut 79 = .ok (.invokevirtual 43, 3) := by decide +kernel
theorem dX7_doCut_82 : decode cX7_doCut 82 = .ok (.isub, 1) := by decide +kernel
theorem dX7_doCut_83 : decode cX7_doCut 83 = .ok (.iastore, 1) := by decide +kernel
theorem dX7_doCut_84 : decode cX7_doCut 84 = .ok (.aload_n 0, 1) := by decide +kernel
theorem dX7_doCut_85 : decode cX7_doCut 85 = .ok (.aload_n 0, 1) := by decide +kernel
theorem dX7_doCut_86 : decode cX7_doCut 86 = .ok (.iconst 2, 1) := by decide +kernel
theorem dX7_doCut_87 : decode cX7_doCut 87 = .ok (.invokevirtual 54, 3) := by decide +kernel
theorem dX7_doCut_90 : decode cX7_doCut 90 = .ok (.invokevirtual 57, 3) := by decide +kernel
theorem dX7_doCut_93 : decode cX7_doCut 93 = .ok (.goto (-49), 3) := by decide +kernel
theorem dX7_doCut_96 : decode cX7_doCut 96 = .ok (.aload_n 0, 1) := by decide +kernel
theorem dX7_doCut_97 : decode cX7_doCut 97 = .ok (.iconst 2, 1) := by decide +kernel
theorem dX7_doCut_98 : decode cX7_doCut 98 = .ok (.invokevirtual 47, 3) := by decide +kernel
theorem dX7_doCut_101 : decode cX7_doCut 101 = .ok (.istore_n 1, 1) := by decide +kernel
theorem dX7_doCut_102 : decode cX7_doCut 102 = .ok (.aload_n 0, 1) := by decide +kernel
theorem dX7_doCut_103 : decode cX7_doCut 103 = .ok (.getfield 7, 3) := by decide +kernel
theorem dX7_doCut_106 : decode cX7_doCut 106 = .ok (.sipush 169, 3) := by decide +kernel
theorem dX7_doCut_109 : decode cX7_doCut 109 = .ok (.dup2, 1) := by decide +kernel
theorem dX7_doCut_110 : decode cX7_doCut 110 = .ok (.iaload, 1) := by decide +kernel
theorem dX7_doCut_111 : decode cX7_doCut 111 = .ok (.iload_n 1, 1) := by decide +kernel
theorem dX7_doCut_112 : decode cX7_doCut 112 = .ok (.iadd, 1) := by decide +kernel
theorem dX7_doCut_113 : decode cX7_doCut 113 = .ok (.iastore, 1) := by decide +kernel
theorem dX7_doCut_114 : decode cX7_doCut 114 = .ok (.aload_n 0, 1) := by decide +kernel
theorem dX7_doCut_115 : decode cX7_doCut 115 = .ok (.bipush 6, 2) := by decide +kernel
theorem dX7_doCut_117 : decode cX7_doCut 117 = .ok (.invokevirtual 35, 3) := by decide +kernel
theorem dX7_doCut_120 : decode cX7_doCut 120 = .ok (.aload_n 0, 1) := by decide +kernel
theorem dX7_doCut_121 : decode cX7_doCut 121 = .ok (.getfield 7, 3) := by decide +kernel
theorem dX7_doCut_124 : decode cX7_doCut 124 = .ok (.sipush 162, 3) := by decide +kernel
theorem dX7_doCut_127 : decode cX7_doCut 127 = .ok (.iconst 0, 1) := by decide +kernel
theorem dX7_doCut_128 : decode cX7_doCut 128 = .ok (.iastore, 1) := by decide +kernel
theorem dX7_doCut_129 : decode cX7_doCut 129 = .ok (.iconst 0, 1) := by decide +kernel
theorem dX7_doCut_130 : decode cX7_doCut 130 = .ok (.istore_n 2, 1) := by decide +kernel
theorem dX7_doCut_131 : decode cX7_doCut 131 = .ok (.iload_n 2, 1) := by decide +kernel
theorem dX7_doCut_132 : decode cX7_doCut 132 = .ok (.bipush 8, 2) := by decide +kernel
theorem dX7_doCut_134 : decode cX7_doCut 134 = .ok (.if_icmp .ge 20, 3) := by decide +kernel
theorem dX7_doCut_137 : decode cX7_doCut 137 = .ok (.aload_n 0, 1) := by decide +kernel
theorem dX7_doCut_138 : decode cX7_doCut 138 = .ok (.getfield 7, 3) := by decide +kernel
theorem dX7_doCut_141 : decode cX7_doCut 141 = .ok (.sipush 128, 3) := by decide +kernel
theorem dX7_doCut_144 : decode cX7_doCut 144 = .ok (.iload_n 2, 1) := by decide +kernel
theorem dX7_doCut_145 : decode cX7_doCut 145 = .ok (.iadd, 1) := by decide +kernel
theorem dX7_doCut_146 : decode cX7_doCut 146 = .ok (.iconst 0, 1) := by decide +kernel
theorem dX7_doCut_147 : decode cX7_doCut 147 = .ok (.iastore, 1) := by decide +kernel
theorem dX7_doCut_148 : decode cX7_doCut 148 = .ok (.iinc 2 1, 3) := by decide +kernel
theorem dX7_doCut_151 : decode cX7_doCut 151 = .ok (.goto (-20), 3) := by decide +kernel
theorem dX7_doCut_154 : decode cX7_doCut 154 = .ok (.iload_n 1, 1) := by decide +kernel
theorem dX7_doCut_155 : decode cX7_doCut 155 = .ok (.ireturn, 1) := by decide +kernel
set_option maxRecDepth 20000 in
theorem ggX7_doFlush_X7_isLine : GoodIn wsX7_doFlush wsX7_isLine := goodIn_r _ [7, 8, 9, 10, 6, 11] (by decide +kernel) (by decide +kernel)
set_option maxRecDepth 20000 in
theorem gX7_doFlush_X7_isLine : GoodIn wsX7_doFlush (va_wsS RX7 97 yX7_isLine wsX7_isLine) := goodIn_app (goodIn_of _ (by decide +kernel)) ggX7_doFlush_X7_isLine
set_option maxRecDepth 20000 in
theorem ggX7_doFlush_X7_flushes : GoodIn wsX7_doFlush wsX7_flushes := goodIn_r _ [15, 2, 16, 17, 18, 6, 19, 20, 21, 22, 23, 28, 29, 30, 31, 32, 33, 34, 35, 36, 37, 38, 39, 40, 41] (by decide +kernel) (by decide +kernel)
set_option maxRecDepth 20000 in
theorem gX7_doFlush_X7_flushes : GoodIn wsX7_doFlush (wsV RX7 57 RX7 yX7_flushes wsX7_flushes) := goodIn_app (goodIn_of _ (by decide +kernel)) ggX7_doFlush_X7_flushes
set_option maxRecDepth 20000 in
theorem ggX7_doFlush_X7_many : GoodIn wsX7_doFlush wsX7_many := goodIn_r _ [27, 2, 28, 29, 30, 31, 32, 33, 34, 35, 36, 37, 38, 39, 40, 41] (by decide +kernel) (by decide +kernel)
set_option maxRecDepth 20000 in
theorem gX7_doFlush_X7_many : GoodIn wsX7_doFlush (wsV RX7 47 RX7 yX7_many wsX7_many) := goodIn_app (goodIn_of _ (by decide +kernel)) ggX7_doFlush_X7_many
theorem dX7_doFlush_0 : decode cX7_doFlush 0 = .ok (.iload_n 1, 1) := by decide +kernel
theorem dX7_doFlush_1 : decode cX7_doFlush 1 = .ok (.invokestatic 97, 3) := by decide +kernel
theorem dX7_doFlush_4 : decode cX7_doFlush 4 = .ok (.ifCond .ne 6, 3) := by decide +kernel
theorem dX7_doFlush_7 : decode cX7_doFlush 7 = .ok (.ldc 73, 2) := by decide +kernel
theorem dX7_doFlush_9 : decode cX7_doFlush 9 = .ok (.ireturn, 1) := by decide +kernel
theorem dX7_doFlush_10 : decode cX7_doFlush 10 = .ok (.aload_n 0, 1) := by decide +kernel
theorem dX7_doFlush_11 : decode cX7_doFlush 11 = .ok (.getfield 7, 3) := by decide +kernel
theorem dX7_doFlush_14 : decode cX7_doFlush 14 = .ok (.sipush 128, 3) := by decide +kernel
theorem dX7_doFlush_17 : decode cX7_doFlush 17 = .ok (.iload_n 1, 1) := by decide +kernel
theorem dX7_doFlush_18 : decode cX7_doFlush 18 = .ok (.iadd, 1) := by decide +kernel
theorem dX7_doFlush_19 : decode cX7_doFlush 19 = .ok (.iaload, 1) := by decide +kernel
theorem dX7_doFlush_20 : decode cX7_doFlush 20 = .ok (.iconst 2, 1) := by decide +kernel
theorem dX7_doFlush_21 : decode cX7_doFlush 21 = .ok (.if_icmp .eq 6, 3) := by decide +kernel
theorem dX7_doFlush_24 : decode cX7_doFlush 24 = .ok (.ldc 96, 2) := by decide +kernel
theorem dX7_doFlush_26 : decode cX7_doFlush 26 = .ok (.ireturn, 1) := by decide +kernel
theorem dX7_doFlush_27 : decode cX7_doFlush 27 = .ok (.aload_n 0, 1) := by decide +kernel
theorem dX7_doFlush_28 : decode cX7_doFlush 28 = .ok (.iload_n 1, 1) := by decide +kernel
theorem dX7_doFlush_29 : decode cX7_doFlush 29 = .ok (.invokevirtual 57, 3) := by decide +kernel
theorem dX7_doFlush_32 : decode cX7_doFlush 32 = .ok (.aload_n 0, 1) := by decide +kernel
theorem dX7_doFlush_33 : decode cX7_doFlush 33 = .ok (.iconst 2, 1) := by decide +kernel
theorem dX7_doFlush_34 : decode cX7_doFlush 34 = .ok (.invokevirtual 47, 3) := by decide +kernel
theorem dX7_doFlush_37 : decode cX7_doFlush 37 = .ok (.ireturn, 1) := by decide +kernel
set_option maxRecDepth 20000 in
theorem ggX7_doSet_X7_in : GoodIn wsX7_doSet wsX7_in := goodIn_r _ [8] (by decide +kernel) (by decide +kernel)
set_option maxRecDepth 20000 in
theorem gX7_doSet_X7_in : GoodIn wsX7_doSet (va_wsS RX7 29 yX7_in wsX7_in) := goodIn_app (goodIn_of _ (by decide +kernel)) ggX7_doSet_X7_in
theorem dX7_doSet_0 : decode cX7_doSet 0 = .ok (.iload_n 1, 1) := by decide +kernel
theorem dX7_doSet_1 : decode cX7_doSet 1 = .ok (.ifCond .eq 8, 3) := by decide +kernel
theorem dX7_doSet_4 : decode cX7_doSet 4 = .ok (.iload_n 1, 1) := by decide +kernel
theorem dX7_doSet_5 : decode cX7_doSet 5 = .ok (.iconst 3, 1) := by decide +kernel
theorem dX7_doSet_6 : decode cX7_doSet 6 = .ok (.if_icmp .ne 15, 3) := by decide +kernel
theorem dX7_doSet_9 : decode cX7_doSet 9 = .ok (.iload_n 2, 1) := by decide +kernel
theorem dX7_doSet_10 : decode cX7_doSet 10 = .ok (.i2l, 1) := by decide +kernel
theorem dX7_doSet_11 : decode cX7_doSet 11 = .ok (.lconst 1, 1) := by decide +kernel
theorem dX7_doSet_12 : decode cX7_doSet 12 = .ok (.ldc2_w 100, 3) := by decide +kernel
theorem dX7_doSet_15 : decode cX7_doSet 15 = .ok (.invokestatic 29, 3) := by decide +kernel
theorem dX7_doSet_18 : decode cX7_doSet 18 = .ok (.goto 42, 3) := by decide +kernel
theorem dX7_doSet_21 : decode cX7_doSet 21 = .ok (.iload_n 1, 1) := by decide +kernel
theorem dX7_doSet_22 : decode cX7_doSet 22 = .ok (.iconst 1, 1) := by decide +kernel
theorem dX7_doSet_23 : decode cX7_doSet 23 = .ok (.if_icmp .ne 15, 3) := by decide +kernel
theorem dX7_doSet_26 : decode cX7_doSet 26 = .ok (.iload_n 2, 1) := by decide +kernel
theorem dX7_doSet_27 : decode cX7_doSet 27 = .ok (.i2l, 1) := by decide +kernel
theorem dX7_doSet_28 : decode cX7_doSet 28 = .ok (.lconst 0, 1) := by decide +kernel
theorem dX7_doSet_29 : decode cX7_doSet 29 = .ok (.ldc2_w 100, 3) := by decide +kernel
theorem dX7_doSet_32 : decode cX7_doSet 32 = .ok (.invokestatic 29, 3) := by decide +kernel
theorem dX7_doSet_35 : decode cX7_doSet 35 = .ok (.goto 25, 3) := by decide +kernel
theorem dX7_doSet_38 : decode cX7_doSet 38 = .ok (.iload_n 1, 1) := by decide +kernel
theorem dX7_doSet_39 : decode cX7_doSet 39 = .ok (.iconst 2, 1) := by decide +kernel
theorem dX7_doSet_40 : decode cX7_doSet 40 = .ok (.if_icmp .ne 19, 3) := by decide +kernel
theorem dX7_doSet_43 : decode cX7_doSet 43 = .ok (.iload_n 2, 1) := by decide +kernel
theorem dX7_doSet_44 : decode cX7_doSet 44 = .ok (.i2l, 1) := by decide +kernel
theorem dX7_doSet_45 : decode cX7_doSet 45 = .ok (.lconst 0, 1) := by decide +kernel
theorem dX7_doSet_46 : decode cX7_doSet 46 = .ok (.ldc2_w 102, 3) := by decide +kernel
theorem dX7_doSet_49 : decode cX7_doSet 49 = .ok (.invokestatic 29, 3) := by decide +kernel
theorem dX7_doSet_52 : decode cX7_doSet 52 = .ok (.ifCond .eq 7, 3) := by decide +kernel
theorem dX7_doSet_55 : decode cX7_doSet 55 = .ok (.iconst 1, 1) := by decide +kernel
theorem dX7_doSet_56 : decode cX7_doSet 56 = .ok (.goto 4, 3) := by decide +kernel
theorem dX7_doSet_59 : decode cX7_doSet 59 = .ok (.iconst 0, 1) := by decide +kernel
theorem dX7_doSet_60 : decode cX7_doSet 60 = .ok (.istore_n 3, 1) := by decide +kernel
theorem dX7_doSet_61 : decode cX7_doSet 61 = .ok (.iload_n 3, 1) := by decide +kernel
theorem dX7_doSet_62 : decode cX7_doSet 62 = .ok (.ifCond .ne 6, 3) := by decide +kernel
theorem dX7_doSet_65 : decode cX7_doSet 65 = .ok (.ldc 73, 2) := by decide +kernel
theorem dX7_doSet_67 : decode cX7_doSet 67 = .ok (.ireturn, 1) := by decide +kernel
theorem dX7_doSet_68 : decode cX7_doSet 68 = .ok (.aload_n 0, 1) := by decide +kernel
theorem dX7_doSet_69 : decode cX7_doSet 69 = .ok (.getfield 7, 3) := by decide +kernel
theorem dX7_doSet_72 : decode cX7_doSet 72 = .ok (.sipush 174, 3) := by decide +kernel
theorem dX7_doSet_75 : decode cX7_doSet 75 = .ok (.iload_n 1, 1) := by decide +kernel
theorem dX7_doSet_76 : decode cX7_doSet 76 = .ok (.iadd, 1) := by decide +kernel
theorem dX7_doSet_77 : decode cX7_doSet 77 = .ok (.iaload, 1) := by decide +kernel
theorem dX7_doSet_78 : decode cX7_doSet 78 = .ok (.istore 4, 2) := by decide +kernel
theorem dX7_doSet_80 : decode cX7_doSet 80 = .ok (.aload_n 0, 1) := by decide +kernel
theorem dX7_doSet_81 : decode cX7_doSet 81 = .ok (.getfield 7, 3) := by decide +kernel
theorem dX7_doSet_84 : decode cX7_doSet 84 = .ok (.sipush 174, 3) := by decide +kernel
theorem dX7_doSet_87 : decode cX7_doSet 87 = .ok (.iload_n 1, 1) := by decide +kernel
theorem dX7_doSet_88 : decode cX7_doSet 88 = .ok (.iadd, 1) := by decide +kernel
theorem dX7_doSet_89 : decode cX7_doSet 89 = .ok (.iload_n 2, 1) := by decide +kernel
theorem dX7_doSet_90 : decode cX7_doSet 90 = .ok (.iastore, 1) := by decide +kernel
theorem dX7_doSet_91 : decode cX7_doSet 91 = .ok (.iload 4, 2) := by decide +kernel
theorem dX7_doSet_93 : decode cX7_doSet 93 = .ok (.ireturn, 1) := by decide +kernel
set_option maxRecDepth 20000 in
theorem ggX7_read_X7_keep : GoodIn wsX7_read wsX7_keep := goodIn_r _ [5, 6, 7, 55, 56, 57, 58, 59, 60, 61, 62, 63, 64, 65, 66, 67, 68] (by decide +kernel) (by decide +kernel)
set_option maxRecDepth 20000 in
theorem gX7_read_X7_keep : GoodIn wsX7_read (wsV RX7 104 RX7 yX7_keep wsX7_keep) := goodIn_app (goodIn_of _ (by decide +kernel)) ggX7_read_X7_keep
set_option maxRecDepth 20000 in
theorem ggX7_read_X7_doRead : GoodIn wsX7_read wsX7_doRead := goodIn_r _ [11, 7, 12, 13, 14, 4, 15, 16, 17, 18, 19, 20, 21, 22, 23, 24, 25, 26, 27, 28, 29, 30, 31, 32, 33, 34, 35, 36, 37, 38, 39, 40, 41, 42, 43, 44, 45, 46, 47, 55, 56, 57, 58, 59, 60, 61, 62, 63, 64, 65, 66, 67, 68] (by decide +kernel) (by decide +kernel)
set_option maxRecDepth 20000 in
theorem gX7_read_X7_doRead : GoodIn wsX7_read (wsV RX7 107 RX7 yX7_doRead wsX7_doRead) := goodIn_app (goodIn_of _ (by decide +kernel)) ggX7_read_X7_doRead
set_option maxRecDepth 20000 in
theorem ggX7_read_X7_changed : GoodIn wsX7_read wsX7_changed := goodIn_r _ [51, 52, 53, 54, 6, 55, 56, 57, 58, 59, 60, 61, 62, 63, 64, 65, 66, 67, 68] (by decide +kernel) (by decide +kernel)
set_option maxRecDepth 20000 in
theorem gX7_read_X7_changed : GoodIn wsX7_read (wsV RX7 110 RX7 yX7_changed wsX7_changed) := goodIn_app (goodIn_of _ (by decide +kernel)) ggX7_read_X7_changed
theorem dX7_read_0 : decode cX7_read 0 = .ok (.aload_n 0, 1) := by decide +kernel
theorem dX7_read_1 : decode cX7_read 1 = .ok (.invokevirtual 104, 3) := by decide +kernel
theorem dX7_read_4 : decode cX7_read 4 = .ok (.aload_n 0, 1) := by decide +kernel
theorem dX7_read_5 : decode cX7_read 5 = .ok (.aload_n 0, 1) := by decide +kernel
theorem dX7_read_6 : decode cX7_read 6 = .ok (.iload_n 1, 1) := by decide +kernel
theorem dX7_read_7 : decode cX7_read 7 = .ok (.invokevirtual 107, 3) := by decide +kernel
theorem dX7_read_10 : decode cX7_read 10 = .ok (.invokevirtual 110, 3) := by decide +kernel
theorem dX7_read_13 : decode cX7_read 13 = .ok (.ireturn, 1) := by decide +kernel
set_option maxRecDepth 20000 in
theorem ggX7_write_X7_keep : GoodIn wsX7_write wsX7_keep := goodIn_r _ [5, 6, 7, 68, 69, 70, 71, 72, 73, 74, 75, 76, 77, 78, 79, 80, 81] (by decide +kernel) (by decide +kernel)
set_option maxRecDepth 20000 in
theorem gX7_write_X7_keep : GoodIn wsX7_write (wsV RX7 104 RX7 yX7_keep wsX7_keep) := goodIn_app (goodIn_of _ (by decide +kernel)) ggX7_write_X7_keep
set_option maxRecDepth 20000 in
theorem ggX7_write_X7_doWrite : GoodIn wsX7_write wsX7_doWrite := goodIn_r _ [11, 12, 13, 7, 14, 15, 4, 16, 17, 18, 19, 20, 21, 22, 23, 24, 25, 26, 27, 28, 29, 30, 31, 32, 33, 34, 35, 36, 37, 38, 39, 40, 41, 42, 43, 44, 45, 46, 47, 48, 49, 50, 51, 52, 53, 54, 55, 56, 57, 58, 59, 60, 68, 69, 70, 71, 72, 73, 74, 75, 76, 77, 78, 79, 80, 81] (by decide +kernel) (by decide +kernel)
set_option maxRecDepth 20000 in
theorem gX7_write_X7_doWrite : GoodIn wsX7_write (wsV RX7 113 RX7 yX7_doWrite wsX7_doWrite) := goodIn_app (goodIn_of _ (by decide +kernel)) ggX7_write_X7_doWrite
set_option maxRecDepth 20000 in
theorem ggX7_write_X7_changed : GoodIn wsX7_write wsX7_changed := goodIn_r _ [64, 65, 66, 67, 6, 68, 69, 70, 71, 72, 73, 74, 75, 76, 77, 78, 79, 80, 81] (by decide +kernel) (by decide +kernel)
set_option maxRecDepth 20000 in
theorem gX7_write_X7_changed : GoodIn wsX7_write (wsV RX7 110 RX7 yX7_changed wsX7_changed) := goodIn_app (goodIn_of _ (by decide +kernel)) ggX7_write_X7_changed
theorem dX7_write_0 : decode cX7_write 0 = .ok (.aload_n 0, 1) := by decide +kernel
theorem dX7_write_1 : decode cX7_write 1 = .ok (.invokevirtual 104, 3) := by decide +kernel
theorem dX7_write_4 : decode cX7_write 4 = .ok (.aload_n 0, 1) := by decide +kernel
theorem dX7_write_5 : decode cX7_write 5 = .ok (.aload_n 0, 1) := by decide +kernel
theorem dX7_write_6 : decode cX7_write 6 = .ok (.iload_n 1, 1) := by decide +kernel
theorem dX7_write_7 : decode cX7_write 7 = .ok (.iload_n 2, 1) := by decide +kernel
theorem dX7_write_8 : decode cX7_write 8 = .ok (.invokevirtual 113, 3) := by decide +kernel
theorem dX7_write_11 : decode cX7_write 11 = .ok (.invokevirtual 110, 3) := by decide +kernel
theorem dX7_write_14 : decode cX7_write 14 = .ok (.ireturn, 1) := by decide +kernel
set_option maxRecDepth 20000 in
theorem ggX7_flush_X7_keep : GoodIn wsX7_flush wsX7_keep := goodIn_r _ [5, 6, 7, 44, 45, 46, 47, 48, 49, 50, 51, 52, 53, 54, 55, 56, 57] (by decide +kernel) (by decide +kernel)
set_option maxRecDepth 20000 in
theorem gX7_flush_X7_keep : GoodIn wsX7_flush (wsV RX7 104 RX7 yX7_keep wsX7_keep) := goodIn_app (goodIn_of _ (by decide +kernel)) ggX7_flush_X7_keep
set_option maxRecDepth 20000 in
theorem ggX7_flush_X7_doFlush : GoodIn wsX7_flush wsX7_doFlush := goodIn_r _ [11, 12, 7, 13, 14, 15, 4, 16, 17, 18, 19, 20, 21, 22, 23, 24, 25, 26, 27, 28, 29, 30, 31, 32, 33, 34, 35, 36, 44, 45, 46, 47, 48, 49, 50, 51, 52, 53, 54, 55, 56, 57] (by decide +kernel) (by decide +kernel)
set_option maxRecDepth 20000 in
theorem gX7_flush_X7_doFlush : GoodIn wsX7_flush (wsV RX7 117 RX7 yX7_doFlush wsX7_doFlush) := goodIn_app (goodIn_of _ (by decide +kernel)) ggX7_flush_X7_doFlush
set_option maxRecDepth 20000 in
theorem ggX7_flush_X7_changed : GoodIn wsX7_flush wsX7_changed := goodIn_r _ [40, 41, 42, 43, 6, 44, 45, 46, 47, 48, 49, 50, 51, 52, 53, 54, 55, 56, 57] (by decide +kernel) (by decide +kernel)
set_option maxRecDepth 20000 in
theorem gX7_flush_X7_changed : GoodIn wsX7_flush (wsV RX7 110 RX7 yX7_changed wsX7_changed) := goodIn_app (goodIn_of _ (by decide +kernel)) ggX7_flush_X7_changed
theorem dX7_flush_0 : decode cX7_flush 0 = .ok (.aload_n 0, 1) := by decide +kernel
theorem dX7_flush_1 : decode cX7_flush 1 = .ok (.invokevirtual 104, 3) := by decide +kernel
theorem dX7_flush_4 : decode cX7_flush 4 = .ok (.aload_n 0, 1) := by decide +kernel
theorem dX7_flush_5 : decode cX7_flush 5 = .ok (.aload_n 0, 1) := by decide +kernel
theorem dX7_flush_6 : decode cX7_flush 6 = .ok (.iload_n 1, 1) := by decide +kernel
theorem dX7_flush_7 : decode cX7_flush 7 = .ok (.invokevirtual 117, 3) := by decide +kernel
theorem dX7_flush_10 : decode cX7_flush 10 = .ok (.invokevirtual 110, 3) := by decide +kernel
theorem dX7_flush_13 : decode cX7_flush 13 = .ok (.ireturn, 1) := by decide +kernel
set_option maxRecDepth 20000 in
theorem ggX7_tick_X7_keep : GoodIn wsX7_tick wsX7_keep := goodIn_r _ [5, 6, 7, 76, 77, 78, 79, 80, 81, 82, 83, 84, 85, 86, 87, 88, 89] (by decide +kernel) (by decide +kernel)
set_option maxRecDepth 20000 in
theorem gX7_tick_X7_keep : GoodIn wsX7_tick (wsV RX7 104 RX7 yX7_keep wsX7_keep) := goodIn_app (goodIn_of _ (by decide +kernel)) ggX7_tick_X7_keep
set_option maxRecDepth 20000 in
theorem ggX7_tick_X7_doTick : GoodIn wsX7_tick wsX7_doTick := goodIn_r _ [11, 12, 13, 14, 15, 4, 16, 17, 18, 19, 20, 7, 21, 22, 23, 24, 25, 26, 27, 28, 29, 30, 31, 32, 33, 34, 35, 36, 37, 38, 39, 40, 41, 42, 43, 44, 45, 46, 47, 48, 49, 50, 51, 52, 53, 54, 55, 56, 57, 58, 59, 60, 61, 62, 63, 64, 65, 66, 67, 68, 76, 77, 78, 79, 80, 81, 82, 83, 84, 85, 86, 87, 88, 89] (by decide +kernel) (by decide +kernel)
set_option maxRecDepth 20000 in
theorem gX7_tick_X7_doTick : GoodIn wsX7_tick (wsV RX7 120 RX7 yX7_doTick wsX7_doTick) := goodIn_app (goodIn_of _ (by decide +kernel)) ggX7_tick_X7_doTick
set_option maxRecDepth 20000 in
theorem ggX7_tick_X7_changed : GoodIn wsX7_tick wsX7_changed := goodIn_r _ [72, 73, 74, 75, 6, 76, 77, 78, 79, 80, 81, 82, 83, 84, 85, 86, 87, 88, 89] (by decide +kernel) (by decide +kernel)
set_option maxRecDepth 20000 in
theorem gX7_tick_X7_changed : GoodIn wsX7_tick (wsV RX7 110 RX7 yX7_changed wsX7_changed) := goodIn_app (goodIn_of _ (by decide +kernel)) ggX7_tick_X7_changed
theorem dX7_tick_0 : decode cX7_tick 0 = .ok (.aload_n 0, 1) := by decide +kernel
theorem dX7_tick_1 : decode cX7_tick 1 = .ok (.invokevirtual 104, 3) := by decide +kernel
theorem dX7_tick_4 : decode cX7_tick 4 = .ok (.aload_n 0, 1) := by decide +kernel
theorem dX7_tick_5 : decode cX7_tick 5 = .ok (.aload_n 0, 1) := by decide +kernel
theorem dX7_tick_6 : decode cX7_tick 6 = .ok (.iload_n 1, 1) := by decide +kernel
theorem dX7_tick_7 : decode cX7_tick 7 = .ok (.invokevirtual 120, 3) := by decide +kernel
theorem dX7_tick_10 : decode cX7_tick 10 = .ok (.invokevirtual 110, 3) := by decide +kernel
theorem dX7_tick_13 : decode cX7_tick 13 = .ok (.ireturn, 1) := by decide +kernel
set_option maxRecDepth 20000 in
theorem ggX7_load_X7_keep : GoodIn wsX7_load wsX7_keep := goodIn_r _ [5, 6, 7, 60, 61, 62, 63, 64, 65, 66, 67, 68, 69, 70, 71, 72, 73] (by decide +kernel) (by decide +kernel)
set_option maxRecDepth 20000 in
theorem gX7_load_X7_keep : GoodIn wsX7_load (wsV RX7 104 RX7 yX7_keep wsX7_keep) := goodIn_app (goodIn_of _ (by decide +kernel)) ggX7_load_X7_keep
set_option maxRecDepth 20000 in
theorem ggX7_load_X7_doLoad : GoodIn wsX7_load wsX7_doLoad := goodIn_r _ [11, 12, 13, 14, 15, 4, 16, 17, 18, 19, 20, 7, 21, 22, 23, 24, 25, 26, 27, 28, 29, 30, 31, 32, 33, 34, 35, 36, 37, 38, 39, 40, 41, 42, 43, 44, 45, 46, 47, 48, 49, 50, 51, 52, 60, 61, 62, 63, 64, 65, 66, 67, 68, 69, 70, 71, 72, 73] (by decide +kernel) (by decide +kernel)
set_option maxRecDepth 20000 in
theorem gX7_load_X7_doLoad : GoodIn wsX7_load (wsV RX7 123 RX7 yX7_doLoad wsX7_doLoad) := goodIn_app (goodIn_of _ (by decide +kernel)) ggX7_load_X7_doLoad
set_option maxRecDepth 20000 in
theorem ggX7_load_X7_changed : GoodIn wsX7_load wsX7_changed := goodIn_r _ [56, 57, 58, 59, 6, 60, 61, 62, 63, 64, 65, 66, 67, 68, 69, 70, 71, 72, 73] (by decide +kernel) (by decide +kernel)
set_option maxRecDepth 20000 in
theorem gX7_load_X7_changed : GoodIn wsX7_load (wsV RX7 110 RX7 yX7_changed wsX7_changed) := goodIn_app (goodIn_of _ (by decide +kernel)) ggX7_load_X7_changed
theorem dX7_load_0 : decode cX7_load 0 = .ok (.aload_n 0, 1) := by decide +kernel
theorem dX7_load_1 : decode cX7_load 1 = .ok (.invokevirtual 104, 3) := by decide +kernel
theorem dX7_load_4 : decode cX7_load 4 = .ok (.aload_n 0, 1) := by decide +kernel
theorem dX7_load_5 : decode cX7_load 5 = .ok (.aload_n 0, 1) := by decide +kernel
theorem dX7_load_6 : decode cX7_load 6 = .ok (.iload_n 1, 1) := by decide +kernel
theorem dX7_load_7 : decode cX7_load 7 = .ok (.invokevirtual 123, 3) := by decide +kernel
theorem dX7_load_10 : decode cX7_load 10 = .ok (.invokevirtual 110, 3) := by decide +kernel
theorem dX7_load_13 : decode cX7_load 13 = .ok (.ireturn, 1) := by decide +kernel
set_option maxRecDepth 20000 in
theorem ggX7_learn_X7_keep : GoodIn wsX7_learn wsX7_keep := goodIn_r _ [5, 6, 7, 52, 53, 54, 55, 56, 57, 58, 59, 60, 61, 62, 63, 64, 65] (by decide +kernel) (by decide +kernel)
set_option maxRecDepth 20000 in
theorem gX7_learn_X7_keep : GoodIn wsX7_learn (wsV RX7 104 RX7 yX7_keep wsX7_keep) := goodIn_app (goodIn_of _ (by decide +kernel)) ggX7_learn_X7_keep
set_option maxRecDepth 20000 in
theorem ggX7_learn_X7_doLearn : GoodIn wsX7_learn wsX7_doLearn := goodIn_r _ [11, 7, 12, 13, 14, 15, 4, 16, 17, 18, 19, 20, 21, 22, 23, 24, 25, 26, 27, 28, 29, 30, 31, 32, 33, 34, 35, 36, 37, 38, 39, 40, 41, 42, 43, 44, 52, 53, 54, 55, 56, 57, 58, 59, 60, 61, 62, 63, 64, 65] (by decide +kernel) (by decide +kernel)
set_option maxRecDepth 20000 in
theorem gX7_learn_X7_doLearn : GoodIn wsX7_learn (wsV RX7 126 RX7 yX7_doLearn wsX7_doLearn) := goodIn_app (goodIn_of _ (by decide +kernel)) ggX7_learn_X7_doLearn
set_option maxRecDepth 20000 in
theorem ggX7_learn_X7_changed : GoodIn wsX7_learn wsX7_changed := goodIn_r _ [48, 49, 50, 51, 6, 52, 53, 54, 55, 56, 57, 58, 59, 60, 61, 62, 63, 64, 65] (by decide +kernel) (by decide +kernel)
set_option maxRecDepth 20000 in
theorem gX7_learn_X7_changed : GoodIn wsX7_learn (wsV RX7 110 RX7 yX7_changed wsX7_changed) := goodIn_app (goodIn_of _ (by decide +kernel)) ggX7_learn_X7_changed
theorem dX7_learn_0 : decode cX7_learn 0 = .ok (.aload_n 0, 1) := by decide +kernel
theorem dX7_learn_1 : decode cX7_learn 1 = .ok (.invokevirtual 104, 3) := by decide +kernel
theorem dX7_learn_4 : decode cX7_learn 4 = .ok (.aload_n 0, 1) := by decide +kernel
theorem dX7_learn_5 : decode cX7_learn 5 = .ok (.aload_n 0, 1) := by decide +kernel
theorem dX7_learn_6 : decode cX7_learn 6 = .ok (.invokevirtual 126, 3) := by decide +kernel
theorem dX7_learn_9 : decode cX7_learn 9 = .ok (.invokevirtual 110, 3) := by decide +kernel
theorem dX7_learn_12 : decode cX7_learn 12 = .ok (.ireturn, 1) := by decide +kernel
set_option maxRecDepth 20000 in
theorem ggX7_cut_X7_keep : GoodIn wsX7_cut wsX7_keep := goodIn_r _ [5, 6, 7, 43, 44, 45, 46, 47, 48, 49, 50, 51, 52, 53, 54, 55, 56] (by decide +kernel) (by decide +kernel)
set_option maxRecDepth 20000 in
theorem gX7_cut_X7_keep : GoodIn wsX7_cut (wsV RX7 104 RX7 yX7_keep wsX7_keep) := goodIn_app (goodIn_of _ (by decide +kernel)) ggX7_cut_X7_keep
set_option maxRecDepth 20000 in
theorem ggX7_cut_X7_doCut : GoodIn wsX7_cut wsX7_doCut := goodIn_r _ [11, 7, 12, 13, 14, 4, 15, 16, 17, 18, 19, 20, 21, 22, 23, 24, 25, 26, 27, 28, 29, 30, 31, 32, 33, 34, 35, 43, 44, 45, 46, 47, 48, 49, 50, 51, 52, 53, 54, 55, 56] (by decide +kernel) (by decide +kernel)
set_option maxRecDepth 20000 in
theorem gX7_cut_X7_doCut : GoodIn wsX7_cut (wsV RX7 129 RX7 yX7_doCut wsX7_doCut) := goodIn_app (goodIn_of _ (by decide +kernel)) ggX7_cut_X7_doCut
set_option maxRecDepth 20000 in
theorem ggX7_cut_X7_changed : GoodIn wsX7_cut wsX7_changed := goodIn_r _ [39, 40, 41, 42, 6, 43, 44, 45, 46, 47, 48, 49, 50, 51, 52, 53, 54, 55, 56] (by decide +kernel) (by decide +kernel)
set_option maxRecDepth 20000 in
theorem gX7_cut_X7_changed : GoodIn wsX7_cut (wsV RX7 110 RX7 yX7_changed wsX7_changed) := goodIn_app (goodIn_of _ (by decide +kernel)) ggX7_cut_X7_changed
theorem dX7_cut_0 : decode cX7_cut 0 = .ok (.aload_n 0, 1) := by decide +kernel
theorem dX7_cut_1 : decode cX7_cut 1 = .ok (.invokevirtual 104, 3) := by decide +kernel
theorem dX7_cut_4 : decode cX7_cut 4 = .ok (.aload_n 0, 1) := by decide +kernel
theorem dX7_cut_5 : decode cX7_cut 5 = .ok (.aload_n 0, 1) := by decide +kernel
theorem dX7_cut_6 : decode cX7_cut 6 = .ok (.invokevirtual 129, 3) := by decide +kernel
theorem dX7_cut_9 : decode cX7_cut 9 = .ok (.invokevirtual 110, 3) := by decide +kernel
theorem dX7_cut_12 : decode cX7_cut 12 = .ok (.ireturn, 1) := by decide +kernel
set_option maxRecDepth 20000 in
theorem ggX7_set_X7_keep : GoodIn wsX7_set wsX7_keep := goodIn_r _ [5, 6, 7, 25, 26, 27, 28, 29, 30, 31, 32, 33, 34, 35, 36, 37, 38] (by decide +kernel) (by decide +kernel)
set_option maxRecDepth 20000 in
theorem gX7_set_X7_keep : GoodIn wsX7_set (wsV RX7 104 RX7 yX7_keep wsX7_keep) := goodIn_app (goodIn_of _ (by decide +kernel)) ggX7_set_X7_keep
set_option maxRecDepth 20000 in
theorem ggX7_set_X7_doSet : GoodIn wsX7_set wsX7_doSet := goodIn_r _ [11, 12, 13, 14, 7, 15, 16, 4, 17, 25, 26, 27, 28, 29, 30, 31, 32, 33, 34, 35, 36, 37, 38] (by decide +kernel) (by decide +kernel)
set_option maxRecDepth 20000 in
theorem gX7_set_X7_doSet : GoodIn wsX7_set (wsV RX7 132 RX7 yX7_doSet wsX7_doSet) := goodIn_app (goodIn_of _ (by decide +kernel)) ggX7_set_X7_doSet
set_option maxRecDepth 20000 in
theorem ggX7_set_X7_changed : GoodIn wsX7_set wsX7_changed := goodIn_r _ [21, 22, 23, 24, 6, 25, 26, 27, 28, 29, 30, 31, 32, 33, 34, 35, 36, 37, 38] (by decide +kernel) (by decide +kernel)
set_option maxRecDepth 20000 in
theorem gX7_set_X7_changed : GoodIn wsX7_set (wsV RX7 110 RX7 yX7_changed wsX7_changed) := goodIn_app (goodIn_of _ (by decide +kernel)) ggX7_set_X7_changed
theorem dX7_set_0 : decode cX7_set 0 = .ok (.aload_n 0, 1) := by decide +kernel
theorem dX7_set_1 : decode cX7_set 1 = .ok (.invokevirtual 104, 3) := by decide +kernel
theorem dX7_set_4 : decode cX7_set 4 = .ok (.aload_n 0, 1) := by decide +kernel
theorem dX7_set_5 : decode cX7_set 5 = .ok (.aload_n 0, 1) := by decide +kernel
theorem dX7_set_6 : decode cX7_set 6 = .ok (.iload_n 1, 1) := by decide +kernel
theorem dX7_set_7 : decode cX7_set 7 = .ok (.iload_n 2, 1) := by decide +kernel
theorem dX7_set_8 : decode cX7_set 8 = .ok (.invokevirtual 132, 3) := by decide +kernel
theorem dX7_set_11 : decode cX7_set 11 = .ok (.invokevirtual 110, 3) := by decide +kernel
theorem dX7_set_14 : decode cX7_set 14 = .ok (.ireturn, 1) := by decide +kernel
theorem dX7_lowerTurns_0 : decode cX7_lowerTurns 0 = .ok (.iconst 0, 1) := by decide +kernel
theorem dX7_lowerTurns_1 : decode cX7_lowerTurns 1 = .ok (.istore_n 2, 1) := by decide +kernel
theorem dX7_lowerTurns_2 : decode cX7_lowerTurns 2 = .ok (.iconst 0, 1) := by decide +kernel
theorem dX7_lowerTurns_3 : decode cX7_lowerTurns 3 = .ok (.istore_n 3, 1) := by decide +kernel
theorem dX7_lowerTurns_4 : decode cX7_lowerTurns 4 = .ok (.iload_n 3, 1) := by decide +kernel
theorem dX7_lowerTurns_5 : decode cX7_lowerTurns 5 = .ok (.bipush 8, 2) := by decide +kernel
theorem dX7_lowerTurns_7 : decode cX7_lowerTurns 7 = .ok (.if_icmp .ge 53, 3) := by decide +kernel
theorem dX7_lowerTurns_10 : decode cX7_lowerTurns 10 = .ok (.iload_n 2, 1) := by decide +kernel
theorem dX7_lowerTurns_11 : decode cX7_lowerTurns 11 = .ok (.aload_n 0, 1) := by decide +kernel
theorem dX7_lowerTurns_12 : decode cX7_lowerTurns 12 = .ok (.getfield 7, 3) := by decide +kernel
theorem dX7_lowerTurns_15 : decode cX7_lowerTurns 15 = .ok (.sipush 128, 3) := by decide +kernel
theorem dX7_lowerTurns_18 : decode cX7_lowerTurns 18 = .ok (.iload_n 3, 1) := by decide +kernel
theorem dX7_lowerTurns_19 : decode cX7_lowerTurns 19 = .ok (.iadd, 1) := by decide +kernel
theorem dX7_lowerTurns_20 : decode cX7_lowerTurns 20 = .ok (.iaload, 1) := by decide +kernel
theorem dX7_lowerTurns_21 : decode cX7_lowerTurns 21 = .ok (.ifCond .eq 30, 3) := by decide +kernel
theorem dX7_lowerTurns_24 : decode cX7_lowerTurns 24 = .ok (.aload_n 0, 1) := by decide +kernel
theorem dX7_lowerTurns_25 : decode cX7_lowerTurns 25 = .ok (.getfield 7, 3) := by decide +kernel
theorem dX7_lowerTurns_28 : decode cX7_lowerTurns 28 = .ok (.sipush 152, 3) := by decide +kernel
theorem dX7_lowerTurns_31 : decode cX7_lowerTurns 31 = .ok (.iload_n 3, 1) := by decide +kernel
theorem dX7_lowerTurns_32 : decode cX7_lowerTurns 32 = .ok (.iadd, 1) := by decide +kernel
theorem dX7_lowerTurns_33 : decode cX7_lowerTurns 33 = .ok (.iaload, 1) := by decide +kernel
theorem dX7_lowerTurns_34 : decode cX7_lowerTurns 34 = .ok (.aload_n 0, 1) := by decide +kernel
theorem dX7_lowerTurns_35 : decode cX7_lowerTurns 35 = .ok (.getfield 7, 3) := by decide +kernel
theorem dX7_lowerTurns_38 : decode cX7_lowerTurns 38 = .ok (.sipush 152, 3) := by decide +kernel
theorem dX7_lowerTurns_41 : decode cX7_lowerTurns 41 = .ok (.iload_n 1, 1) := by decide +kernel
theorem dX7_lowerTurns_42 : decode cX7_lowerTurns 42 = .ok (.iadd, 1) := by decide +kernel
theorem dX7_lowerTurns_43 : decode cX7_lowerTurns 43 = .ok (.iaload, 1) := by decide +kernel
theorem dX7_lowerTurns_44 : decode cX7_lowerTurns 44 = .ok (.if_icmp .ge 7, 3) := by decide +kernel
theorem dX7_lowerTurns_47 : decode cX7_lowerTurns 47 = .ok (.iconst 1, 1) := by decide +kernel
theorem dX7_lowerTurns_48 : decode cX7_lowerTurns 48 = .ok (.goto 4, 3) := by decide +kernel
theorem dX7_lowerTurns_51 : decode cX7_lowerTurns 51 = .ok (.iconst 0, 1) := by decide +kernel
theorem dX7_lowerTurns_52 : decode cX7_lowerTurns 52 = .ok (.iadd, 1) := by decide +kernel
theorem dX7_lowerTurns_53 : decode cX7_lowerTurns 53 = .ok (.istore_n 2, 1) := by decide +kernel
theorem dX7_lowerTurns_54 : decode cX7_lowerTurns 54 = .ok (.iinc 3 1, 3) := by decide +kernel
theorem dX7_lowerTurns_57 : decode cX7_lowerTurns 57 = .ok (.goto (-53), 3) := by decide +kernel
theorem dX7_lowerTurns_60 : decode cX7_lowerTurns 60 = .ok (.iload_n 2, 1) := by decide +kernel
theorem dX7_lowerTurns_61 : decode cX7_lowerTurns 61 = .ok (.ireturn, 1) := by decide +kernel
set_option maxRecDepth 20000 in
theorem ggX7_lineOf_X7_isLine : GoodIn wsX7_lineOf wsX7_isLine := goodIn_r _ [8, 9, 10, 11, 7, 12] (by decide +kernel) (by decide +kernel)
set_option maxRecDepth 20000 in
theorem gX7_lineOf_X7_isLine : GoodIn wsX7_lineOf (va_wsS RX7 97 yX7_isLine wsX7_isLine) := goodIn_app (goodIn_of _ (by decide +kernel)) ggX7_lineOf_X7_isLine
set_option maxRecDepth 20000 in
theorem ggX7_lineOf_X7_in : GoodIn wsX7_lineOf wsX7_in := goodIn_r _ [12] (by decide +kernel) (by decide +kernel)
set_option maxRecDepth 20000 in
theorem gX7_lineOf_X7_in : GoodIn wsX7_lineOf (va_wsS RX7 29 yX7_in wsX7_in) := goodIn_app (goodIn_of _ (by decide +kernel)) ggX7_lineOf_X7_in
set_option maxRecDepth 20000 in
theorem ggX7_lineOf_X7_lowerTurns : GoodIn wsX7_lineOf wsX7_lowerTurns := goodIn_r _ [16, 3, 17, 18, 19, 20, 21, 22, 23, 24, 25, 26, 27, 28, 29, 30] (by decide +kernel) (by decide +kernel)
set_option maxRecDepth 20000 in
theorem gX7_lineOf_X7_lowerTurns : GoodIn wsX7_lineOf (wsV RX7 138 RX7 yX7_lowerTurns wsX7_lowerTurns) := goodIn_app (goodIn_of _ (by decide +kernel)) ggX7_lineOf_X7_lowerTurns
theorem dX7_lineOf_0 : decode cX7_lineOf 0 = .ok (.iload_n 1, 1) := by decide +kernel
theorem dX7_lineOf_1 : decode cX7_lineOf 1 = .ok (.invokestatic 97, 3) := by decide +kernel
theorem dX7_lineOf_4 : decode cX7_lineOf 4 = .ok (.ifCond .eq 15, 3) := by decide +kernel
theorem dX7_lineOf_7 : decode cX7_lineOf 7 = .ok (.iload_n 2, 1) := by decide +kernel
theorem dX7_lineOf_8 : decode cX7_lineOf 8 = .ok (.i2l, 1) := by decide +kernel
theorem dX7_lineOf_9 : decode cX7_lineOf 9 = .ok (.lconst 0, 1) := by decide +kernel
theorem dX7_lineOf_10 : decode cX7_lineOf 10 = .ok (.ldc2_w 135, 3) := by decide +kernel
theorem dX7_lineOf_13 : decode cX7_lineOf 13 = .ok (.invokestatic 29, 3) := by decide +kernel
theorem dX7_lineOf_16 : decode cX7_lineOf 16 = .ok (.ifCond .ne 6, 3) := by decide +kernel
theorem dX7_lineOf_19 : decode cX7_lineOf 19 = .ok (.ldc 73, 2) := by decide +kernel
theorem dX7_lineOf_21 : decode cX7_lineOf 21 = .ok (.ireturn, 1) := by decide +kernel
theorem dX7_lineOf_22 : decode cX7_lineOf 22 = .ok (.iload_n 2, 1) := by decide +kernel
theorem dX7_lineOf_23 : decode cX7_lineOf 23 = .ok (.ifCond .ne 14, 3) := by decide +kernel
theorem dX7_lineOf_26 : decode cX7_lineOf 26 = .ok (.aload_n 0, 1) := by decide +kernel
theorem dX7_lineOf_27 : decode cX7_lineOf 27 = .ok (.getfield 7, 3) := by decide +kernel
theorem dX7_lineOf_30 : decode cX7_lineOf 30 = .ok (.sipush 128, 3) := by decide +kernel
theorem dX7_lineOf_33 : decode cX7_lineOf 33 = .ok (.iload_n 1, 1) := by decide +kernel
theorem dX7_lineOf_34 : decode cX7_lineOf 34 = .ok (.iadd, 1) := by decide +kernel
theorem dX7_lineOf_35 : decode cX7_lineOf 35 = .ok (.iaload, 1) := by decide +kernel
theorem dX7_lineOf_36 : decode cX7_lineOf 36 = .ok (.ireturn, 1) := by decide +kernel
theorem dX7_lineOf_37 : decode cX7_lineOf 37 = .ok (.aload_n 0, 1) := by decide +kernel
theorem dX7_lineOf_38 : decode cX7_lineOf 38 = .ok (.getfield 7, 3) := by decide +kernel
theorem dX7_lineOf_41 : decode cX7_lineOf 41 = .ok (.sipush 128, 3) := by decide +kernel
theorem dX7_lineOf_44 : decode cX7_lineOf 44 = .ok (.iload_n 1, 1) := by decide +kernel
theorem dX7_lineOf_45 : decode cX7_lineOf 45 = .ok (.iadd, 1) := by decide +kernel
theorem dX7_lineOf_46 : decode cX7_lineOf 46 = .ok (.iaload, 1) := by decide +kernel
theorem dX7_lineOf_47 : decode cX7_lineOf 47 = .ok (.ifCond .ne 6, 3) := by decide +kernel
theorem dX7_lineOf_50 : decode cX7_lineOf 50 = .ok (.ldc 137, 2) := by decide +kernel
theorem dX7_lineOf_52 : decode cX7_lineOf 52 = .ok (.ireturn, 1) := by decide +kernel
theorem dX7_lineOf_53 : decode cX7_lineOf 53 = .ok (.iload_n 2, 1) := by decide +kernel
theorem dX7_lineOf_54 : decode cX7_lineOf 54 = .ok (.iconst 1, 1) := by decide +kernel
theorem dX7_lineOf_55 : decode cX7_lineOf 55 = .ok (.if_icmp .ne 16, 3) := by decide +kernel
theorem dX7_lineOf_58 : decode cX7_lineOf 58 = .ok (.aload_n 0, 1) := by decide +kernel
theorem dX7_lineOf_59 : decode cX7_lineOf 59 = .ok (.getfield 7, 3) := by decide +kernel
theorem dX7_lineOf_62 : decode cX7_lineOf 62 = .ok (.sipush 136, 3) := by decide +kernel
theorem dX7_lineOf_65 : decode cX7_lineOf 65 = .ok (.iload_n 1, 1) := by decide +kernel
theorem dX7_lineOf_66 : decode cX7_lineOf 66 = .ok (.iadd, 1) := by decide +kernel
theorem dX7_lineOf_67 : decode cX7_lineOf 67 = .ok (.iaload, 1) := by decide +kernel
theorem dX7_lineOf_68 : decode cX7_lineOf 68 = .ok (.goto 44, 3) := by decide +kernel
theorem dX7_lineOf_71 : decode cX7_lineOf 71 = .ok (.iload_n 2, 1) := by decide +kernel
theorem dX7_lineOf_72 : decode cX7_lineOf 72 = .ok (.iconst 2, 1) := by decide +kernel
theorem dX7_lineOf_73 : decode cX7_lineOf 73 = .ok (.if_icmp .ne 16, 3) := by decide +kernel
theorem dX7_lineOf_76 : decode cX7_lineOf 76 = .ok (.aload_n 0, 1) := by decide +kernel
theorem dX7_lineOf_77 : decode cX7_lineOf 77 = .ok (.getfield 7, 3) := by decide +kernel
theorem dX7_lineOf_80 : decode cX7_lineOf 80 = .ok (.sipush 144, 3) := by decide +kernel
theorem dX7_lineOf_83 : decode cX7_lineOf 83 = .ok (.iload_n 1, 1) := by decide +kernel
theorem dX7_lineOf_84 : decode cX7_lineOf 84 = .ok (.iadd, 1) := by decide +kernel
theorem dX7_lineOf_85 : decode cX7_lineOf 85 = .ok (.iaload, 1) := by decide +kernel
theorem dX7_lineOf_86 : decode cX7_lineOf 86 = .ok (.goto 26, 3) := by decide +kernel
theorem dX7_lineOf_89 : decode cX7_lineOf 89 = .ok (.iload_n 2, 1) := by decide +kernel
theorem dX7_lineOf_90 : decode cX7_lineOf 90 = .ok (.iconst 3, 1) := by decide +kernel
theorem dX7_lineOf_91 : decode cX7_lineOf 91 = .ok (.if_icmp .ne 16, 3) := by decide +kernel
theorem dX7_lineOf_94 : decode cX7_lineOf 94 = .ok (.aload_n 0, 1) := by decide +kernel
theorem dX7_lineOf_95 : decode cX7_lineOf 95 = .ok (.getfield 7, 3) := by decide +kernel
theorem dX7_lineOf_98 : decode cX7_lineOf 98 = .ok (.sipush 152, 3) := by decide +kernel
theorem dX7_lineOf_101 : decode cX7_lineOf 101 = .ok (.iload_n 1, 1) := by decide +kernel
theorem dX7_lineOf_102 : decode cX7_lineOf 102 = .ok (.iadd, 1) := by decide +kernel
theorem dX7_lineOf_103 : decode cX7_lineOf 103 = .ok (.iaload, 1) := by decide +kernel
theorem dX7_lineOf_104 : decode cX7_lineOf 104 = .ok (.goto 8, 3) := by decide +kernel
theorem dX7_lineOf_107 : decode cX7_lineOf 107 = .ok (.aload_n 0, 1) := by decide +kernel
theorem dX7_lineOf_108 : decode cX7_lineOf 108 = .ok (.iload_n 1, 1) := by decide +kernel
theorem dX7_lineOf_109 : decode cX7_lineOf 109 = .ok (.invokevirtual 138, 3) := by decide +kernel
theorem dX7_lineOf_112 : decode cX7_lineOf 112 = .ok (.ireturn, 1) := by decide +kernel
set_option maxRecDepth 20000 in
theorem ggX7_placeOf_X7_isPlace : GoodIn wsX7_placeOf wsX7_isPlace := goodIn_r _ [8, 9, 10, 11, 7, 12] (by decide +kernel) (by decide +kernel)
set_option maxRecDepth 20000 in
theorem gX7_placeOf_X7_isPlace : GoodIn wsX7_placeOf (va_wsS RX7 66 yX7_isPlace wsX7_isPlace) := goodIn_app (goodIn_of _ (by decide +kernel)) ggX7_placeOf_X7_isPlace
set_option maxRecDepth 20000 in
theorem ggX7_placeOf_X7_in : GoodIn wsX7_placeOf wsX7_in := goodIn_r _ [12] (by decide +kernel) (by decide +kernel)
set_option maxRecDepth 20000 in
theorem gX7_placeOf_X7_in : GoodIn wsX7_placeOf (va_wsS RX7 29 yX7_in wsX7_in) := goodIn_app (goodIn_of _ (by decide +kernel)) ggX7_placeOf_X7_in
set_option maxRecDepth 20000 in
theorem ggX7_placeOf_X7_holder : GoodIn wsX7_placeOf wsX7_holder := goodIn_r _ [16, 3, 17, 18, 19, 20, 21, 22, 23, 24, 25, 26, 27, 28, 29, 30] (by decide +kernel) (by decide +kernel)
set_option maxRecDepth 20000 in
theorem gX7_placeOf_X7_holder : GoodIn wsX7_placeOf (wsV RX7 60 RX7 yX7_holder wsX7_holder) := goodIn_app (goodIn_of _ (by decide +kernel)) ggX7_placeOf_X7_holder
theorem dX7_placeOf_0 : decode cX7_placeOf 0 = .ok (.iload_n 1, 1) := by decide +kernel
theorem dX7_placeOf_1 : decode cX7_placeOf 1 = .ok (.invokestatic 66, 3) := by decide +kernel
theorem dX7_placeOf_4 : decode cX7_placeOf 4 = .ok (.ifCond .eq 15, 3) := by decide +kernel
theorem dX7_placeOf_7 : decode cX7_placeOf 7 = .ok (.iload_n 2, 1) := by decide +kernel
theorem dX7_placeOf_8 : decode cX7_placeOf 8 = .ok (.i2l, 1) := by decide +kernel
theorem dX7_placeOf_9 : decode cX7_placeOf 9 = .ok (.lconst 0, 1) := by decide +kernel
theorem dX7_placeOf_10 : decode cX7_placeOf 10 = .ok (.ldc2_w 141, 3) := by decide +kernel
theorem dX7_placeOf_13 : decode cX7_placeOf 13 = .ok (.invokestatic 29, 3) := by decide +kernel
theorem dX7_placeOf_16 : decode cX7_placeOf 16 = .ok (.ifCond .ne 6, 3) := by decide +kernel
theorem dX7_placeOf_19 : decode cX7_placeOf 19 = .ok (.ldc 73, 2) := by decide +kernel
theorem dX7_placeOf_21 : decode cX7_placeOf 21 = .ok (.ireturn, 1) := by decide +kernel
theorem dX7_placeOf_22 : decode cX7_placeOf 22 = .ok (.aload_n 0, 1) := by decide +kernel
theorem dX7_placeOf_23 : decode cX7_placeOf 23 = .ok (.iload_n 1, 1) := by decide +kernel
theorem dX7_placeOf_24 : decode cX7_placeOf 24 = .ok (.invokevirtual 60, 3) := by decide +kernel
theorem dX7_placeOf_27 : decode cX7_placeOf 27 = .ok (.istore_n 3, 1) := by decide +kernel
theorem dX7_placeOf_28 : decode cX7_placeOf 28 = .ok (.iload_n 2, 1) := by decide +kernel
theorem dX7_placeOf_29 : decode cX7_placeOf 29 = .ok (.tableswitch 75 0 2 #[27, 36, 63], 27) := by decide +kernel
theorem dX7_placeOf_56 : decode cX7_placeOf 56 = .ok (.aload_n 0, 1) := by decide +kernel
theorem dX7_placeOf_57 : decode cX7_placeOf 57 = .ok (.getfield 7, 3) := by decide +kernel
theorem dX7_placeOf_60 : decode cX7_placeOf 60 = .ok (.iconst 0, 1) := by decide +kernel
theorem dX7_placeOf_61 : decode cX7_placeOf 61 = .ok (.iload_n 1, 1) := by decide +kernel
theorem dX7_placeOf_62 : decode cX7_placeOf 62 = .ok (.iadd, 1) := by decide +kernel
theorem dX7_placeOf_63 : decode cX7_placeOf 63 = .ok (.iaload, 1) := by decide +kernel
theorem dX7_placeOf_64 : decode cX7_placeOf 64 = .ok (.ireturn, 1) := by decide +kernel
theorem dX7_placeOf_65 : decode cX7_placeOf 65 = .ok (.iload_n 3, 1) := by decide +kernel
theorem dX7_placeOf_66 : decode cX7_placeOf 66 = .ok (.iconst (-1), 1) := by decide +kernel
theorem dX7_placeOf_67 : decode cX7_placeOf 67 = .ok (.if_icmp .ne 14, 3) := by decide +kernel
theorem dX7_placeOf_70 : decode cX7_placeOf 70 = .ok (.aload_n 0, 1) := by decide +kernel
theorem dX7_placeOf_71 : decode cX7_placeOf 71 = .ok (.getfield 7, 3) := by decide +kernel
theorem dX7_placeOf_74 : decode cX7_placeOf 74 = .ok (.iconst 0, 1) := by decide +kernel
theorem dX7_placeOf_75 : decode cX7_placeOf 75 = .ok (.iload_n 1, 1) := by decide +kernel
theorem dX7_placeOf_76 : decode cX7_placeOf 76 = .ok (.iadd, 1) := by decide +kernel
theorem dX7_placeOf_77 : decode cX7_placeOf 77 = .ok (.iaload, 1) := by decide +kernel
theorem dX7_placeOf_78 : decode cX7_placeOf 78 = .ok (.goto 13, 3) := by decide +kernel
theorem dX7_placeOf_81 : decode cX7_placeOf 81 = .ok (.aload_n 0, 1) := by decide +kernel
theorem dX7_placeOf_82 : decode cX7_placeOf 82 = .ok (.getfield 7, 3) := by decide +kernel
theorem dX7_placeOf_85 : decode cX7_placeOf 85 = .ok (.sipush 144, 3) := by decide +kernel
theorem dX7_placeOf_88 : decode cX7_placeOf 88 = .ok (.iload_n 3, 1) := by decide +kernel
theorem dX7_placeOf_89 : decode cX7_placeOf 89 = .ok (.iadd, 1) := by decide +kernel
theorem dX7_placeOf_90 : decode cX7_placeOf 90 = .ok (.iaload, 1) := by decide +kernel
theorem dX7_placeOf_91 : decode cX7_placeOf 91 = .ok (.ireturn, 1) := by decide +kernel
theorem dX7_placeOf_92 : decode cX7_placeOf 92 = .ok (.iload_n 3, 1) := by decide +kernel
theorem dX7_placeOf_93 : decode cX7_placeOf 93 = .ok (.iconst (-1), 1) := by decide +kernel
theorem dX7_placeOf_94 : decode cX7_placeOf 94 = .ok (.if_icmp .ne 8, 3) := by decide +kernel
theorem dX7_placeOf_97 : decode cX7_placeOf 97 = .ok (.ldc 137, 2) := by decide +kernel
theorem dX7_placeOf_99 : decode cX7_placeOf 99 = .ok (.goto 4, 3) := by decide +kernel
theorem dX7_placeOf_102 : decode cX7_placeOf 102 = .ok (.iload_n 3, 1) := by decide +kernel
theorem dX7_placeOf_103 : decode cX7_placeOf 103 = .ok (.ireturn, 1) := by decide +kernel
theorem dX7_placeOf_104 : decode cX7_placeOf 104 = .ok (.aload_n 0, 1) := by decide +kernel
theorem dX7_placeOf_105 : decode cX7_placeOf 105 = .ok (.getfield 7, 3) := by decide +kernel
theorem dX7_placeOf_108 : decode cX7_placeOf 108 = .ok (.bipush 64, 2) := by decide +kernel
theorem dX7_placeOf_110 : decode cX7_placeOf 110 = .ok (.iload_n 1, 1) := by decide +kernel
theorem dX7_placeOf_111 : decode cX7_placeOf 111 = .ok (.iadd, 1) := by decide +kernel
theorem dX7_placeOf_112 : decode cX7_placeOf 112 = .ok (.iaload, 1) := by decide +kernel
theorem dX7_placeOf_113 : decode cX7_placeOf 113 = .ok (.ireturn, 1) := by decide +kernel
set_option maxRecDepth 20000 in
theorem ggX7_saved_X7_setting : GoodIn wsX7_saved wsX7_setting := goodIn_r _ [6, 1, 11, 12, 13, 14, 15, 16, 17, 18, 19, 20, 21, 22, 23, 24] (by decide +kernel) (by decide +kernel)
set_option maxRecDepth 20000 in
theorem gX7_saved_X7_setting : GoodIn wsX7_saved (wsV RX7 43 RX7 yX7_setting wsX7_setting) := goodIn_app (goodIn_of _ (by decide +kernel)) ggX7_saved_X7_setting
set_option maxRecDepth 20000 in
theorem ggX7_saved_X7_many : GoodIn wsX7_saved wsX7_many := goodIn_r _ [10, 1, 11, 12, 13, 14, 15, 16, 17, 18, 19, 20, 21, 22, 23, 24] (by decide +kernel) (by decide +kernel)
set_option maxRecDepth 20000 in
theorem gX7_saved_X7_many : GoodIn wsX7_saved (wsV RX7 47 RX7 yX7_many wsX7_many) := goodIn_app (goodIn_of _ (by decide +kernel)) ggX7_saved_X7_many
theorem dX7_saved_0 : decode cX7_saved 0 = .ok (.aload_n 0, 1) := by decide +kernel
theorem dX7_saved_1 : decode cX7_saved 1 = .ok (.getfield 7, 3) := by decide +kernel
theorem dX7_saved_4 : decode cX7_saved 4 = .ok (.sipush 160, 3) := by decide +kernel
theorem dX7_saved_7 : decode cX7_saved 7 = .ok (.iaload, 1) := by decide +kernel
theorem dX7_saved_8 : decode cX7_saved 8 = .ok (.aload_n 0, 1) := by decide +kernel
theorem dX7_saved_9 : decode cX7_saved 9 = .ok (.iconst 1, 1) := by decide +kernel
theorem dX7_saved_10 : decode cX7_saved 10 = .ok (.invokevirtual 43, 3) := by decide +kernel
theorem dX7_saved_13 : decode cX7_saved 13 = .ok (.if_icmp .ge 5, 3) := by decide +kernel
theorem dX7_saved_16 : decode cX7_saved 16 = .ok (.iconst 0, 1) := by decide +kernel
theorem dX7_saved_17 : decode cX7_saved 17 = .ok (.ireturn, 1) := by decide +kernel
theorem dX7_saved_18 : decode cX7_saved 18 = .ok (.aload_n 0, 1) := by decide +kernel
theorem dX7_saved_19 : decode cX7_saved 19 = .ok (.getfield 7, 3) := by decide +kernel
theorem dX7_saved_22 : decode cX7_saved 22 = .ok (.sipush 160, 3) := by decide +kernel
theorem dX7_saved_25 : decode cX7_saved 25 = .ok (.iaload, 1) := by decide +kernel
theorem dX7_saved_26 : decode cX7_saved 26 = .ok (.aload_n 0, 1) := by decide +kernel
theorem dX7_saved_27 : decode cX7_saved 27 = .ok (.iconst 1, 1) := by decide +kernel
theorem dX7_saved_28 : decode cX7_saved 28 = .ok (.invokevirtual 43, 3) := by decide +kernel
theorem dX7_saved_31 : decode cX7_saved 31 = .ok (.isub, 1) := by decide +kernel
theorem dX7_saved_32 : decode cX7_saved 32 = .ok (.aload_n 0, 1) := by decide +kernel
theorem dX7_saved_33 : decode cX7_saved 33 = .ok (.iconst 0, 1) := by decide +kernel
theorem dX7_saved_34 : decode cX7_saved 34 = .ok (.invokevirtual 43, 3) := by decide +kernel
theorem dX7_saved_37 : decode cX7_saved 37 = .ok (.idiv, 1) := by decide +kernel
theorem dX7_saved_38 : decode cX7_saved 38 = .ok (.istore_n 1, 1) := by decide +kernel
theorem dX7_saved_39 : decode cX7_saved 39 = .ok (.iload_n 1, 1) := by decide +kernel
theorem dX7_saved_40 : decode cX7_saved 40 = .ok (.aload_n 0, 1) := by decide +kernel
theorem dX7_saved_41 : decode cX7_saved 41 = .ok (.iconst 2, 1) := by decide +kernel
theorem dX7_saved_42 : decode cX7_saved 42 = .ok (.invokevirtual 47, 3) := by decide +kernel
theorem dX7_saved_45 : decode cX7_saved 45 = .ok (.if_icmp .ge 7, 3) := by decide +kernel
theorem dX7_saved_48 : decode cX7_saved 48 = .ok (.iload_n 1, 1) := by decide +kernel
theorem dX7_saved_49 : decode cX7_saved 49 = .ok (.goto 8, 3) := by decide +kernel
theorem dX7_saved_52 : decode cX7_saved 52 = .ok (.aload_n 0, 1) := by decide +kernel
theorem dX7_saved_53 : decode cX7_saved 53 = .ok (.iconst 2, 1) := by decide +kernel
theorem dX7_saved_54 : decode cX7_saved 54 = .ok (.invokevirtual 47, 3) := by decide +kernel
theorem dX7_saved_57 : decode cX7_saved 57 = .ok (.ireturn, 1) := by decide +kernel
set_option maxRecDepth 20000 in
theorem ggX7_battery_X7_capacity : GoodIn wsX7_battery wsX7_capacity := goodIn_r _ [7, 1, 24, 25, 26, 27, 28, 29, 30, 31, 32, 33, 34, 35, 36, 37] (by decide +kernel) (by decide +kernel)
set_option maxRecDepth 20000 in
theorem gX7_battery_X7_capacity : GoodIn wsX7_battery (wsV RX7 76 RX7 yX7_capacity wsX7_capacity) := goodIn_app (goodIn_of _ (by decide +kernel)) ggX7_battery_X7_capacity
set_option maxRecDepth 20000 in
theorem ggX7_battery_X7_allowance : GoodIn wsX7_battery wsX7_allowance := goodIn_r _ [11, 1, 12, 13, 14, 6, 15, 24, 25, 26, 27, 28, 29, 30, 31, 32, 33, 34, 35, 36, 37] (by decide +kernel) (by decide +kernel)
set_option maxRecDepth 20000 in
theorem gX7_battery_X7_allowance : GoodIn wsX7_battery (wsV RX7 50 RX7 yX7_allowance wsX7_allowance) := goodIn_app (goodIn_of _ (by decide +kernel)) ggX7_battery_X7_allowance
set_option maxRecDepth 20000 in
theorem ggX7_battery_X7_saved : GoodIn wsX7_battery wsX7_saved := goodIn_r _ [19, 1, 12, 13, 14, 6, 15, 20, 21, 22, 23, 24, 25, 26, 27, 28, 29, 30, 31, 32, 33, 34, 35, 36, 37] (by decide +kernel) (by decide +kernel)
set_option maxRecDepth 20000 in
theorem gX7_battery_X7_saved : GoodIn wsX7_battery (wsV RX7 143 RX7 yX7_saved wsX7_saved) := goodIn_app (goodIn_of _ (by decide +kernel)) ggX7_battery_X7_saved
theorem dX7_battery_0 : decode cX7_battery 0 = .ok (.iload_n 1, 1) := by decide +kernel
theorem dX7_battery_1 : decode cX7_battery 1 = .ok (.tableswitch 81 0 5 #[39, 48, 53, 62, 67, 76], 39) := by decide +kernel
theorem dX7_battery_40 : decode cX7_battery 40 = .ok (.aload_n 0, 1) := by decide +kernel
theorem dX7_battery_41 : decode cX7_battery 41 = .ok (.getfield 7, 3) := by decide +kernel
theorem dX7_battery_44 : decode cX7_battery 44 = .ok (.sipush 160, 3) := by decide +kernel
theorem dX7_battery_47 : decode cX7_battery 47 = .ok (.iaload, 1) := by decide +kernel
theorem dX7_battery_48 : decode cX7_battery 48 = .ok (.ireturn, 1) := by decide +kernel
theorem dX7_battery_49 : decode cX7_battery 49 = .ok (.aload_n 0, 1) := by decide +kernel
theorem dX7_battery_50 : decode cX7_battery 50 = .ok (.invokevirtual 76, 3) := by decide +kernel
theorem dX7_battery_53 : decode cX7_battery 53 = .ok (.ireturn, 1) := by decide +kernel
theorem dX7_battery_54 : decode cX7_battery 54 = .ok (.aload_n 0, 1) := by decide +kernel
theorem dX7_battery_55 : decode cX7_battery 55 = .ok (.getfield 7, 3) := by decide +kernel
theorem dX7_battery_58 : decode cX7_battery 58 = .ok (.sipush 161, 3) := by decide +kernel
theorem dX7_battery_61 : decode cX7_battery 61 = .ok (.iaload, 1) := by decide +kernel
theorem dX7_battery_62 : decode cX7_battery 62 = .ok (.ireturn, 1) := by decide +kernel
theorem dX7_battery_63 : decode cX7_battery 63 = .ok (.aload_n 0, 1) := by decide +kernel
theorem dX7_battery_64 : decode cX7_battery 64 = .ok (.invokevirtual 50, 3) := by decide +kernel
theorem dX7_battery_67 : decode cX7_battery 67 = .ok (.ireturn, 1) := by decide +kernel
theorem dX7_battery_68 : decode cX7_battery 68 = .ok (.aload_n 0, 1) := by decide +kernel
theorem dX7_battery_69 : decode cX7_battery 69 = .ok (.getfield 7, 3) := by decide +kernel
theorem dX7_battery_72 : decode cX7_battery 72 = .ok (.sipush 162, 3) := by decide +kernel
theorem dX7_battery_75 : decode cX7_battery 75 = .ok (.iaload, 1) := by decide +kernel
theorem dX7_battery_76 : decode cX7_battery 76 = .ok (.ireturn, 1) := by decide +kernel
theorem dX7_battery_77 : decode cX7_battery 77 = .ok (.aload_n 0, 1) := by decide +kernel
theorem dX7_battery_78 : decode cX7_battery 78 = .ok (.invokevirtual 143, 3) := by decide +kernel
theorem dX7_battery_81 : decode cX7_battery 81 = .ok (.ireturn, 1) := by decide +kernel
theorem dX7_battery_82 : decode cX7_battery 82 = .ok (.ldc 73, 2) := by decide +kernel
theorem dX7_battery_84 : decode cX7_battery 84 = .ok (.ireturn, 1) := by decide +kernel
theorem dX7_setOf_0 : decode cX7_setOf 0 = .ok (.iconst 0, 1) := by decide +kernel
theorem dX7_setOf_1 : decode cX7_setOf 1 = .ok (.istore_n 2, 1) := by decide +kernel
theorem dX7_setOf_2 : decode cX7_setOf 2 = .ok (.iconst 0, 1) := by decide +kernel
theorem dX7_setOf_3 : decode cX7_setOf 3 = .ok (.istore_n 3, 1) := by decide +kernel
theorem dX7_setOf_4 : decode cX7_setOf 4 = .ok (.iload_n 3, 1) := by decide +kernel
theorem dX7_setOf_5 : decode cX7_setOf 5 = .ok (.bipush 8, 2) := by decide +kernel
theorem dX7_setOf_7 : decode cX7_setOf 7 = .ok (.if_icmp .ge 33, 3) := by decide +kernel
theorem dX7_setOf_10 : decode cX7_setOf 10 = .ok (.iload_n 2, 1) := by decide +kernel
theorem dX7_setOf_11 : decode cX7_setOf 11 = .ok (.aload_n 0, 1) := by decide +kernel
theorem dX7_setOf_12 : decode cX7_setOf 12 = .ok (.getfield 7, 3) := by decide +kernel
theorem dX7_setOf_15 : decode cX7_setOf 15 = .ok (.sipush 128, 3) := by decide +kernel
theorem dX7_setOf_18 : decode cX7_setOf 18 = .ok (.iload_n 3, 1) := by decide +kernel
theorem dX7_setOf_19 : decode cX7_setOf 19 = .ok (.iadd, 1) := by decide +kernel
theorem dX7_setOf_20 : decode cX7_setOf 20 = .ok (.iaload, 1) := by decide +kernel
theorem dX7_setOf_21 : decode cX7_setOf 21 = .ok (.iload_n 1, 1) := by decide +kernel
theorem dX7_setOf_22 : decode cX7_setOf 22 = .ok (.if_icmp .ne 9, 3) := by decide +kernel
theorem dX7_setOf_25 : decode cX7_setOf 25 = .ok (.iconst 1, 1) := by decide +kernel
theorem dX7_setOf_26 : decode cX7_setOf 26 = .ok (.iload_n 3, 1) := by decide +kernel
theorem dX7_setOf_27 : decode cX7_setOf 27 = .ok (.ishl, 1) := by decide +kernel
theorem dX7_setOf_28 : decode cX7_setOf 28 = .ok (.goto 4, 3) := by decide +kernel
theorem dX7_setOf_31 : decode cX7_setOf 31 = .ok (.iconst 0, 1) := by decide +kernel
theorem dX7_setOf_32 : decode cX7_setOf 32 = .ok (.ior, 1) := by decide +kernel
theorem dX7_setOf_33 : decode cX7_setOf 33 = .ok (.istore_n 2, 1) := by decide +kernel
theorem dX7_setOf_34 : decode cX7_setOf 34 = .ok (.iinc 3 1, 3) := by decide +kernel
theorem dX7_setOf_37 : decode cX7_setOf 37 = .ok (.goto (-33), 3) := by decide +kernel
theorem dX7_setOf_40 : decode cX7_setOf 40 = .ok (.iload_n 2, 1) := by decide +kernel
theorem dX7_setOf_41 : decode cX7_setOf 41 = .ok (.ireturn, 1) := by decide +kernel
theorem dX7_dirtyBefore_0 : decode cX7_dirtyBefore 0 = .ok (.iconst 0, 1) := by decide +kernel
theorem dX7_dirtyBefore_1 : decode cX7_dirtyBefore 1 = .ok (.istore_n 2, 1) := by decide +kernel
theorem dX7_dirtyBefore_2 : decode cX7_dirtyBefore 2 = .ok (.iconst 0, 1) := by decide +kernel
theorem dX7_dirtyBefore_3 : decode cX7_dirtyBefore 3 = .ok (.istore_n 3, 1) := by decide +kernel
theorem dX7_dirtyBefore_4 : decode cX7_dirtyBefore 4 = .ok (.iload_n 3, 1) := by decide +kernel
theorem dX7_dirtyBefore_5 : decode cX7_dirtyBefore 5 = .ok (.bipush 8, 2) := by decide +kernel
theorem dX7_dirtyBefore_7 : decode cX7_dirtyBefore 7 = .ok (.if_icmp .ge 54, 3) := by decide +kernel
theorem dX7_dirtyBefore_10 : decode cX7_dirtyBefore 10 = .ok (.iload_n 2, 1) := by decide +kernel
theorem dX7_dirtyBefore_11 : decode cX7_dirtyBefore 11 = .ok (.aload_n 0, 1) := by decide +kernel
theorem dX7_dirtyBefore_12 : decode cX7_dirtyBefore 12 = .ok (.getfield 7, 3) := by decide +kernel
theorem dX7_dirtyBefore_15 : decode cX7_dirtyBefore 15 = .ok (.sipush 128, 3) := by decide +kernel
theorem dX7_dirtyBefore_18 : decode cX7_dirtyBefore 18 = .ok (.iload_n 3, 1) := by decide +kernel
theorem dX7_dirtyBefore_19 : decode cX7_dirtyBefore 19 = .ok (.iadd, 1) := by decide +kernel
theorem dX7_dirtyBefore_20 : decode cX7_dirtyBefore 20 = .ok (.iaload, 1) := by decide +kernel
theorem dX7_dirtyBefore_21 : decode cX7_dirtyBefore 21 = .ok (.iconst 2, 1) := by decide +kernel
theorem dX7_dirtyBefore_22 : decode cX7_dirtyBefore 22 = .ok (.if_icmp .ne 30, 3) := by decide +kernel
theorem dX7_dirtyBefore_25 : decode cX7_dirtyBefore 25 = .ok (.aload_n 0, 1) := by decide +kernel
theorem dX7_dirtyBefore_26 : decode cX7_dirtyBefore 26 = .ok (.getfield 7, 3) := by decide +kernel
theorem dX7_dirtyBefore_29 : decode cX7_dirtyBefore 29 = .ok (.sipush 152, 3) := by decide +kernel
theorem dX7_dirtyBefore_32 : decode cX7_dirtyBefore 32 = .ok (.iload_n 3, 1) := by decide +kernel
theorem dX7_dirtyBefore_33 : decode cX7_dirtyBefore 33 = .ok (.iadd, 1) := by decide +kernel
theorem dX7_dirtyBefore_34 : decode cX7_dirtyBefore 34 = .ok (.iaload, 1) := by decide +kernel
theorem dX7_dirtyBefore_35 : decode cX7_dirtyBefore 35 = .ok (.aload_n 0, 1) := by decide +kernel
theorem dX7_dirtyBefore_36 : decode cX7_dirtyBefore 36 = .ok (.getfield 7, 3) := by decide +kernel
theorem dX7_dirtyBefore_39 : decode cX7_dirtyBefore 39 = .ok (.sipush 152, 3) := by decide +kernel
theorem dX7_dirtyBefore_42 : decode cX7_dirtyBefore 42 = .ok (.iload_n 1, 1) := by decide +kernel
theorem dX7_dirtyBefore_43 : decode cX7_dirtyBefore 43 = .ok (.iadd, 1) := by decide +kernel
theorem dX7_dirtyBefore_44 : decode cX7_dirtyBefore 44 = .ok (.iaload, 1) := by decide +kernel
theorem dX7_dirtyBefore_45 : decode cX7_dirtyBefore 45 = .ok (.if_icmp .ge 7, 3) := by decide +kernel
theorem dX7_dirtyBefore_48 : decode cX7_dirtyBefore 48 = .ok (.iconst 1, 1) := by decide +kernel
theorem dX7_dirtyBefore_49 : decode cX7_dirtyBefore 49 = .ok (.goto 4, 3) := by decide +kernel
theorem dX7_dirtyBefore_52 : decode cX7_dirtyBefore 52 = .ok (.iconst 0, 1) := by decide +kernel
theorem dX7_dirtyBefore_53 : decode cX7_dirtyBefore 53 = .ok (.iadd, 1) := by decide +kernel
theorem dX7_dirtyBefore_54 : decode cX7_dirtyBefore 54 = .ok (.istore_n 2, 1) := by decide +kernel
theorem dX7_dirtyBefore_55 : decode cX7_dirtyBefore 55 = .ok (.iinc 3 1, 3) := by decide +kernel
theorem dX7_dirtyBefore_58 : decode cX7_dirtyBefore 58 = .ok (.goto (-54), 3) := by decide +kernel
theorem dX7_dirtyBefore_61 : decode cX7_dirtyBefore 61 = .ok (.iload_n 2, 1) := by decide +kernel
theorem dX7_dirtyBefore_62 : decode cX7_dirtyBefore 62 = .ok (.ireturn, 1) := by decide +kernel
set_option maxRecDepth 20000 in
theorem ggX7_losable_X7_dirtyBefore : GoodIn wsX7_losable wsX7_dirtyBefore := goodIn_r _ [6, 1, 19, 20, 21, 22, 23, 24, 25, 26, 27, 28, 29, 30, 31, 32] (by decide +kernel) (by decide +kernel)
set_option maxRecDepth 20000 in
theorem gX7_losable_X7_dirtyBefore : GoodIn wsX7_losable (wsV RX7 146 RX7 yX7_dirtyBefore wsX7_dirtyBefore) := goodIn_app (goodIn_of _ (by decide +kernel)) ggX7_losable_X7_dirtyBefore
set_option maxRecDepth 20000 in
theorem ggX7_losable_X7_saved : GoodIn wsX7_losable wsX7_saved := goodIn_r _ [10, 1, 11, 12, 13, 5, 14, 15, 16, 17, 18, 19, 20, 21, 22, 23, 24, 25, 26, 27, 28, 29, 30, 31, 32] (by decide +kernel) (by decide +kernel)
set_option maxRecDepth 20000 in
theorem gX7_losable_X7_saved : GoodIn wsX7_losable (wsV RX7 143 RX7 yX7_saved wsX7_saved) := goodIn_app (goodIn_of _ (by decide +kernel)) ggX7_losable_X7_saved
theorem dX7_losable_0 : decode cX7_losable 0 = .ok (.iconst 0, 1) := by decide +kernel
theorem dX7_losable_1 : decode cX7_losable 1 = .ok (.istore_n 1, 1) := by decide +kernel
theorem dX7_losable_2 : decode cX7_losable 2 = .ok (.iconst 0, 1) := by decide +kernel
theorem dX7_losable_3 : decode cX7_losable 3 = .ok (.istore_n 2, 1) := by decide +kernel
theorem dX7_losable_4 : decode cX7_losable 4 = .ok (.iload_n 2, 1) := by decide +kernel
theorem dX7_losable_5 : decode cX7_losable 5 = .ok (.bipush 8, 2) := by decide +kernel
theorem dX7_losable_7 : decode cX7_losable 7 = .ok (.if_icmp .ge 45, 3) := by decide +kernel
theorem dX7_losable_10 : decode cX7_losable 10 = .ok (.iload_n 1, 1) := by decide +kernel
theorem dX7_losable_11 : decode cX7_losable 11 = .ok (.aload_n 0, 1) := by decide +kernel
theorem dX7_losable_12 : decode cX7_losable 12 = .ok (.getfield 7, 3) := by decide +kernel
theorem dX7_losable_15 : decode cX7_losable 15 = .ok (.sipush 128, 3) := by decide +kernel
theorem dX7_losable_18 : decode cX7_losable 18 = .ok (.iload_n 2, 1) := by decide +kernel
theorem dX7_losable_19 : decode cX7_losable 19 = .ok (.iadd, 1) := by decide +kernel
theorem dX7_losable_20 : decode cX7_losable 20 = .ok (.iaload, 1) := by decide +kernel
theorem dX7_losable_21 : decode cX7_losable 21 = .ok (.iconst 2, 1) := by decide +kernel
theorem dX7_losable_22 : decode cX7_losable 22 = .ok (.if_icmp .ne 21, 3) := by decide +kernel
theorem dX7_losable_25 : decode cX7_losable 25 = .ok (.aload_n 0, 1) := by decide +kernel
theorem dX7_losable_26 : decode cX7_losable 26 = .ok (.iload_n 2, 1) := by decide +kernel
theorem dX7_losable_27 : decode cX7_losable 27 = .ok (.invokevirtual 146, 3) := by decide +kernel
theorem dX7_losable_30 : decode cX7_losable 30 = .ok (.aload_n 0, 1) := by decide +kernel
theorem dX7_losable_31 : decode cX7_losable 31 = .ok (.invokevirtual 143, 3) := by decide +kernel
theorem dX7_losable_34 : decode cX7_losable 34 = .ok (.if_icmp .lt 9, 3) := by decide +kernel
theorem dX7_losable_37 : decode cX7_losable 37 = .ok (.iconst 1, 1) := by decide +kernel
theorem dX7_losable_38 : decode cX7_losable 38 = .ok (.iload_n 2, 1) := by decide +kernel
theorem dX7_losable_39 : decode cX7_losable 39 = .ok (.ishl, 1) := by decide +kernel
theorem dX7_losable_40 : decode cX7_losable 40 = .ok (.goto 4, 3) := by decide +kernel
theorem dX7_losable_43 : decode cX7_losable 43 = .ok (.iconst 0, 1) := by decide +kernel
theorem dX7_losable_44 : decode cX7_losable 44 = .ok (.ior, 1) := by decide +kernel
theorem dX7_losable_45 : decode cX7_losable 45 = .ok (.istore_n 1, 1) := by decide +kernel
theorem dX7_losable_46 : decode cX7_losable 46 = .ok (.iinc 2 1, 3) := by decide +kernel
theorem dX7_losable_49 : decode cX7_losable 49 = .ok (.goto (-45), 3) := by decide +kernel
theorem dX7_losable_52 : decode cX7_losable 52 = .ok (.iload_n 1, 1) := by decide +kernel
theorem dX7_losable_53 : decode cX7_losable 53 = .ok (.ireturn, 1) := by decide +kernel
set_option maxRecDepth 20000 in
theorem ggX7_lines_X7_in : GoodIn wsX7_lines wsX7_in := goodIn_r _ [6] (by decide +kernel) (by decide +kernel)
set_option maxRecDepth 20000 in
theorem gX7_lines_X7_in : GoodIn wsX7_lines (va_wsS RX7 29 yX7_in wsX7_in) := goodIn_app (goodIn_of _ (by decide +kernel)) ggX7_lines_X7_in
set_option maxRecDepth 20000 in
theorem ggX7_lines_X7_losable : GoodIn wsX7_lines wsX7_losable := goodIn_r _ [10, 11, 12, 13, 14, 5, 15, 16, 17, 18, 19, 20, 21, 22, 23, 24, 25, 26, 27, 32, 33, 34, 35, 36, 37, 38, 39, 40, 41, 42, 43, 44, 45] (by decide +kernel) (by decide +kernel)
set_option maxRecDepth 20000 in
theorem gX7_lines_X7_losable : GoodIn wsX7_lines (wsV RX7 149 RX7 yX7_losable wsX7_losable) := goodIn_app (goodIn_of _ (by decide +kernel)) ggX7_lines_X7_losable
set_option maxRecDepth 20000 in
theorem ggX7_lines_X7_setOf : GoodIn wsX7_lines wsX7_setOf := goodIn_r _ [31, 11, 32, 33, 34, 35, 36, 37, 38, 39, 40, 41, 42, 43, 44, 45] (by decide +kernel) (by decide +kernel)
set_option maxRecDepth 20000 in
theorem gX7_lines_X7_setOf : GoodIn wsX7_lines (wsV RX7 152 RX7 yX7_setOf wsX7_setOf) := goodIn_app (goodIn_of _ (by decide +kernel)) ggX7_lines_X7_setOf
theorem dX7_lines_0 : decode cX7_lines 0 = .ok (.iload_n 1, 1) := by decide +kernel
theorem dX7_lines_1 : decode cX7_lines 1 = .ok (.i2l, 1) := by decide +kernel
theorem dX7_lines_2 : decode cX7_lines 2 = .ok (.lconst 0, 1) := by decide +kernel
theorem dX7_lines_3 : decode cX7_lines 3 = .ok (.ldc2_w 141, 3) := by decide +kernel
theorem dX7_lines_6 : decode cX7_lines 6 = .ok (.invokestatic 29, 3) := by decide +kernel
theorem dX7_lines_9 : decode cX7_lines 9 = .ok (.ifCond .ne 8, 3) := by decide +kernel
theorem dX7_lines_12 : decode cX7_lines 12 = .ok (.ldc 73, 2) := by decide +kernel
theorem dX7_lines_14 : decode cX7_lines 14 = .ok (.goto 20, 3) := by decide +kernel
theorem dX7_lines_17 : decode cX7_lines 17 = .ok (.iload_n 1, 1) := by decide +kernel
theorem dX7_lines_18 : decode cX7_lines 18 = .ok (.iconst 3, 1) := by decide +kernel
theorem dX7_lines_19 : decode cX7_lines 19 = .ok (.if_icmp .ne 10, 3) := by decide +kernel
theorem dX7_lines_22 : decode cX7_lines 22 = .ok (.aload_n 0, 1) := by decide +kernel
theorem dX7_lines_23 : decode cX7_lines 23 = .ok (.invokevirtual 149, 3) := by decide +kernel
theorem dX7_lines_26 : decode cX7_lines 26 = .ok (.goto 8, 3) := by decide +kernel
theorem dX7_lines_29 : decode cX7_lines 29 = .ok (.aload_n 0, 1) := by decide +kernel
theorem dX7_lines_30 : decode cX7_lines 30 = .ok (.iload_n 1, 1) := by decide +kernel
theorem dX7_lines_31 : decode cX7_lines 31 = .ok (.invokevirtual 152, 3) := by decide +kernel
theorem dX7_lines_34 : decode cX7_lines 34 = .ok (.ireturn, 1) := by decide +kernel
set_option maxRecDepth 20000 in
theorem ggX7_wouldFlush_X7_keep : GoodIn wsX7_wouldFlush wsX7_keep := goodIn_r _ [5, 6, 7, 57, 58, 59, 60, 61, 62, 63, 64, 65, 66, 67, 68, 69, 70] (by decide +kernel) (by decide +kernel)
set_option maxRecDepth 20000 in
theorem gX7_wouldFlush_X7_keep : GoodIn wsX7_wouldFlush (wsV RX7 104 RX7 yX7_keep wsX7_keep) := goodIn_app (goodIn_of _ (by decide +kernel)) ggX7_wouldFlush_X7_keep
set_option maxRecDepth 20000 in
theorem ggX7_wouldFlush_X7_doLoad : GoodIn wsX7_wouldFlush wsX7_doLoad := goodIn_r _ [11, 12, 13, 14, 15, 4, 16, 17, 18, 19, 20, 7, 21, 22, 23, 24, 25, 26, 27, 28, 29, 30, 31, 32, 33, 34, 35, 36, 37, 38, 39, 40, 41, 42, 43, 44, 45, 46, 47, 48, 49, 50, 51, 52, 57, 58, 59, 60, 61, 62, 63, 64, 65, 66, 67, 68, 69, 70] (by decide +kernel) (by decide +kernel)
set_option maxRecDepth 20000 in
theorem gX7_wouldFlush_X7_doLoad : GoodIn wsX7_wouldFlush (wsV RX7 123 RX7 yX7_doLoad wsX7_doLoad) := goodIn_app (goodIn_of _ (by decide +kernel)) ggX7_wouldFlush_X7_doLoad
set_option maxRecDepth 20000 in
theorem ggX7_wouldFlush_X7_giveBack : GoodIn wsX7_wouldFlush wsX7_giveBack := goodIn_r _ [56, 7, 6, 57, 58, 59, 60, 61, 62, 63, 64, 65, 66, 67, 68, 69, 70] (by decide +kernel) (by decide +kernel)
set_option maxRecDepth 20000 in
theorem gX7_wouldFlush_X7_giveBack : GoodIn wsX7_wouldFlush (wsV RX7 155 RX7 yX7_giveBack wsX7_giveBack) := goodIn_app (goodIn_of _ (by decide +kernel)) ggX7_wouldFlush_X7_giveBack
theorem dX7_wouldFlush_0 : decode cX7_wouldFlush 0 = .ok (.aload_n 0, 1) := by decide +kernel
theorem dX7_wouldFlush_1 : decode cX7_wouldFlush 1 = .ok (.invokevirtual 104, 3) := by decide +kernel
theorem dX7_wouldFlush_4 : decode cX7_wouldFlush 4 = .ok (.aload_n 0, 1) := by decide +kernel
theorem dX7_wouldFlush_5 : decode cX7_wouldFlush 5 = .ok (.iload_n 1, 1) := by decide +kernel
theorem dX7_wouldFlush_6 : decode cX7_wouldFlush 6 = .ok (.invokevirtual 123, 3) := by decide +kernel
theorem dX7_wouldFlush_9 : decode cX7_wouldFlush 9 = .ok (.istore_n 2, 1) := by decide +kernel
theorem dX7_wouldFlush_10 : decode cX7_wouldFlush 10 = .ok (.aload_n 0, 1) := by decide +kernel
theorem dX7_wouldFlush_11 : decode cX7_wouldFlush 11 = .ok (.invokevirtual 155, 3) := by decide +kernel
theorem dX7_wouldFlush_14 : decode cX7_wouldFlush 14 = .ok (.iload_n 2, 1) := by decide +kernel
theorem dX7_wouldFlush_15 : decode cX7_wouldFlush 15 = .ok (.ireturn, 1) := by decide +kernel
set_option maxRecDepth 20000 in
theorem ggX7_critical_X7_wouldFlush : GoodIn wsX7_critical wsX7_wouldFlush := goodIn_r _ [6, 7, 8, 9, 5, 10, 11, 12, 13, 14, 15, 16, 17, 18, 19, 20, 21, 22, 23, 24, 25, 26, 27, 28, 29, 30, 31, 32, 33, 34, 35, 36, 37, 38, 39, 40, 41, 42, 43, 44, 45, 46, 47, 48, 49, 50, 51, 52, 53, 54, 55, 56, 57, 58, 59, 60, 61, 62, 63, 64, 65, 66, 67, 68, 69, 70, 71, 72, 73, 74, 75] (by decide +kernel) (by decide +kernel)
set_option maxRecDepth 20000 in
theorem gX7_critical_X7_wouldFlush : GoodIn wsX7_critical (wsV RX7 158 RX7 yX7_wouldFlush wsX7_wouldFlush) := goodIn_app (goodIn_of _ (by decide +kernel)) ggX7_critical_X7_wouldFlush
theorem dX7_critical_0 : decode cX7_critical 0 = .ok (.iconst 1, 1) := by decide +kernel
theorem dX7_critical_1 : decode cX7_critical 1 = .ok (.istore_n 1, 1) := by decide +kernel
theorem dX7_critical_2 : decode cX7_critical 2 = .ok (.iload_n 1, 1) := by decide +kernel
theorem dX7_critical_3 : decode cX7_critical 3 = .ok (.sipush 999, 3) := by decide +kernel
theorem dX7_critical_6 : decode cX7_critical 6 = .ok (.if_icmp .gt 19, 3) := by decide +kernel
theorem dX7_critical_9 : decode cX7_critical 9 = .ok (.aload_n 0, 1) := by decide +kernel
theorem dX7_critical_10 : decode cX7_critical 10 = .ok (.iload_n 1, 1) := by decide +kernel
theorem dX7_critical_11 : decode cX7_critical 11 = .ok (.invokevirtual 158, 3) := by decide +kernel
theorem dX7_critical_14 : decode cX7_critical 14 = .ok (.ifCond .le 5, 3) := by decide +kernel
theorem dX7_critical_17 : decode cX7_critical 17 = .ok (.iload_n 1, 1) := by decide +kernel
theorem dX7_critical_18 : decode cX7_critical 18 = .ok (.ireturn, 1) := by decide +kernel
theorem dX7_critical_19 : decode cX7_critical 19 = .ok (.iinc 1 1, 3) := by decide +kernel
theorem dX7_critical_22 : decode cX7_critical 22 = .ok (.goto (-20), 3) := by decide +kernel
theorem dX7_critical_25 : decode cX7_critical 25 = .ok (.ldc 137, 2) := by decide +kernel
theorem dX7_critical_27 : decode cX7_critical 27 = .ok (.ireturn, 1) := by decide +kernel
set_option maxRecDepth 20000 in
theorem ggX7_ticksUntil_X7_in : GoodIn wsX7_ticksUntil wsX7_in := goodIn_r _ [7] (by decide +kernel) (by decide +kernel)
set_option maxRecDepth 20000 in
theorem gX7_ticksUntil_X7_in : GoodIn wsX7_ticksUntil (va_wsS RX7 29 yX7_in wsX7_in) := goodIn_app (goodIn_of _ (by decide +kernel)) ggX7_ticksUntil_X7_in
set_option maxRecDepth 20000 in
theorem ggX7_ticksUntil_X7_keep : GoodIn wsX7_ticksUntil wsX7_keep := goodIn_r _ [11, 12, 13, 70, 71, 72, 73, 74, 75, 76, 77, 78, 79, 80, 81, 82, 83] (by decide +kernel) (by decide +kernel)
set_option maxRecDepth 20000 in
theorem gX7_ticksUntil_X7_keep : GoodIn wsX7_ticksUntil (wsV RX7 104 RX7 yX7_keep wsX7_keep) := goodIn_app (goodIn_of _ (by decide +kernel)) ggX7_ticksUntil_X7_keep
set_option maxRecDepth 20000 in
theorem ggX7_ticksUntil_X7_allowance : GoodIn wsX7_ticksUntil wsX7_allowance := goodIn_r _ [17, 13, 18, 19, 20, 6, 21, 70, 71, 72, 73, 74, 75, 76, 77, 78, 79, 80, 81, 82, 83] (by decide +kernel) (by decide +kernel)
set_option maxRecDepth 20000 in
theorem gX7_ticksUntil_X7_allowance : GoodIn wsX7_ticksUntil (wsV RX7 50 RX7 yX7_allowance wsX7_allowance) := goodIn_app (goodIn_of _ (by decide +kernel)) ggX7_ticksUntil_X7_allowance
set_option maxRecDepth 20000 in
theorem ggX7_ticksUntil_X7_ticksOn : GoodIn wsX7_ticksUntil wsX7_ticksOn := goodIn_r _ [25, 13, 26, 27, 28, 6, 29, 30, 31, 32, 33, 18, 19, 20, 21, 34, 35, 36, 37, 38, 39, 40, 41, 42, 43, 44, 45, 46, 47, 48, 49, 50, 51, 52, 53, 14, 15, 16, 17, 54, 55, 56, 57, 58, 59, 60, 61, 62, 63, 64, 65, 70, 71, 72, 73, 74, 75, 76, 77, 78, 79, 80, 81, 82, 83] (by decide +kernel) (by decide +kernel)
set_option maxRecDepth 20000 in
theorem gX7_ticksUntil_X7_ticksOn : GoodIn wsX7_ticksUntil (wsV RX7 93 RX7 yX7_ticksOn wsX7_ticksOn) := goodIn_app (goodIn_of _ (by decide +kernel)) ggX7_ticksUntil_X7_ticksOn
set_option maxRecDepth 20000 in
theorem ggX7_ticksUntil_X7_giveBack : GoodIn wsX7_ticksUntil wsX7_giveBack := goodIn_r _ [69, 13, 12, 70, 71, 72, 73, 74, 75, 76, 77, 78, 79, 80, 81, 82, 83] (by decide +kernel) (by decide +kernel)
set_option maxRecDepth 20000 in
theorem gX7_ticksUntil_X7_giveBack : GoodIn wsX7_ticksUntil (wsV RX7 155 RX7 yX7_giveBack wsX7_giveBack) := goodIn_app (goodIn_of _ (by decide +kernel)) ggX7_ticksUntil_X7_giveBack
theorem dX7_ticksUntil_0 : decode cX7_ticksUntil 0 = .ok (.iload_n 1, 1) := by decide +kernel
theorem dX7_ticksUntil_1 : decode cX7_ticksUntil 1 = .ok (.i2l, 1) := by decide +kernel
theorem dX7_ticksUntil_2 : decode cX7_ticksUntil 2 = .ok (.lconst 0, 1) := by decide +kernel
theorem dX7_ticksUntil_3 : decode cX7_ticksUntil 3 = .ok (.ldc2_w 161, 3) := by decide +kernel
theorem dX7_ticksUntil_6 : decode cX7_ticksUntil 6 = .ok (.invokestatic 29, 3) := by decide +kernel
theorem dX7_ticksUntil_9 : decode cX7_ticksUntil 9 = .ok (.ifCond .ne 6, 3) := by decide +kernel
theorem dX7_ticksUntil_12 : decode cX7_ticksUntil 12 = .ok (.ldc 73, 2) := by decide +kernel
theorem dX7_ticksUntil_14 : decode cX7_ticksUntil 14 = .ok (.ireturn, 1) := by decide +kernel
theorem dX7_ticksUntil_15 : decode cX7_ticksUntil 15 = .ok (.aload_n 0, 1) := by decide +kernel
theorem dX7_ticksUntil_16 : decode cX7_ticksUntil 16 = .ok (.invokevirtual 104, 3) := by decide +kernel
theorem dX7_ticksUntil_19 : decode cX7_ticksUntil 19 = .ok (.iconst 0, 1) := by decide +kernel
theorem dX7_ticksUntil_20 : decode cX7_ticksUntil 20 = .ok (.istore_n 2, 1) := by decide +kernel
theorem dX7_ticksUntil_21 : decode cX7_ticksUntil 21 = .ok (.iload_n 2, 1) := by decide +kernel
theorem dX7_ticksUntil_22 : decode cX7_ticksUntil 22 = .ok (.sipush 400, 3) := by decide +kernel
theorem dX7_ticksUntil_25 : decode cX7_ticksUntil 25 = .ok (.if_icmp .ge 22, 3) := by decide +kernel
theorem dX7_ticksUntil_28 : decode cX7_ticksUntil 28 = .ok (.aload_n 0, 1) := by decide +kernel
theorem dX7_ticksUntil_29 : decode cX7_ticksUntil 29 = .ok (.invokevirtual 50, 3) := by decide +kernel
theorem dX7_ticksUntil_32 : decode cX7_ticksUntil 32 = .ok (.iload_n 1, 1) := by decide +kernel
theorem dX7_ticksUntil_33 : decode cX7_ticksUntil 33 = .ok (.if_icmp .ge 14, 3) := by decide +kernel
theorem dX7_ticksUntil_36 : decode cX7_ticksUntil 36 = .ok (.aload_n 0, 1) := by decide +kernel
theorem dX7_ticksUntil_37 : decode cX7_ticksUntil 37 = .ok (.invokevirtual 93, 3) := by decide +kernel
theorem dX7_ticksUntil_40 : decode cX7_ticksUntil 40 = .ok (.istore_n 3, 1) := by decide +kernel
theorem dX7_ticksUntil_41 : decode cX7_ticksUntil 41 = .ok (.iinc 2 1, 3) := by decide +kernel
theorem dX7_ticksUntil_44 : decode cX7_ticksUntil 44 = .ok (.goto (-23), 3) := by decide +kernel
theorem dX7_ticksUntil_47 : decode cX7_ticksUntil 47 = .ok (.aload_n 0, 1) := by decide +kernel
theorem dX7_ticksUntil_48 : decode cX7_ticksUntil 48 = .ok (.invokevirtual 50, 3) := by decide +kernel
theorem dX7_ticksUntil_51 : decode cX7_ticksUntil 51 = .ok (.iload_n 1, 1) := by decide +kernel
theorem dX7_ticksUntil_52 : decode cX7_ticksUntil 52 = .ok (.if_icmp .lt 7, 3) := by decide +kernel
theorem dX7_ticksUntil_55 : decode cX7_ticksUntil 55 = .ok (.iconst 1, 1) := by decide +kernel
theorem dX7_ticksUntil_56 : decode cX7_ticksUntil 56 = .ok (.goto 4, 3) := by decide +kernel
theorem dX7_ticksUntil_59 : decode cX7_ticksUntil 59 = .ok (.iconst 0, 1) := by decide +kernel
theorem dX7_ticksUntil_60 : decode cX7_ticksUntil 60 = .ok (.istore_n 3, 1) := by decide +kernel
theorem dX7_ticksUntil_61 : decode cX7_ticksUntil 61 = .ok (.aload_n 0, 1) := by decide +kernel
theorem dX7_ticksUntil_62 : decode cX7_ticksUntil 62 = .ok (.invokevirtual 155, 3) := by decide +kernel
theorem dX7_ticksUntil_65 : decode cX7_ticksUntil 65 = .ok (.iload_n 3, 1) := by decide +kernel
theorem dX7_ticksUntil_66 : decode cX7_ticksUntil 66 = .ok (.ifCond .eq 7, 3) := by decide +kernel
theorem dX7_ticksUntil_69 : decode cX7_ticksUntil 69 = .ok (.iload_n 2, 1) := by decide +kernel
theorem dX7_ticksUntil_70 : decode cX7_ticksUntil 70 = .ok (.goto 5, 3) := by decide +kernel
theorem dX7_ticksUntil_73 : decode cX7_ticksUntil 73 = .ok (.ldc 137, 2) := by decide +kernel
theorem dX7_ticksUntil_75 : decode cX7_ticksUntil 75 = .ok (.ireturn, 1) := by decide +kernel
theorem dX7_apart_0 : decode cX7_apart 0 = .ok (.aload_n 0, 1) := by decide +kernel
theorem dX7_apart_1 : decode cX7_apart 1 = .ok (.getfield 7, 3) := by decide +kernel
theorem dX7_apart_4 : decode cX7_apart 4 = .ok (.sipush 136, 3) := by decide +kernel
theorem dX7_apart_7 : decode cX7_apart 7 = .ok (.iload_n 1, 1) := by decide +kernel
theorem dX7_apart_8 : decode cX7_apart 8 = .ok (.iadd, 1) := by decide +kernel
theorem dX7_apart_9 : decode cX7_apart 9 = .ok (.iaload, 1) := by decide +kernel
theorem dX7_apart_10 : decode cX7_apart 10 = .ok (.aload_n 0, 1) := by decide +kernel
theorem dX7_apart_11 : decode cX7_apart 11 = .ok (.getfield 7, 3) := by decide +kernel
theorem dX7_apart_14 : decode cX7_apart 14 = .ok (.sipush 136, 3) := by decide +kernel
theorem dX7_apart_17 : decode cX7_apart 17 = .ok (.iload_n 2, 1) := by decide +kernel
theorem dX7_apart_18 : decode cX7_apart 18 = .ok (.iadd, 1) := by decide +kernel
theorem dX7_apart_19 : decode cX7_apart 19 = .ok (.iaload, 1) := by decide +kernel
theorem dX7_apart_20 : decode cX7_apart 20 = .ok (.isub, 1) := by decide +kernel
theorem dX7_apart_21 : decode cX7_apart 21 = .ok (.istore_n 3, 1) := by decide +kernel
theorem dX7_apart_22 : decode cX7_apart 22 = .ok (.iload_n 3, 1) := by decide +kernel
theorem dX7_apart_23 : decode cX7_apart 23 = .ok (.ifCond .ge 8, 3) := by decide +kernel
theorem dX7_apart_26 : decode cX7_apart 26 = .ok (.iload_n 3, 1) := by decide +kernel
theorem dX7_apart_27 : decode cX7_apart 27 = .ok (.ineg, 1) := by decide +kernel
theorem dX7_apart_28 : decode cX7_apart 28 = .ok (.goto 4, 3) := by decide +kernel
theorem dX7_apart_31 : decode cX7_apart 31 = .ok (.iload_n 3, 1) := by decide +kernel
theorem dX7_apart_32 : decode cX7_apart 32 = .ok (.ireturn, 1) := by decide +kernel
set_option maxRecDepth 20000 in
theorem ggX7_nearest_X7_apart : GoodIn wsX7_nearest wsX7_apart := goodIn_r _ [6, 1, 7, 8, 9, 10, 11, 12, 13, 14, 15, 16, 17, 18, 19, 20] (by decide +kernel) (by decide +kernel)
set_option maxRecDepth 20000 in
theorem gX7_nearest_X7_apart : GoodIn wsX7_nearest (wsV RX7 163 RX7 yX7_apart wsX7_apart) := goodIn_app (goodIn_of _ (by decide +kernel)) ggX7_nearest_X7_apart
theorem dX7_nearest_0 : decode cX7_nearest 0 = .ok (.bipush 64, 2) := by decide +kernel
theorem dX7_nearest_2 : decode cX7_nearest 2 = .ok (.istore_n 2, 1) := by decide +kernel
theorem dX7_nearest_3 : decode cX7_nearest 3 = .ok (.iconst 0, 1) := by decide +kernel
theorem dX7_nearest_4 : decode cX7_nearest 4 = .ok (.istore_n 3, 1) := by decide +kernel
theorem dX7_nearest_5 : decode cX7_nearest 5 = .ok (.iload_n 3, 1) := by decide +kernel
theorem dX7_nearest_6 : decode cX7_nearest 6 = .ok (.bipush 8, 2) := by decide +kernel
theorem dX7_nearest_8 : decode cX7_nearest 8 = .ok (.if_icmp .ge 49, 3) := by decide +kernel
theorem dX7_nearest_11 : decode cX7_nearest 11 = .ok (.iload_n 3, 1) := by decide +kernel
theorem dX7_nearest_12 : decode cX7_nearest 12 = .ok (.iload_n 1, 1) := by decide +kernel
theorem dX7_nearest_13 : decode cX7_nearest 13 = .ok (.if_icmp .eq 36, 3) := by decide +kernel
theorem dX7_nearest_16 : decode cX7_nearest 16 = .ok (.aload_n 0, 1) := by decide +kernel
theorem dX7_nearest_17 : decode cX7_nearest 17 = .ok (.getfield 7, 3) := by decide +kernel
theorem dX7_nearest_20 : decode cX7_nearest 20 = .ok (.sipush 128, 3) := by decide +kernel
theorem dX7_nearest_23 : decode cX7_nearest 23 = .ok (.iload_n 3, 1) := by decide +kernel
theorem dX7_nearest_24 : decode cX7_nearest 24 = .ok (.iadd, 1) := by decide +kernel
theorem dX7_nearest_25 : decode cX7_nearest 25 = .ok (.iaload, 1) := by decide +kernel
theorem dX7_nearest_26 : decode cX7_nearest 26 = .ok (.iconst 2, 1) := by decide +kernel
theorem dX7_nearest_27 : decode cX7_nearest 27 = .ok (.if_icmp .ne 22, 3) := by decide +kernel
theorem dX7_nearest_30 : decode cX7_nearest 30 = .ok (.aload_n 0, 1) := by decide +kernel
theorem dX7_nearest_31 : decode cX7_nearest 31 = .ok (.iload_n 3, 1) := by decide +kernel
theorem dX7_nearest_32 : decode cX7_nearest 32 = .ok (.iload_n 1, 1) := by decide +kernel
theorem dX7_nearest_33 : decode cX7_nearest 33 = .ok (.invokevirtual 163, 3) := by decide +kernel
theorem dX7_nearest_36 : decode cX7_nearest 36 = .ok (.iload_n 2, 1) := by decide +kernel
theorem dX7_nearest_37 : decode cX7_nearest 37 = .ok (.if_icmp .ge 12, 3) := by decide +kernel
theorem dX7_nearest_40 : decode cX7_nearest 40 = .ok (.aload_n 0, 1) := by decide +kernel
theorem dX7_nearest_41 : decode cX7_nearest 41 = .ok (.iload_n 3, 1) := by decide +kernel
theorem dX7_nearest_42 : decode cX7_nearest 42 = .ok (.iload_n 1, 1) := by decide +kernel
theorem dX7_nearest_43 : decode cX7_nearest 43 = .ok (.invokevirtual 163, 3) := by decide +kernel
theorem dX7_nearest_46 : decode cX7_nearest 46 = .ok (.goto 4, 3) := by decide +kernel
theorem dX7_nearest_49 : decode cX7_nearest 49 = .ok (.iload_n 2, 1) := by decide +kernel
theorem dX7_nearest_50 : decode cX7_nearest 50 = .ok (.istore_n 2, 1) := by decide +kernel
theorem dX7_nearest_51 : decode cX7_nearest 51 = .ok (.iinc 3 1, 3) := by decide +kernel
theorem dX7_nearest_54 : decode cX7_nearest 54 = .ok (.goto (-49), 3) := by decide +kernel
theorem dX7_nearest_57 : decode cX7_nearest 57 = .ok (.iload_n 2, 1) := by decide +kernel
theorem dX7_nearest_58 : decode cX7_nearest 58 = .ok (.ireturn, 1) := by decide +kernel
set_option maxRecDepth 20000 in
theorem ggX7_pair_X7_in : GoodIn wsX7_pair wsX7_in := goodIn_r _ [7] (by decide +kernel) (by decide +kernel)
set_option maxRecDepth 20000 in
theorem gX7_pair_X7_in : GoodIn wsX7_pair (va_wsS RX7 29 yX7_in wsX7_in) := goodIn_app (goodIn_of _ (by decide +kernel)) ggX7_pair_X7_in
set_option maxRecDepth 20000 in
theorem ggX7_pair_X7_many : GoodIn wsX7_pair wsX7_many := goodIn_r _ [11, 3, 20, 21, 22, 23, 24, 25, 26, 27, 28, 29, 30, 31, 32, 33] (by decide +kernel) (by decide +kernel)
set_option maxRecDepth 20000 in
theorem gX7_pair_X7_many : GoodIn wsX7_pair (wsV RX7 47 RX7 yX7_many wsX7_many) := goodIn_app (goodIn_of _ (by decide +kernel)) ggX7_pair_X7_many
set_option maxRecDepth 20000 in
theorem ggX7_pair_X7_nearest : GoodIn wsX7_pair wsX7_nearest := goodIn_r _ [15, 3, 16, 17, 18, 6, 19, 20, 21, 22, 23, 24, 25, 26, 27, 28, 29, 30, 31, 32, 33] (by decide +kernel) (by decide +kernel)
set_option maxRecDepth 20000 in
theorem gX7_pair_X7_nearest : GoodIn wsX7_pair (wsV RX7 166 RX7 yX7_nearest wsX7_nearest) := goodIn_app (goodIn_of _ (by decide +kernel)) ggX7_pair_X7_nearest
theorem dX7_pair_0 : decode cX7_pair 0 = .ok (.iload_n 1, 1) := by decide +kernel
theorem dX7_pair_1 : decode cX7_pair 1 = .ok (.i2l, 1) := by decide +kernel
theorem dX7_pair_2 : decode cX7_pair 2 = .ok (.lconst 0, 1) := by decide +kernel
theorem dX7_pair_3 : decode cX7_pair 3 = .ok (.lconst 1, 1) := by decide +kernel
theorem dX7_pair_4 : decode cX7_pair 4 = .ok (.invokestatic 29, 3) := by decide +kernel
theorem dX7_pair_7 : decode cX7_pair 7 = .ok (.ifCond .ne 6, 3) := by decide +kernel
theorem dX7_pair_10 : decode cX7_pair 10 = .ok (.ldc 73, 2) := by decide +kernel
theorem dX7_pair_12 : decode cX7_pair 12 = .ok (.ireturn, 1) := by decide +kernel
theorem dX7_pair_13 : decode cX7_pair 13 = .ok (.aload_n 0, 1) := by decide +kernel
theorem dX7_pair_14 : decode cX7_pair 14 = .ok (.iconst 2, 1) := by decide +kernel
theorem dX7_pair_15 : decode cX7_pair 15 = .ok (.invokevirtual 47, 3) := by decide +kernel
theorem dX7_pair_18 : decode cX7_pair 18 = .ok (.iconst 2, 1) := by decide +kernel
theorem dX7_pair_19 : decode cX7_pair 19 = .ok (.if_icmp .ge 6, 3) := by decide +kernel
theorem dX7_pair_22 : decode cX7_pair 22 = .ok (.ldc 137, 2) := by decide +kernel
theorem dX7_pair_24 : decode cX7_pair 24 = .ok (.ireturn, 1) := by decide +kernel
theorem dX7_pair_25 : decode cX7_pair 25 = .ok (.iconst (-1), 1) := by decide +kernel
theorem dX7_pair_26 : decode cX7_pair 26 = .ok (.istore_n 2, 1) := by decide +kernel
theorem dX7_pair_27 : decode cX7_pair 27 = .ok (.iconst 0, 1) := by decide +kernel
theorem dX7_pair_28 : decode cX7_pair 28 = .ok (.istore_n 3, 1) := by decide +kernel
theorem dX7_pair_29 : decode cX7_pair 29 = .ok (.iload_n 3, 1) := by decide +kernel
theorem dX7_pair_30 : decode cX7_pair 30 = .ok (.bipush 8, 2) := by decide +kernel
theorem dX7_pair_32 : decode cX7_pair 32 = .ok (.if_icmp .ge 84, 3) := by decide +kernel
theorem dX7_pair_35 : decode cX7_pair 35 = .ok (.aload_n 0, 1) := by decide +kernel
theorem dX7_pair_36 : decode cX7_pair 36 = .ok (.getfield 7, 3) := by decide +kernel
theorem dX7_pair_39 : decode cX7_pair 39 = .ok (.sipush 128, 3) := by decide +kernel
theorem dX7_pair_42 : decode cX7_pair 42 = .ok (.iload_n 3, 1) := by decide +kernel
theorem dX7_pair_43 : decode cX7_pair 43 = .ok (.iadd, 1) := by decide +kernel
theorem dX7_pair_44 : decode cX7_pair 44 = .ok (.iaload, 1) := by decide +kernel
theorem dX7_pair_45 : decode cX7_pair 45 = .ok (.iconst 2, 1) := by decide +kernel
theorem dX7_pair_46 : decode cX7_pair 46 = .ok (.if_icmp .ne 64, 3) := by decide +kernel
theorem dX7_pair_49 : decode cX7_pair 49 = .ok (.iload_n 2, 1) := by decide +kernel
theorem dX7_pair_50 : decode cX7_pair 50 = .ok (.iconst (-1), 1) := by decide +kernel
theorem dX7_pair_51 : decode cX7_pair 51 = .ok (.if_icmp .ne 7, 3) := by decide +kernel
theorem dX7_pair_54 : decode cX7_pair 54 = .ok (.iconst (-1), 1) := by decide +kernel
theorem dX7_pair_55 : decode cX7_pair 55 = .ok (.goto 14, 3) := by decide +kernel
theorem dX7_pair_58 : decode cX7_pair 58 = .ok (.aload_n 0, 1) := by decide +kernel
theorem dX7_pair_59 : decode cX7_pair 59 = .ok (.iload_n 3, 1) := by decide +kernel
theorem dX7_pair_60 : decode cX7_pair 60 = .ok (.invokevirtual 166, 3) := by decide +kernel
theorem dX7_pair_63 : decode cX7_pair 63 = .ok (.aload_n 0, 1) := by decide +kernel
theorem dX7_pair_64 : decode cX7_pair 64 = .ok (.iload_n 2, 1) := by decide +kernel
theorem dX7_pair_65 : decode cX7_pair 65 = .ok (.invokevirtual 166, 3) := by decide +kernel
theorem dX7_pair_68 : decode cX7_pair 68 = .ok (.isub, 1) := by decide +kernel
theorem dX7_pair_69 : decode cX7_pair 69 = .ok (.istore 4, 2) := by decide +kernel
theorem dX7_pair_71 : decode cX7_pair 71 = .ok (.iload 4, 2) := by decide +kernel
theorem dX7_pair_73 : decode cX7_pair 73 = .ok (.ifCond .lt 31, 3) := by decide +kernel
theorem dX7_pair_76 : decode cX7_pair 76 = .ok (.iload 4, 2) := by decide +kernel
theorem dX7_pair_78 : decode cX7_pair 78 = .ok (.ifCond .ne 30, 3) := by decide +kernel
theorem dX7_pair_81 : decode cX7_pair 81 = .ok (.aload_n 0, 1) := by decide +kernel
theorem dX7_pair_82 : decode cX7_pair 82 = .ok (.getfield 7, 3) := by decide +kernel
theorem dX7_pair_85 : decode cX7_pair 85 = .ok (.sipush 152, 3) := by decide +kernel
theorem dX7_pair_88 : decode cX7_pair 88 = .ok (.iload_n 3, 1) := by decide +kernel
theorem dX7_pair_89 : decode cX7_pair 89 = .ok (.iadd, 1) := by decide +kernel
theorem dX7_pair_90 : decode cX7_pair 90 = .ok (.iaload, 1) := by decide +kernel
theorem dX7_pair_91 : decode cX7_pair 91 = .ok (.aload_n 0, 1) := by decide +kernel
theorem dX7_pair_92 : decode cX7_pair 92 = .ok (.getfield 7, 3) := by decide +kernel
theorem dX7_pair_95 : decode cX7_pair 95 = .ok (.sipush 152, 3) := by decide +kernel
theorem dX7_pair_98 : decode cX7_pair 98 = .ok (.iload_n 2, 1) := by decide +kernel
theorem dX7_pair_99 : decode cX7_pair 99 = .ok (.iadd, 1) := by decide +kernel
theorem dX7_pair_100 : decode cX7_pair 100 = .ok (.iaload, 1) := by decide +kernel
theorem dX7_pair_101 : decode cX7_pair 101 = .ok (.if_icmp .ge 7, 3) := by decide +kernel
theorem dX7_pair_104 : decode cX7_pair 104 = .ok (.iload_n 3, 1) := by decide +kernel
theorem dX7_pair_105 : decode cX7_pair 105 = .ok (.goto 4, 3) := by decide +kernel
theorem dX7_pair_108 : decode cX7_pair 108 = .ok (.iload_n 2, 1) := by decide +kernel
theorem dX7_pair_109 : decode cX7_pair 109 = .ok (.istore_n 2, 1) := by decide +kernel
theorem dX7_pair_110 : decode cX7_pair 110 = .ok (.iinc 3 1, 3) := by decide +kernel
theorem dX7_pair_113 : decode cX7_pair 113 = .ok (.goto (-84), 3) := by decide +kernel
theorem dX7_pair_116 : decode cX7_pair 116 = .ok (.iload_n 1, 1) := by decide +kernel
theorem dX7_pair_117 : decode cX7_pair 117 = .ok (.ifCond .ne 7, 3) := by decide +kernel
theorem dX7_pair_120 : decode cX7_pair 120 = .ok (.iload_n 2, 1) := by decide +kernel
theorem dX7_pair_121 : decode cX7_pair 121 = .ok (.goto 8, 3) := by decide +kernel
theorem dX7_pair_124 : decode cX7_pair 124 = .ok (.aload_n 0, 1) := by decide +kernel
theorem dX7_pair_125 : decode cX7_pair 125 = .ok (.iload_n 2, 1) := by decide +kernel
theorem dX7_pair_126 : decode cX7_pair 126 = .ok (.invokevirtual 166, 3) := by decide +kernel
theorem dX7_pair_129 : decode cX7_pair 129 = .ok (.ireturn, 1) := by decide +kernel
set_option maxRecDepth 20000 in
theorem ggX7_count_X7_in : GoodIn wsX7_count wsX7_in := goodIn_r _ [11] (by decide +kernel) (by decide +kernel)
set_option maxRecDepth 20000 in
theorem gX7_count_X7_in : GoodIn wsX7_count (va_wsS RX7 29 yX7_in wsX7_in) := goodIn_app (goodIn_of _ (by decide +kernel)) ggX7_count_X7_in
theorem dX7_count_0 : decode cX7_count 0 = .ok (.iload_n 1, 1) := by decide +kernel
theorem dX7_count_1 : decode cX7_count 1 = .ok (.i2l, 1) := by decide +kernel
theorem dX7_count_2 : decode cX7_count 2 = .ok (.lconst 0, 1) := by decide +kernel
theorem dX7_count_3 : decode cX7_count 3 = .ok (.ldc2_w 161, 3) := by decide +kernel
theorem dX7_count_6 : decode cX7_count 6 = .ok (.invokestatic 29, 3) := by decide +kernel
theorem dX7_count_9 : decode cX7_count 9 = .ok (.ifCond .eq 14, 3) := by decide +kernel
theorem dX7_count_12 : decode cX7_count 12 = .ok (.aload_n 0, 1) := by decide +kernel
theorem dX7_count_13 : decode cX7_count 13 = .ok (.getfield 7, 3) := by decide +kernel
theorem dX7_count_16 : decode cX7_count 16 = .ok (.sipush 164, 3) := by decide +kernel
theorem dX7_count_19 : decode cX7_count 19 = .ok (.iload_n 1, 1) := by decide +kernel
theorem dX7_count_20 : decode cX7_count 20 = .ok (.iadd, 1) := by decide +kernel
theorem dX7_count_21 : decode cX7_count 21 = .ok (.iaload, 1) := by decide +kernel
theorem dX7_count_22 : decode cX7_count 22 = .ok (.ireturn, 1) := by decide +kernel
theorem dX7_count_23 : decode cX7_count 23 = .ok (.iload_n 1, 1) := by decide +kernel
theorem dX7_count_24 : decode cX7_count 24 = .ok (.bipush 9, 2) := by decide +kernel
theorem dX7_count_26 : decode cX7_count 26 = .ok (.if_icmp .ne 10, 3) := by decide +kernel
theorem dX7_count_29 : decode cX7_count 29 = .ok (.aload_n 0, 1) := by decide +kernel
theorem dX7_count_30 : decode cX7_count 30 = .ok (.getfield 23, 3) := by decide +kernel
theorem dX7_count_33 : decode cX7_count 33 = .ok (.goto 48, 3) := by decide +kernel
theorem dX7_count_36 : decode cX7_count 36 = .ok (.iload_n 1, 1) := by decide +kernel
theorem dX7_count_37 : decode cX7_count 37 = .ok (.bipush 10, 2) := by decide +kernel
theorem dX7_count_39 : decode cX7_count 39 = .ok (.if_icmp .ne 10, 3) := by decide +kernel
theorem dX7_count_42 : decode cX7_count 42 = .ok (.aload_n 0, 1) := by decide +kernel
theorem dX7_count_43 : decode cX7_count 43 = .ok (.getfield 169, 3) := by decide +kernel
theorem dX7_count_46 : decode cX7_count 46 = .ok (.goto 35, 3) := by decide +kernel
theorem dX7_count_49 : decode cX7_count 49 = .ok (.iload_n 1, 1) := by decide +kernel
theorem dX7_count_50 : decode cX7_count 50 = .ok (.i2l, 1) := by decide +kernel
theorem dX7_count_51 : decode cX7_count 51 = .ok (.ldc2_w 172, 3) := by decide +kernel
theorem dX7_count_54 : decode cX7_count 54 = .ok (.ldc2_w 174, 3) := by decide +kernel
theorem dX7_count_57 : decode cX7_count 57 = .ok (.invokestatic 29, 3) := by decide +kernel
theorem dX7_count_60 : decode cX7_count 60 = .ok (.ifCond .eq 19, 3) := by decide +kernel
theorem dX7_count_63 : decode cX7_count 63 = .ok (.aload_n 0, 1) := by decide +kernel
theorem dX7_count_64 : decode cX7_count 64 = .ok (.getfield 7, 3) := by decide +kernel
theorem dX7_count_67 : decode cX7_count 67 = .ok (.sipush 174, 3) := by decide +kernel
theorem dX7_count_70 : decode cX7_count 70 = .ok (.iload_n 1, 1) := by decide +kernel
theorem dX7_count_71 : decode cX7_count 71 = .ok (.iadd, 1) := by decide +kernel
theorem dX7_count_72 : decode cX7_count 72 = .ok (.bipush 20, 2) := by decide +kernel
theorem dX7_count_74 : decode cX7_count 74 = .ok (.isub, 1) := by decide +kernel
theorem dX7_count_75 : decode cX7_count 75 = .ok (.iaload, 1) := by decide +kernel
theorem dX7_count_76 : decode cX7_count 76 = .ok (.goto 5, 3) := by decide +kernel
theorem dX7_count_79 : decode cX7_count 79 = .ok (.ldc 73, 2) := by decide +kernel
theorem dX7_count_81 : decode cX7_count 81 = .ok (.ireturn, 1) := by decide +kernel
theorem dX7_undo_0 : decode cX7_undo 0 = .ok (.aload_n 0, 1) := by decide +kernel
theorem dX7_undo_1 : decode cX7_undo 1 = .ok (.getfield 23, 3) := by decide +kernel
theorem dX7_undo_4 : decode cX7_undo 4 = .ok (.ifCond .ne 6, 3) := by decide +kernel
theorem dX7_undo_7 : decode cX7_undo 7 = .ok (.ldc 96, 2) := by decide +kernel
theorem dX7_undo_9 : decode cX7_undo 9 = .ok (.ireturn, 1) := by decide +kernel
theorem dX7_undo_10 : decode cX7_undo 10 = .ok (.aload_n 0, 1) := by decide +kernel
theorem dX7_undo_11 : decode cX7_undo 11 = .ok (.dup, 1) := by decide +kernel
theorem dX7_undo_12 : decode cX7_undo 12 = .ok (.getfield 23, 3) := by decide +kernel
theorem dX7_undo_15 : decode cX7_undo 15 = .ok (.iconst 1, 1) := by decide +kernel
theorem dX7_undo_16 : decode cX7_undo 16 = .ok (.isub, 1) := by decide +kernel
theorem dX7_undo_17 : decode cX7_undo 17 = .ok (.putfield 23, 3) := by decide +kernel
theorem dX7_undo_20 : decode cX7_undo 20 = .ok (.iconst 0, 1) := by decide +kernel
theorem dX7_undo_21 : decode cX7_undo 21 = .ok (.istore_n 1, 1) := by decide +kernel
theorem dX7_undo_22 : decode cX7_undo 22 = .ok (.iload_n 1, 1) := by decide +kernel
theorem dX7_undo_23 : decode cX7_undo 23 = .ok (.sipush 180, 3) := by decide +kernel
theorem dX7_undo_26 : decode cX7_undo 26 = .ok (.if_icmp .ge 30, 3) := by decide +kernel
theorem dX7_undo_29 : decode cX7_undo 29 = .ok (.aload_n 0, 1) := by decide +kernel
theorem dX7_undo_30 : decode cX7_undo 30 = .ok (.getfield 7, 3) := by decide +kernel
theorem dX7_undo_33 : decode cX7_undo 33 = .ok (.iload_n 1, 1) := by decide +kernel
theorem dX7_undo_34 : decode cX7_undo 34 = .ok (.aload_n 0, 1) := by decide +kernel
theorem dX7_undo_35 : decode cX7_undo 35 = .ok (.getfield 16, 3) := by decide +kernel
theorem dX7_undo_38 : decode cX7_undo 38 = .ok (.sipush 180, 3) := by decide +kernel
theorem dX7_undo_41 : decode cX7_undo 41 = .ok (.aload_n 0, 1) := by decide +kernel
theorem dX7_undo_42 : decode cX7_undo 42 = .ok (.getfield 23, 3) := by decide +kernel
theorem dX7_undo_45 : decode cX7_undo 45 = .ok (.imul, 1) := by decide +kernel
theorem dX7_undo_46 : decode cX7_undo 46 = .ok (.iload_n 1, 1) := by decide +kernel
theorem dX7_undo_47 : decode cX7_undo 47 = .ok (.iadd, 1) := by decide +kernel
theorem dX7_undo_48 : decode cX7_undo 48 = .ok (.iaload, 1) := by decide +kernel
theorem dX7_undo_49 : decode cX7_undo 49 = .ok (.iastore, 1) := by decide +kernel
theorem dX7_undo_50 : decode cX7_undo 50 = .ok (.iinc 1 1, 3) := by decide +kernel
theorem dX7_undo_53 : decode cX7_undo 53 = .ok (.goto (-31), 3) := by decide +kernel
theorem dX7_undo_56 : decode cX7_undo 56 = .ok (.aload_n 0, 1) := by decide +kernel
theorem dX7_undo_57 : decode cX7_undo 57 = .ok (.getfield 23, 3) := by decide +kernel
theorem dX7_undo_60 : decode cX7_undo 60 = .ok (.ireturn, 1) := by decide +kernel
set_option maxRecDepth 20000 in
theorem ggX7_type_X7_in : GoodIn wsX7_type wsX7_in := goodIn_r _ [10] (by decide +kernel) (by decide +kernel)
set_option maxRecDepth 20000 in
theorem gX7_type_X7_in : GoodIn wsX7_type (va_wsS RX7 29 yX7_in wsX7_in) := goodIn_app (goodIn_of _ (by decide +kernel)) ggX7_type_X7_in
theorem dX7_type_0 : decode cX7_type 0 = .ok (.iload_n 1, 1) := by decide +kernel
theorem dX7_type_1 : decode cX7_type 1 = .ok (.i2l, 1) := by decide +kernel
theorem dX7_type_2 : decode cX7_type 2 = .ok (.ldc2_w 176, 3) := by decide +kernel
theorem dX7_type_5 : decode cX7_type 5 = .ok (.ldc2_w 178, 3) := by decide +kernel
theorem dX7_type_8 : decode cX7_type 8 = .ok (.invokestatic 29, 3) := by decide +kernel
theorem dX7_type_11 : decode cX7_type 11 = .ok (.ifCond .ne 6, 3) := by decide +kernel
theorem dX7_type_14 : decode cX7_type 14 = .ok (.ldc 73, 2) := by decide +kernel
theorem dX7_type_16 : decode cX7_type 16 = .ok (.ireturn, 1) := by decide +kernel
theorem dX7_type_17 : decode cX7_type 17 = .ok (.aload_n 0, 1) := by decide +kernel
theorem dX7_type_18 : decode cX7_type 18 = .ok (.getfield 169, 3) := by decide +kernel
theorem dX7_type_21 : decode cX7_type 21 = .ok (.bipush 60, 2) := by decide +kernel
theorem dX7_type_23 : decode cX7_type 23 = .ok (.if_icmp .ne 6, 3) := by decide +kernel
theorem dX7_type_26 : decode cX7_type 26 = .ok (.ldc 180, 2) := by decide +kernel
theorem dX7_type_28 : decode cX7_type 28 = .ok (.ireturn, 1) := by decide +kernel
theorem dX7_type_29 : decode cX7_type 29 = .ok (.aload_n 0, 1) := by decide +kernel
theorem dX7_type_30 : decode cX7_type 30 = .ok (.getfield 19, 3) := by decide +kernel
theorem dX7_type_33 : decode cX7_type 33 = .ok (.aload_n 0, 1) := by decide +kernel
theorem dX7_type_34 : decode cX7_type 34 = .ok (.getfield 169, 3) := by decide +kernel
theorem dX7_type_37 : decode cX7_type 37 = .ok (.iload_n 1, 1) := by decide +kernel
theorem dX7_type_38 : decode cX7_type 38 = .ok (.iastore, 1) := by decide +kernel
theorem dX7_type_39 : decode cX7_type 39 = .ok (.aload_n 0, 1) := by decide +kernel
theorem dX7_type_40 : decode cX7_type 40 = .ok (.dup, 1) := by decide +kernel
theorem dX7_type_41 : decode cX7_type 41 = .ok (.getfield 169, 3) := by decide +kernel
theorem dX7_type_44 : decode cX7_type 44 = .ok (.iconst 1, 1) := by decide +kernel
theorem dX7_type_45 : decode cX7_type 45 = .ok (.iadd, 1) := by decide +kernel
theorem dX7_type_46 : decode cX7_type 46 = .ok (.putfield 169, 3) := by decide +kernel
theorem dX7_type_49 : decode cX7_type 49 = .ok (.aload_n 0, 1) := by decide +kernel
theorem dX7_type_50 : decode cX7_type 50 = .ok (.getfield 169, 3) := by decide +kernel
theorem dX7_type_53 : decode cX7_type 53 = .ok (.ireturn, 1) := by decide +kernel
theorem dX7_clearText_0 : decode cX7_clearText 0 = .ok (.aload_n 0, 1) := by decide +kernel
theorem dX7_clearText_1 : decode cX7_clearText 1 = .ok (.getfield 169, 3) := by decide +kernel
theorem dX7_clearText_4 : decode cX7_clearText 4 = .ok (.istore_n 1, 1) := by decide +kernel
theorem dX7_clearText_5 : decode cX7_clearText 5 = .ok (.aload_n 0, 1) := by decide +kernel
theorem dX7_clearText_6 : decode cX7_clearText 6 = .ok (.iconst 0, 1) := by decide +kernel
theorem dX7_clearText_7 : decode cX7_clearText 7 = .ok (.putfield 169, 3) := by decide +kernel
theorem dX7_clearText_10 : decode cX7_clearText 10 = .ok (.iload_n 1, 1) := by decide +kernel
theorem dX7_clearText_11 : decode cX7_clearText 11 = .ok (.ireturn, 1) := by decide +kernel
set_option maxRecDepth 20000 in
theorem ggX7_isHere_X7_in : GoodIn wsX7_isHere wsX7_in := goodIn_r _ [7] (by decide +kernel) (by decide +kernel)
set_option maxRecDepth 20000 in
theorem gX7_isHere_X7_in : GoodIn wsX7_isHere (va_wsS RX7 29 yX7_in wsX7_in) := goodIn_app (goodIn_of _ (by decide +kernel)) ggX7_isHere_X7_in
theorem dX7_isHere_0 : decode cX7_isHere 0 = .ok (.aload_n 0, 1) := by decide +kernel
theorem dX7_isHere_1 : decode cX7_isHere 1 = .ok (.getfield 181, 3) := by decide +kernel
theorem dX7_isHere_4 : decode cX7_isHere 4 = .ok (.aload_n 0, 1) := by decide +kernel
theorem dX7_isHere_5 : decode cX7_isHere 5 = .ok (.getfield 169, 3) := by decide +kernel
theorem dX7_isHere_8 : decode cX7_isHere 8 = .ok (.if_icmp .ge 27, 3) := by decide +kernel
theorem dX7_isHere_11 : decode cX7_isHere 11 = .ok (.aload_n 0, 1) := by decide +kernel
theorem dX7_isHere_12 : decode cX7_isHere 12 = .ok (.getfield 19, 3) := by decide +kernel
theorem dX7_isHere_15 : decode cX7_isHere 15 = .ok (.aload_n 0, 1) := by decide +kernel
theorem dX7_isHere_16 : decode cX7_isHere 16 = .ok (.getfield 181, 3) := by decide +kernel
theorem dX7_isHere_19 : decode cX7_isHere 19 = .ok (.iaload, 1) := by decide +kernel
theorem dX7_isHere_20 : decode cX7_isHere 20 = .ok (.i2l, 1) := by decide +kernel
theorem dX7_isHere_21 : decode cX7_isHere 21 = .ok (.iload_n 1, 1) := by decide +kernel
theorem dX7_isHere_22 : decode cX7_isHere 22 = .ok (.i2l, 1) := by decide +kernel
theorem dX7_isHere_23 : decode cX7_isHere 23 = .ok (.iload_n 2, 1) := by decide +kernel
theorem dX7_isHere_24 : decode cX7_isHere 24 = .ok (.i2l, 1) := by decide +kernel
theorem dX7_isHere_25 : decode cX7_isHere 25 = .ok (.invokestatic 29, 3) := by decide +kernel
theorem dX7_isHere_28 : decode cX7_isHere 28 = .ok (.ifCond .eq 7, 3) := by decide +kernel
theorem dX7_isHere_31 : decode cX7_isHere 31 = .ok (.iconst 1, 1) := by decide +kernel
theorem dX7_isHere_32 : decode cX7_isHere 32 = .ok (.goto 4, 3) := by decide +kernel
theorem dX7_isHere_35 : decode cX7_isHere 35 = .ok (.iconst 0, 1) := by decide +kernel
theorem dX7_isHere_36 : decode cX7_isHere 36 = .ok (.ireturn, 1) := by decide +kernel
set_option maxRecDepth 20000 in
theorem ggX7_takes_X7_isHere : GoodIn wsX7_takes wsX7_isHere := goodIn_r _ [6, 1, 7, 8, 9, 10, 5, 11, 12, 13, 14, 15, 16, 17, 18, 19, 20, 21, 22, 23, 24, 25] (by decide +kernel) (by decide +kernel)
set_option maxRecDepth 20000 in
theorem gX7_takes_X7_isHere : GoodIn wsX7_takes (wsV RX7 184 RX7 yX7_isHere wsX7_isHere) := goodIn_app (goodIn_of _ (by decide +kernel)) ggX7_takes_X7_isHere
theorem dX7_takes_0 : decode cX7_takes 0 = .ok (.aload_n 0, 1) := by decide +kernel
theorem dX7_takes_1 : decode cX7_takes 1 = .ok (.iload_n 1, 1) := by decide +kernel
theorem dX7_takes_2 : decode cX7_takes 2 = .ok (.iload_n 1, 1) := by decide +kernel
theorem dX7_takes_3 : decode cX7_takes 3 = .ok (.invokevirtual 184, 3) := by decide +kernel
theorem dX7_takes_6 : decode cX7_takes 6 = .ok (.istore_n 2, 1) := by decide +kernel
theorem dX7_takes_7 : decode cX7_takes 7 = .ok (.aload_n 0, 1) := by decide +kernel
theorem dX7_takes_8 : decode cX7_takes 8 = .ok (.dup, 1) := by decide +kernel
theorem dX7_takes_9 : decode cX7_takes 9 = .ok (.getfield 181, 3) := by decide +kernel
theorem dX7_takes_12 : decode cX7_takes 12 = .ok (.iload_n 2, 1) := by decide +kernel
theorem dX7_takes_13 : decode cX7_takes 13 = .ok (.ifCond .eq 7, 3) := by decide +kernel
theorem dX7_takes_16 : decode cX7_takes 16 = .ok (.iconst 1, 1) := by decide +kernel
theorem dX7_takes_17 : decode cX7_takes 17 = .ok (.goto 4, 3) := by decide +kernel
theorem dX7_takes_20 : decode cX7_takes 20 = .ok (.iconst 0, 1) := by decide +kernel
theorem dX7_takes_21 : decode cX7_takes 21 = .ok (.iadd, 1) := by decide +kernel
theorem dX7_takes_22 : decode cX7_takes 22 = .ok (.putfield 181, 3) := by decide +kernel
theorem dX7_takes_25 : decode cX7_takes 25 = .ok (.iload_n 2, 1) := by decide +kernel
theorem dX7_takes_26 : decode cX7_takes 26 = .ok (.ireturn, 1) := by decide +kernel
set_option maxRecDepth 20000 in
theorem ggX7_takesNumber_X7_isHere : GoodIn wsX7_takesNumber wsX7_isHere := goodIn_r _ [8, 1, 9, 3, 10, 11, 7, 12, 13, 14, 15, 16, 17, 18, 19, 20, 21, 22, 23, 24, 25, 26] (by decide +kernel) (by decide +kernel)
set_option maxRecDepth 20000 in
theorem gX7_takesNumber_X7_isHere : GoodIn wsX7_takesNumber (wsV RX7 184 RX7 yX7_isHere wsX7_isHere) := goodIn_app (goodIn_of _ (by decide +kernel)) ggX7_takesNumber_X7_isHere
theorem dX7_takesNumber_0 : decode cX7_takesNumber 0 = .ok (.aload_n 0, 1) := by decide +kernel
theorem dX7_takesNumber_1 : decode cX7_takesNumber 1 = .ok (.getfield 181, 3) := by decide +kernel
theorem dX7_takesNumber_4 : decode cX7_takesNumber 4 = .ok (.istore_n 1, 1) := by decide +kernel
theorem dX7_takesNumber_5 : decode cX7_takesNumber 5 = .ok (.aload_n 0, 1) := by decide +kernel
theorem dX7_takesNumber_6 : decode cX7_takesNumber 6 = .ok (.iconst 0, 1) := by decide +kernel
theorem dX7_takesNumber_7 : decode cX7_takesNumber 7 = .ok (.putfield 188, 3) := by decide +kernel
theorem dX7_takesNumber_10 : decode cX7_takesNumber 10 = .ok (.aload_n 0, 1) := by decide +kernel
theorem dX7_takesNumber_11 : decode cX7_takesNumber 11 = .ok (.getfield 181, 3) := by decide +kernel
theorem dX7_takesNumber_14 : decode cX7_takesNumber 14 = .ok (.iload_n 1, 1) := by decide +kernel
theorem dX7_takesNumber_15 : decode cX7_takesNumber 15 = .ok (.iconst 3, 1) := by decide +kernel
theorem dX7_takesNumber_16 : decode cX7_takesNumber 16 = .ok (.iadd, 1) := by decide +kernel
theorem dX7_takesNumber_17 : decode cX7_takesNumber 17 = .ok (.if_icmp .ge 51, 3) := by decide +kernel
theorem dX7_takesNumber_20 : decode cX7_takesNumber 20 = .ok (.aload_n 0, 1) := by decide +kernel
theorem dX7_takesNumber_21 : decode cX7_takesNumber 21 = .ok (.bipush 48, 2) := by decide +kernel
theorem dX7_takesNumber_23 : decode cX7_takesNumber 23 = .ok (.bipush 57, 2) := by decide +kernel
theorem dX7_takesNumber_25 : decode cX7_takesNumber 25 = .ok (.invokevirtual 184, 3) := by decide +kernel
theorem dX7_takesNumber_28 : decode cX7_takesNumber 28 = .ok (.ifCond .eq 40, 3) := by decide +kernel
theorem dX7_takesNumber_31 : decode cX7_takesNumber 31 = .ok (.aload_n 0, 1) := by decide +kernel
theorem dX7_takesNumber_32 : decode cX7_takesNumber 32 = .ok (.bipush 10, 2) := by decide +kernel
theorem dX7_takesNumber_34 : decode cX7_takesNumber 34 = .ok (.aload_n 0, 1) := by decide +kernel
theorem dX7_takesNumber_35 : decode cX7_takesNumber 35 = .ok (.getfield 188, 3) := by decide +kernel
theorem dX7_takesNumber_38 : decode cX7_takesNumber 38 = .ok (.imul, 1) := by decide +kernel
theorem dX7_takesNumber_39 : decode cX7_takesNumber 39 = .ok (.aload_n 0, 1) := by decide +kernel
theorem dX7_takesNumber_40 : decode cX7_takesNumber 40 = .ok (.getfield 19, 3) := by decide +kernel
theorem dX7_takesNumber_43 : decode cX7_takesNumber 43 = .ok (.aload_n 0, 1) := by decide +kernel
theorem dX7_takesNumber_44 : decode cX7_takesNumber 44 = .ok (.getfield 181, 3) := by decide +kernel
theorem dX7_takesNumber_47 : decode cX7_takesNumber 47 = .ok (.iaload, 1) := by decide +kernel
theorem dX7_takesNumber_48 : decode cX7_takesNumber 48 = .ok (.iadd, 1) := by decide +kernel
theorem dX7_takesNumber_49 : decode cX7_takesNumber 49 = .ok (.bipush 48, 2) := by decide +kernel
theorem dX7_takesNumber_51 : decode cX7_takesNumber 51 = .ok (.isub, 1) := by decide +kernel
theorem dX7_takesNumber_52 : decode cX7_takesNumber 52 = .ok (.putfield 188, 3) := by decide +kernel
theorem dX7_takesNumber_55 : decode cX7_takesNumber 55 = .ok (.aload_n 0, 1) := by decide +kernel
theorem dX7_takesNumber_56 : decode cX7_takesNumber 56 = .ok (.dup, 1) := by decide +kernel
theorem dX7_takesNumber_57 : decode cX7_takesNumber 57 = .ok (.getfield 181, 3) := by decide +kernel
theorem dX7_takesNumber_60 : decode cX7_takesNumber 60 = .ok (.iconst 1, 1) := by decide +kernel
theorem dX7_takesNumber_61 : decode cX7_takesNumber 61 = .ok (.iadd, 1) := by decide +kernel
theorem dX7_takesNumber_62 : decode cX7_takesNumber 62 = .ok (.putfield 181, 3) := by decide +kernel
theorem dX7_takesNumber_65 : decode cX7_takesNumber 65 = .ok (.goto (-55), 3) := by decide +kernel
theorem dX7_takesNumber_68 : decode cX7_takesNumber 68 = .ok (.aload_n 0, 1) := by decide +kernel
theorem dX7_takesNumber_69 : decode cX7_takesNumber 69 = .ok (.getfield 181, 3) := by decide +kernel
theorem dX7_takesNumber_72 : decode cX7_takesNumber 72 = .ok (.iload_n 1, 1) := by decide +kernel
theorem dX7_takesNumber_73 : decode cX7_takesNumber 73 = .ok (.if_icmp .le 7, 3) := by decide +kernel
theorem dX7_takesNumber_76 : decode cX7_takesNumber 76 = .ok (.iconst 1, 1) := by decide +kernel
theorem dX7_takesNumber_77 : decode cX7_takesNumber 77 = .ok (.goto 4, 3) := by decide +kernel
theorem dX7_takesNumber_80 : decode cX7_takesNumber 80 = .ok (.iconst 0, 1) := by decide +kernel
theorem dX7_takesNumber_81 : decode cX7_takesNumber 81 = .ok (.ireturn, 1) := by decide +kernel
theorem dX7_isOrder_0 : decode cX7_isOrder 0 = .ok (.iload_n 0, 1) := by decide +kernel
theorem dX7_isOrder_1 : decode cX7_isOrder 1 = .ok (.bipush 114, 2) := by decide +kernel
theorem dX7_isOrder_3 : decode cX7_isOrder 3 = .ok (.if_icmp .eq 33, 3) := by decide +kernel
theorem dX7_isOrder_6 : decode cX7_isOrder 6 = .ok (.iload_n 0, 1) := by decide +kernel
theorem dX7_isOrder_7 : decode cX7_isOrder 7 = .ok (.bipush 119, 2) := by decide +kernel
theorem dX7_isOrder_9 : decode cX7_isOrder 9 = .ok (.if_icmp .eq 27, 3) := by decide +kernel
theorem dX7_isOrder_12 : decode cX7_isOrder 12 = .ok (.iload_n 0, 1) := by decide +kernel
theorem dX7_isOrder_13 : decode cX7_isOrder 13 = .ok (.bipush 116, 2) := by decide +kernel
theorem dX7_isOrder_15 : decode cX7_isOrder 15 = .ok (.if_icmp .eq 21, 3) := by decide +kernel
theorem dX7_isOrder_18 : decode cX7_isOrder 18 = .ok (.iload_n 0, 1) := by decide +kernel
theorem dX7_isOrder_19 : decode cX7_isOrder 19 = .ok (.bipush 108, 2) := by decide +kernel
theorem dX7_isOrder_21 : decode cX7_isOrder 21 = .ok (.if_icmp .eq 15, 3) := by decide +kernel
theorem dX7_isOrder_24 : decode cX7_isOrder 24 = .ok (.iload_n 0, 1) := by decide +kernel
theorem dX7_isOrder_25 : decode cX7_isOrder 25 = .ok (.bipush 99, 2) := by decide +kernel
theorem dX7_isOrder_27 : decode cX7_isOrder 27 = .ok (.if_icmp .eq 9, 3) := by decide +kernel
theorem dX7_isOrder_30 : decode cX7_isOrder 30 = .ok (.iload_n 0, 1) := by decide +kernel
theorem dX7_isOrder_31 : decode cX7_isOrder 31 = .ok (.bipush 103, 2) := by decide +kernel
theorem dX7_isOrder_33 : decode cX7_isOrder 33 = .ok (.if_icmp .ne 7, 3) := by decide +kernel
theorem dX7_isOrder_36 : decode cX7_isOrder 36 = .ok (.iconst 1, 1) := by decide +kernel
theorem dX7_isOrder_37 : decode cX7_isOrder 37 = .ok (.goto 4, 3) := by decide +kernel
theorem dX7_isOrder_40 : decode cX7_isOrder 40 = .ok (.iconst 0, 1) := by decide +kernel
theorem dX7_isOrder_41 : decode cX7_isOrder 41 = .ok (.ireturn, 1) := by decide +kernel
set_option maxRecDepth 20000 in
theorem ggX7_readsOrder_X7_isOrder : GoodIn wsX7_readsOrder wsX7_isOrder := goodIn_r _ [10] (by decide +kernel) (by decide +kernel)
set_option maxRecDepth 20000 in
theorem gX7_readsOrder_X7_isOrder : GoodIn wsX7_readsOrder (va_wsS RX7 194 yX7_isOrder wsX7_isOrder) := goodIn_app (goodIn_of _ (by decide +kernel)) ggX7_readsOrder_X7_isOrder
set_option maxRecDepth 20000 in
theorem ggX7_readsOrder_X7_takesNumber : GoodIn wsX7_readsOrder wsX7_takesNumber := goodIn_r _ [14, 2, 4, 3, 15, 16, 17, 9, 18, 19, 20, 21, 22, 27, 28, 29, 30, 31, 32, 33, 34, 35, 36, 37, 38, 39, 40] (by decide +kernel) (by decide +kernel)
set_option maxRecDepth 20000 in
theorem gX7_readsOrder_X7_takesNumber : GoodIn wsX7_readsOrder (wsV RX7 197 RX7 yX7_takesNumber wsX7_takesNumber) := goodIn_app (goodIn_of _ (by decide +kernel)) ggX7_readsOrder_X7_takesNumber
set_option maxRecDepth 20000 in
theorem ggX7_readsOrder_X7_takes : GoodIn wsX7_readsOrder wsX7_takes := goodIn_r _ [26, 2, 15, 16, 17, 9, 18, 19, 3, 20, 21, 22, 27, 28, 29, 30, 31, 32, 33, 34, 35, 36, 37, 38, 39, 40] (by decide +kernel) (by decide +kernel)
set_option maxRecDepth 20000 in
theorem gX7_readsOrder_X7_takes : GoodIn wsX7_readsOrder (wsV RX7 204 RX7 yX7_takes wsX7_takes) := goodIn_app (goodIn_of _ (by decide +kernel)) ggX7_readsOrder_X7_takes
theorem dX7_readsOrder_0 : decode cX7_readsOrder 0 = .ok (.aload_n 0, 1) := by decide +kernel
theorem dX7_readsOrder_1 : decode cX7_readsOrder 1 = .ok (.aload_n 0, 1) := by decide +kernel
theorem dX7_readsOrder_2 : decode cX7_readsOrder 2 = .ok (.getfield 191, 3) := by decide +kernel
theorem dX7_readsOrder_5 : decode cX7_readsOrder 5 = .ok (.putfield 181, 3) := by decide +kernel
theorem dX7_readsOrder_8 : decode cX7_readsOrder 8 = .ok (.aload_n 0, 1) := by decide +kernel
theorem dX7_readsOrder_9 : decode cX7_readsOrder 9 = .ok (.getfield 19, 3) := by decide +kernel
theorem dX7_readsOrder_12 : decode cX7_readsOrder 12 = .ok (.aload_n 0, 1) := by decide +kernel
theorem dX7_readsOrder_13 : decode cX7_readsOrder 13 = .ok (.getfield 191, 3) := by decide +kernel
theorem dX7_readsOrder_16 : decode cX7_readsOrder 16 = .ok (.iaload, 1) := by decide +kernel
theorem dX7_readsOrder_17 : decode cX7_readsOrder 17 = .ok (.istore_n 1, 1) := by decide +kernel
theorem dX7_readsOrder_18 : decode cX7_readsOrder 18 = .ok (.iload_n 1, 1) := by decide +kernel
theorem dX7_readsOrder_19 : decode cX7_readsOrder 19 = .ok (.invokestatic 194, 3) := by decide +kernel
theorem dX7_readsOrder_22 : decode cX7_readsOrder 22 = .ok (.ifCond .ne 5, 3) := by decide +kernel
theorem dX7_readsOrder_25 : decode cX7_readsOrder 25 = .ok (.iconst 0, 1) := by decide +kernel
theorem dX7_readsOrder_26 : decode cX7_readsOrder 26 = .ok (.ireturn, 1) := by decide +kernel
theorem dX7_readsOrder_27 : decode cX7_readsOrder 27 = .ok (.aload_n 0, 1) := by decide +kernel
theorem dX7_readsOrder_28 : decode cX7_readsOrder 28 = .ok (.dup, 1) := by decide +kernel
theorem dX7_readsOrder_29 : decode cX7_readsOrder 29 = .ok (.getfield 181, 3) := by decide +kernel
theorem dX7_readsOrder_32 : decode cX7_readsOrder 32 = .ok (.iconst 1, 1) := by decide +kernel
theorem dX7_readsOrder_33 : decode cX7_readsOrder 33 = .ok (.iadd, 1) := by decide +kernel
theorem dX7_readsOrder_34 : decode cX7_readsOrder 34 = .ok (.putfield 181, 3) := by decide +kernel
theorem dX7_readsOrder_37 : decode cX7_readsOrder 37 = .ok (.iload_n 1, 1) := by decide +kernel
theorem dX7_readsOrder_38 : decode cX7_readsOrder 38 = .ok (.bipush 99, 2) := by decide +kernel
theorem dX7_readsOrder_40 : decode cX7_readsOrder 40 = .ok (.if_icmp .eq 58, 3) := by decide +kernel
theorem dX7_readsOrder_43 : decode cX7_readsOrder 43 = .ok (.iload_n 1, 1) := by decide +kernel
theorem dX7_readsOrder_44 : decode cX7_readsOrder 44 = .ok (.bipush 103, 2) := by decide +kernel
theorem dX7_readsOrder_46 : decode cX7_readsOrder 46 = .ok (.if_icmp .eq 52, 3) := by decide +kernel
theorem dX7_readsOrder_49 : decode cX7_readsOrder 49 = .ok (.aload_n 0, 1) := by decide +kernel
theorem dX7_readsOrder_50 : decode cX7_readsOrder 50 = .ok (.invokevirtual 197, 3) := by decide +kernel
theorem dX7_readsOrder_53 : decode cX7_readsOrder 53 = .ok (.ifCond .ne 5, 3) := by decide +kernel
theorem dX7_readsOrder_56 : decode cX7_readsOrder 56 = .ok (.iconst 0, 1) := by decide +kernel
theorem dX7_readsOrder_57 : decode cX7_readsOrder 57 = .ok (.ireturn, 1) := by decide +kernel
theorem dX7_readsOrder_58 : decode cX7_readsOrder 58 = .ok (.aload_n 0, 1) := by decide +kernel
theorem dX7_readsOrder_59 : decode cX7_readsOrder 59 = .ok (.aload_n 0, 1) := by decide +kernel
theorem dX7_readsOrder_60 : decode cX7_readsOrder 60 = .ok (.getfield 188, 3) := by decide +kernel
theorem dX7_readsOrder_63 : decode cX7_readsOrder 63 = .ok (.putfield 201, 3) := by decide +kernel
theorem dX7_readsOrder_66 : decode cX7_readsOrder 66 = .ok (.iload_n 1, 1) := by decide +kernel
theorem dX7_readsOrder_67 : decode cX7_readsOrder 67 = .ok (.bipush 119, 2) := by decide +kernel
theorem dX7_readsOrder_69 : decode cX7_readsOrder 69 = .ok (.if_icmp .ne 29, 3) := by decide +kernel
theorem dX7_readsOrder_72 : decode cX7_readsOrder 72 = .ok (.aload_n 0, 1) := by decide +kernel
theorem dX7_readsOrder_73 : decode cX7_readsOrder 73 = .ok (.bipush 61, 2) := by decide +kernel
theorem dX7_readsOrder_75 : decode cX7_readsOrder 75 = .ok (.invokevirtual 204, 3) := by decide +kernel
theorem dX7_readsOrder_78 : decode cX7_readsOrder 78 = .ok (.ifCond .eq 10, 3) := by decide +kernel
theorem dX7_readsOrder_81 : decode cX7_readsOrder 81 = .ok (.aload_n 0, 1) := by decide +kernel
theorem dX7_readsOrder_82 : decode cX7_readsOrder 82 = .ok (.invokevirtual 197, 3) := by decide +kernel
theorem dX7_readsOrder_85 : decode cX7_readsOrder 85 = .ok (.ifCond .ne 5, 3) := by decide +kernel
theorem dX7_readsOrder_88 : decode cX7_readsOrder 88 = .ok (.iconst 0, 1) := by decide +kernel
theorem dX7_readsOrder_89 : decode cX7_readsOrder 89 = .ok (.ireturn, 1) := by decide +kernel
theorem dX7_readsOrder_90 : decode cX7_readsOrder 90 = .ok (.aload_n 0, 1) := by decide +kernel
theorem dX7_readsOrder_91 : decode cX7_readsOrder 91 = .ok (.aload_n 0, 1) := by decide +kernel
theorem dX7_readsOrder_92 : decode cX7_readsOrder 92 = .ok (.getfield 188, 3) := by decide +kernel
theorem dX7_readsOrder_95 : decode cX7_readsOrder 95 = .ok (.putfield 207, 3) := by decide +kernel
theorem dX7_readsOrder_98 : decode cX7_readsOrder 98 = .ok (.aload_n 0, 1) := by decide +kernel
theorem dX7_readsOrder_99 : decode cX7_readsOrder 99 = .ok (.bipush 59, 2) := by decide +kernel
theorem dX7_readsOrder_101 : decode cX7_readsOrder 101 = .ok (.invokevirtual 204, 3) := by decide +kernel
theorem dX7_readsOrder_104 : decode cX7_readsOrder 104 = .ok (.ireturn, 1) := by decide +kernel
set_option maxRecDepth 20000 in
theorem ggX7_isInRange_X7_isPlace : GoodIn wsX7_isInRange wsX7_isPlace := goodIn_r _ [9, 10, 11, 12, 8, 13] (by decide +kernel) (by decide +kernel)
set_option maxRecDepth 20000 in
theorem gX7_isInRange_X7_isPlace : GoodIn wsX7_isInRange (va_wsS RX7 66 yX7_isPlace wsX7_isPlace) := goodIn_app (goodIn_of _ (by decide +kernel)) ggX7_isInRange_X7_isPlace
set_option maxRecDepth 20000 in
theorem ggX7_isInRange_X7_in : GoodIn wsX7_isInRange wsX7_in := goodIn_r _ [13] (by decide +kernel) (by decide +kernel)
set_option maxRecDepth 20000 in
theorem gX7_isInRange_X7_in : GoodIn wsX7_isInRange (va_wsS RX7 29 yX7_in wsX7_in) := goodIn_app (goodIn_of _ (by decide +kernel)) ggX7_isInRange_X7_in
theorem dX7_isInRange_0 : decode cX7_isInRange 0 = .ok (.aload_n 0, 1) := by decide +kernel
theorem dX7_isInRange_1 : decode cX7_isInRange 1 = .ok (.getfield 19, 3) := by decide +kernel
theorem dX7_isInRange_4 : decode cX7_isInRange 4 = .ok (.aload_n 0, 1) := by decide +kernel
theorem dX7_isInRange_5 : decode cX7_isInRange 5 = .ok (.getfield 191, 3) := by decide +kernel
theorem dX7_isInRange_8 : decode cX7_isInRange 8 = .ok (.iaload, 1) := by decide +kernel
theorem dX7_isInRange_9 : decode cX7_isInRange 9 = .ok (.istore_n 1, 1) := by decide +kernel
theorem dX7_isInRange_10 : decode cX7_isInRange 10 = .ok (.iload_n 1, 1) := by decide +kernel
theorem dX7_isInRange_11 : decode cX7_isInRange 11 = .ok (.bipush 114, 2) := by decide +kernel
theorem dX7_isInRange_13 : decode cX7_isInRange 13 = .ok (.if_icmp .eq 9, 3) := by decide +kernel
theorem dX7_isInRange_16 : decode cX7_isInRange 16 = .ok (.iload_n 1, 1) := by decide +kernel
theorem dX7_isInRange_17 : decode cX7_isInRange 17 = .ok (.bipush 119, 2) := by decide +kernel
theorem dX7_isInRange_19 : decode cX7_isInRange 19 = .ok (.if_icmp .ne 13, 3) := by decide +kernel
theorem dX7_isInRange_22 : decode cX7_isInRange 22 = .ok (.aload_n 0, 1) := by decide +kernel
theorem dX7_isInRange_23 : decode cX7_isInRange 23 = .ok (.getfield 201, 3) := by decide +kernel
theorem dX7_isInRange_26 : decode cX7_isInRange 26 = .ok (.invokestatic 66, 3) := by decide +kernel
theorem dX7_isInRange_29 : decode cX7_isInRange 29 = .ok (.goto 50, 3) := by decide +kernel
theorem dX7_isInRange_32 : decode cX7_isInRange 32 = .ok (.iload_n 1, 1) := by decide +kernel
theorem dX7_isInRange_33 : decode cX7_isInRange 33 = .ok (.bipush 116, 2) := by decide +kernel
theorem dX7_isInRange_35 : decode cX7_isInRange 35 = .ok (.if_icmp .ne 18, 3) := by decide +kernel
theorem dX7_isInRange_38 : decode cX7_isInRange 38 = .ok (.aload_n 0, 1) := by decide +kernel
theorem dX7_isInRange_39 : decode cX7_isInRange 39 = .ok (.getfield 201, 3) := by decide +kernel
theorem dX7_isInRange_42 : decode cX7_isInRange 42 = .ok (.i2l, 1) := by decide +kernel
theorem dX7_isInRange_43 : decode cX7_isInRange 43 = .ok (.lconst 1, 1) := by decide +kernel
theorem dX7_isInRange_44 : decode cX7_isInRange 44 = .ok (.ldc2_w 91, 3) := by decide +kernel
theorem dX7_isInRange_47 : decode cX7_isInRange 47 = .ok (.invokestatic 29, 3) := by decide +kernel
theorem dX7_isInRange_50 : decode cX7_isInRange 50 = .ok (.goto 29, 3) := by decide +kernel
theorem dX7_isInRange_53 : decode cX7_isInRange 53 = .ok (.iload_n 1, 1) := by decide +kernel
theorem dX7_isInRange_54 : decode cX7_isInRange 54 = .ok (.bipush 108, 2) := by decide +kernel
theorem dX7_isInRange_56 : decode cX7_isInRange 56 = .ok (.if_icmp .ne 18, 3) := by decide +kernel
theorem dX7_isInRange_59 : decode cX7_isInRange 59 = .ok (.aload_n 0, 1) := by decide +kernel
theorem dX7_isInRange_60 : decode cX7_isInRange 60 = .ok (.getfield 201, 3) := by decide +kernel
theorem dX7_isInRange_63 : decode cX7_isInRange 63 = .ok (.i2l, 1) := by decide +kernel
theorem dX7_isInRange_64 : decode cX7_isInRange 64 = .ok (.lconst 1, 1) := by decide +kernel
theorem dX7_isInRange_65 : decode cX7_isInRange 65 = .ok (.ldc2_w 74, 3) := by decide +kernel
theorem dX7_isInRange_68 : decode cX7_isInRange 68 = .ok (.invokestatic 29, 3) := by decide +kernel
theorem dX7_isInRange_71 : decode cX7_isInRange 71 = .ok (.ifCond .eq 7, 3) := by decide +kernel
theorem dX7_isInRange_74 : decode cX7_isInRange 74 = .ok (.iconst 1, 1) := by decide +kernel
theorem dX7_isInRange_75 : decode cX7_isInRange 75 = .ok (.goto 4, 3) := by decide +kernel
theorem dX7_isInRange_78 : decode cX7_isInRange 78 = .ok (.iconst 0, 1) := by decide +kernel
theorem dX7_isInRange_79 : decode cX7_isInRange 79 = .ok (.ireturn, 1) := by decide +kernel
set_option maxRecDepth 20000 in
theorem ggX7_doOrder_X7_doRead : GoodIn wsX7_doOrder wsX7_doRead := goodIn_r _ [9, 10, 11, 12, 13, 8, 14, 15, 16, 17, 18, 19, 20, 21, 22, 23, 24, 25, 26, 27, 28, 29, 30, 31, 32, 33, 34, 35, 36, 37, 38, 39, 40, 41, 42, 43, 44, 45, 46, 106, 107, 108, 109, 110, 111, 112, 113, 114, 115, 116, 117, 118, 119] (by decide +kernel) (by decide +kernel)
set_option maxRecDepth 20000 in
theorem gX7_doOrder_X7_doRead : GoodIn wsX7_doOrder (wsV RX7 107 RX7 yX7_doRead wsX7_doRead) := goodIn_app (goodIn_of _ (by decide +kernel)) ggX7_doOrder_X7_doRead
set_option maxRecDepth 20000 in
theorem ggX7_doOrder_X7_doWrite : GoodIn wsX7_doOrder wsX7_doWrite := goodIn_r _ [50, 51, 11, 10, 12, 13, 8, 14, 15, 16, 17, 18, 19, 20, 21, 22, 23, 24, 25, 26, 27, 28, 29, 30, 31, 32, 33, 34, 35, 36, 37, 38, 39, 40, 41, 42, 43, 44, 45, 46, 52, 53, 54, 55, 56, 57, 58, 59, 60, 61, 62, 63, 106, 107, 108, 109, 110, 111, 112, 113, 114, 115, 116, 117, 118, 119] (by decide +kernel) (by decide +kernel)
set_option maxRecDepth 20000 in
theorem gX7_doOrder_X7_doWrite : GoodIn wsX7_doOrder (wsV RX7 113 RX7 yX7_doWrite wsX7_doWrite) := goodIn_app (goodIn_of _ (by decide +kernel)) ggX7_doOrder_X7_doWrite
set_option maxRecDepth 20000 in
theorem ggX7_doOrder_X7_doTick : GoodIn wsX7_doOrder wsX7_doTick := goodIn_r _ [67, 68, 11, 16, 17, 8, 18, 69, 70, 71, 72, 10, 27, 28, 29, 30, 73, 74, 75, 76, 60, 61, 62, 63, 77, 78, 79, 80, 81, 82, 83, 84, 85, 86, 87, 88, 89, 90, 91, 92, 52, 53, 54, 55, 56, 57, 58, 59, 31, 32, 33, 34, 35, 36, 37, 38, 39, 40, 41, 42, 106, 107, 108, 109, 110, 111, 112, 113, 114, 115, 116, 117, 118, 119] (by decide +kernel) (by decide +kernel)
set_option maxRecDepth 20000 in
theorem gX7_doOrder_X7_doTick : GoodIn wsX7_doOrder (wsV RX7 120 RX7 yX7_doTick wsX7_doTick) := goodIn_app (goodIn_of _ (by decide +kernel)) ggX7_doOrder_X7_doTick
set_option maxRecDepth 20000 in
theorem ggX7_doOrder_X7_doLoad : GoodIn wsX7_doOrder wsX7_doLoad := goodIn_r _ [96, 51, 11, 16, 17, 8, 18, 77, 78, 79, 80, 10, 89, 90, 91, 92, 52, 53, 54, 55, 56, 57, 58, 59, 60, 61, 62, 63, 31, 32, 33, 34, 35, 36, 37, 38, 39, 40, 41, 42, 27, 28, 29, 30, 106, 107, 108, 109, 110, 111, 112, 113, 114, 115, 116, 117, 118, 119] (by decide +kernel) (by decide +kernel)
set_option maxRecDepth 20000 in
theorem gX7_doOrder_X7_doLoad : GoodIn wsX7_doOrder (wsV RX7 123 RX7 yX7_doLoad wsX7_doLoad) := goodIn_app (goodIn_of _ (by decide +kernel)) ggX7_doOrder_X7_doLoad
set_option maxRecDepth 20000 in
theorem ggX7_doOrder_X7_doCut : GoodIn wsX7_doOrder wsX7_doCut := goodIn_r _ [100, 10, 60, 61, 62, 8, 63, 52, 53, 54, 55, 31, 32, 33, 34, 35, 36, 37, 38, 39, 40, 41, 42, 27, 28, 29, 30, 106, 107, 108, 109, 110, 111, 112, 113, 114, 115, 116, 117, 118, 119] (by decide +kernel) (by decide +kernel)
set_option maxRecDepth 20000 in
theorem gX7_doOrder_X7_doCut : GoodIn wsX7_doOrder (wsV RX7 129 RX7 yX7_doCut wsX7_doCut) := goodIn_app (goodIn_of _ (by decide +kernel)) ggX7_doOrder_X7_doCut
set_option maxRecDepth 20000 in
theorem ggX7_doOrder_X7_doLearn : GoodIn wsX7_doOrder wsX7_doLearn := goodIn_r _ [104, 10, 105, 89, 90, 91, 8, 92, 52, 53, 54, 55, 56, 57, 58, 59, 60, 61, 62, 63, 31, 32, 33, 34, 35, 36, 37, 38, 39, 40, 41, 42, 27, 28, 29, 30, 106, 107, 108, 109, 110, 111, 112, 113, 114, 115, 116, 117, 118, 119] (by decide +kernel) (by decide +kernel)
set_option maxRecDepth 20000 in
theorem gX7_doOrder_X7_doLearn : GoodIn wsX7_doOrder (wsV RX7 126 RX7 yX7_doLearn wsX7_doLearn) := goodIn_app (goodIn_of _ (by decide +kernel)) ggX7_doOrder_X7_doLearn
theorem dX7_doOrder_0 : decode cX7_doOrder 0 = .ok (.aload_n 0, 1) := by decide +kernel
theorem dX7_doOrder_1 : decode cX7_doOrder 1 = .ok (.getfield 19, 3) := by decide +kernel
theorem dX7_doOrder_4 : decode cX7_doOrder 4 = .ok (.aload_n 0, 1) := by decide +kernel
theorem dX7_doOrder_5 : decode cX7_doOrder 5 = .ok (.getfield 191, 3) := by decide +kernel
theorem dX7_doOrder_8 : decode cX7_doOrder 8 = .ok (.iaload, 1) := by decide +kernel
theorem dX7_doOrder_9 : decode cX7_doOrder 9 = .ok (.lookupswitch 96 #[(99, 91), (108, 82), (114, 51), (116, 73), (119, 60)], 51) := by decide +kernel
theorem dX7_doOrder_60 : decode cX7_doOrder 60 = .ok (.aload_n 0, 1) := by decide +kernel
theorem dX7_doOrder_61 : decode cX7_doOrder 61 = .ok (.aload_n 0, 1) := by decide +kernel
theorem dX7_doOrder_62 : decode cX7_doOrder 62 = .ok (.getfield 201, 3) := by decide +kernel
theorem dX7_doOrder_65 : decode cX7_doOrder 65 = .ok (.invokevirtual 107, 3) := by decide +kernel
theorem dX7_doOrder_68 : decode cX7_doOrder 68 = .ok (.ireturn, 1) := by decide +kernel
theorem dX7_doOrder_69 : decode cX7_doOrder 69 = .ok (.aload_n 0, 1) := by decide +kernel
theorem dX7_doOrder_70 : decode cX7_doOrder 70 = .ok (.aload_n 0, 1) := by decide +kernel
theorem dX7_doOrder_71 : decode cX7_doOrder 71 = .ok (.getfield 201, 3) := by decide +kernel
theorem dX7_doOrder_74 : decode cX7_doOrder 74 = .ok (.aload_n 0, 1) := by decide +kernel
theorem dX7_doOrder_75 : decode cX7_doOrder 75 = .ok (.getfield 207, 3) := by decide +kernel
theorem dX7_doOrder_78 : decode cX7_doOrder 78 = .ok (.invokevirtual 113, 3) := by decide +kernel
theorem dX7_doOrder_81 : decode cX7_doOrder 81 = .ok (.ireturn, 1) := by decide +kernel
theorem dX7_doOrder_82 : decode cX7_doOrder 82 = .ok (.aload_n 0, 1) := by decide +kernel
theorem dX7_doOrder_83 : decode cX7_doOrder 83 = .ok (.aload_n 0, 1) := by decide +kernel
theorem dX7_doOrder_84 : decode cX7_doOrder 84 = .ok (.getfield 201, 3) := by decide +kernel
theorem dX7_doOrder_87 : decode cX7_doOrder 87 = .ok (.invokevirtual 120, 3) := by decide +kernel
theorem dX7_doOrder_90 : decode cX7_doOrder 90 = .ok (.ireturn, 1) := by decide +kernel
theorem dX7_doOrder_91 : decode cX7_doOrder 91 = .ok (.aload_n 0, 1) := by decide +kernel
theorem dX7_doOrder_92 : decode cX7_doOrder 92 = .ok (.aload_n 0, 1) := by decide +kernel
theorem dX7_doOrder_93 : decode cX7_doOrder 93 = .ok (.getfield 201, 3) := by decide +kernel
theorem dX7_doOrder_96 : decode cX7_doOrder 96 = .ok (.invokevirtual 123, 3) := by decide +kernel
theorem dX7_doOrder_99 : decode cX7_doOrder 99 = .ok (.ireturn, 1) := by decide +kernel
theorem dX7_doOrder_100 : decode cX7_doOrder 100 = .ok (.aload_n 0, 1) := by decide +kernel
theorem dX7_doOrder_101 : decode cX7_doOrder 101 = .ok (.invokevirtual 129, 3) := by decide +kernel
theorem dX7_doOrder_104 : decode cX7_doOrder 104 = .ok (.ireturn, 1) := by decide +kernel
theorem dX7_doOrder_105 : decode cX7_doOrder 105 = .ok (.aload_n 0, 1) := by decide +kernel
theorem dX7_doOrder_106 : decode cX7_doOrder 106 = .ok (.invokevirtual 126, 3) := by decide +kernel
theorem dX7_doOrder_109 : decode cX7_doOrder 109 = .ok (.ireturn, 1) := by decide +kernel
theorem dX7_notes_0 : decode cX7_notes 0 = .ok (.aload_n 0, 1) := by decide +kernel
theorem dX7_notes_1 : decode cX7_notes 1 = .ok (.iload_n 1, 1) := by decide +kernel
theorem dX7_notes_2 : decode cX7_notes 2 = .ok (.putfield 210, 3) := by decide +kernel
theorem dX7_notes_5 : decode cX7_notes 5 = .ok (.aload_n 0, 1) := by decide +kernel
theorem dX7_notes_6 : decode cX7_notes 6 = .ok (.iload_n 2, 1) := by decide +kernel
theorem dX7_notes_7 : decode cX7_notes 7 = .ok (.putfield 213, 3) := by decide +kernel
theorem dX7_notes_10 : decode cX7_notes 10 = .ok (.iconst 0, 1) := by decide +kernel
theorem dX7_notes_11 : decode cX7_notes 11 = .ok (.ireturn, 1) := by decide +kernel
set_option maxRecDepth 20000 in
theorem ggX7_doesAll_X7_readsOrder : GoodIn wsX7_doesAll wsX7_readsOrder := goodIn_r _ [12, 1, 4, 13, 14, 5, 15, 16, 17, 11, 18, 19, 20, 21, 22, 23, 24, 25, 26, 3, 27, 28, 29, 30, 31, 32, 33, 145, 146, 147, 148, 149, 150, 151, 152, 153, 154, 155, 156, 157, 158] (by decide +kernel) (by decide +kernel)
set_option maxRecDepth 20000 in
theorem gX7_doesAll_X7_readsOrder : GoodIn wsX7_doesAll (wsV RX7 219 RX7 yX7_readsOrder wsX7_readsOrder) := goodIn_app (goodIn_of _ (by decide +kernel)) ggX7_doesAll_X7_readsOrder
set_option maxRecDepth 20000 in
theorem ggX7_doesAll_X7_notes : GoodIn wsX7_doesAll wsX7_notes := goodIn_r _ [37, 38, 39, 145, 146, 147, 148, 149, 150, 151, 152, 153, 154, 155, 156, 157, 158] (by decide +kernel) (by decide +kernel)
set_option maxRecDepth 20000 in
theorem gX7_doesAll_X7_notes : GoodIn wsX7_doesAll (wsV RX7 222 RX7 yX7_notes wsX7_notes) := goodIn_app (goodIn_of _ (by decide +kernel)) ggX7_doesAll_X7_notes
set_option maxRecDepth 20000 in
theorem ggX7_doesAll_X7_isInRange : GoodIn wsX7_doesAll wsX7_isInRange := goodIn_r _ [43, 13, 1, 5, 44, 45, 46, 47, 11, 48, 49, 27, 28, 29, 145, 146, 147, 148, 149, 150, 151, 152, 153, 154, 155, 156, 157, 158] (by decide +kernel) (by decide +kernel)
set_option maxRecDepth 20000 in
theorem gX7_doesAll_X7_isInRange : GoodIn wsX7_doesAll (wsV RX7 225 RX7 yX7_isInRange wsX7_isInRange) := goodIn_app (goodIn_of _ (by decide +kernel)) ggX7_doesAll_X7_isInRange
set_option maxRecDepth 20000 in
theorem ggX7_doesAll_X7_doOrder : GoodIn wsX7_doesAll wsX7_doOrder := goodIn_r _ [53, 13, 1, 5, 15, 54, 55, 56, 11, 57, 58, 59, 46, 47, 48, 49, 27, 28, 29, 60, 61, 62, 63, 64, 65, 66, 67, 68, 69, 70, 71, 72, 73, 74, 75, 76, 77, 78, 79, 80, 81, 82, 83, 84, 85, 86, 87, 88, 89, 90, 91, 45, 92, 93, 94, 95, 96, 97, 98, 99, 100, 101, 102, 103, 104, 105, 106, 107, 44, 108, 109, 110, 111, 112, 113, 114, 115, 116, 117, 118, 119, 120, 121, 122, 123, 124, 125, 126, 127, 128, 129, 130, 131, 132, 133, 134, 135, 136, 137, 138, 139, 140, 141, 142, 143, 144, 145, 146, 147, 148, 149, 150, 151, 152, 153, 154, 155, 156, 157, 158] (by decide +kernel) (by decide +kernel)
set_option maxRecDepth 20000 in
theorem gX7_doesAll_X7_doOrder : GoodIn wsX7_doesAll (wsV RX7 228 RX7 yX7_doOrder wsX7_doOrder) := goodIn_app (goodIn_of _ (by decide +kernel)) ggX7_doesAll_X7_doOrder
theorem dX7_doesAll_0 : decode cX7_doesAll 0 = .ok (.aload_n 0, 1) := by decide +kernel
theorem dX7_doesAll_1 : decode cX7_doesAll 1 = .ok (.iconst 0, 1) := by decide +kernel
theorem dX7_doesAll_2 : decode cX7_doesAll 2 = .ok (.putfield 191, 3) := by decide +kernel
theorem dX7_doesAll_5 : decode cX7_doesAll 5 = .ok (.aload_n 0, 1) := by decide +kernel
theorem dX7_doesAll_6 : decode cX7_doesAll 6 = .ok (.iconst 0, 1) := by decide +kernel
theorem dX7_doesAll_7 : decode cX7_doesAll 7 = .ok (.putfield 216, 3) := by decide +kernel
theorem dX7_doesAll_10 : decode cX7_doesAll 10 = .ok (.aload_n 0, 1) := by decide +kernel
theorem dX7_doesAll_11 : decode cX7_doesAll 11 = .ok (.getfield 191, 3) := by decide +kernel
theorem dX7_doesAll_14 : decode cX7_doesAll 14 = .ok (.aload_n 0, 1) := by decide +kernel
theorem dX7_doesAll_15 : decode cX7_doesAll 15 = .ok (.getfield 169, 3) := by decide +kernel
theorem dX7_doesAll_18 : decode cX7_doesAll 18 = .ok (.if_icmp .ge 82, 3) := by decide +kernel
theorem dX7_doesAll_21 : decode cX7_doesAll 21 = .ok (.aload_n 0, 1) := by decide +kernel
theorem dX7_doesAll_22 : decode cX7_doesAll 22 = .ok (.invokevirtual 219, 3) := by decide +kernel
theorem dX7_doesAll_25 : decode cX7_doesAll 25 = .ok (.ifCond .ne 18, 3) := by decide +kernel
theorem dX7_doesAll_28 : decode cX7_doesAll 28 = .ok (.aload_n 0, 1) := by decide +kernel
theorem dX7_doesAll_29 : decode cX7_doesAll 29 = .ok (.iconst 1, 1) := by decide +kernel
theorem dX7_doesAll_30 : decode cX7_doesAll 30 = .ok (.aload_n 0, 1) := by decide +kernel
theorem dX7_doesAll_31 : decode cX7_doesAll 31 = .ok (.getfield 181, 3) := by decide +kernel
theorem dX7_doesAll_34 : decode cX7_doesAll 34 = .ok (.aload_n 0, 1) := by decide +kernel
theorem dX7_doesAll_35 : decode cX7_doesAll 35 = .ok (.getfield 191, 3) := by decide +kernel
theorem dX7_doesAll_38 : decode cX7_doesAll 38 = .ok (.isub, 1) := by decide +kernel
theorem dX7_doesAll_39 : decode cX7_doesAll 39 = .ok (.invokevirtual 222, 3) := by decide +kernel
theorem dX7_doesAll_42 : decode cX7_doesAll 42 = .ok (.ireturn, 1) := by decide +kernel
theorem dX7_doesAll_43 : decode cX7_doesAll 43 = .ok (.aload_n 0, 1) := by decide +kernel
theorem dX7_doesAll_44 : decode cX7_doesAll 44 = .ok (.invokevirtual 225, 3) := by decide +kernel
theorem dX7_doesAll_47 : decode cX7_doesAll 47 = .ok (.ifCond .ne 13, 3) := by decide +kernel
theorem dX7_doesAll_50 : decode cX7_doesAll 50 = .ok (.aload_n 0, 1) := by decide +kernel
theorem dX7_doesAll_51 : decode cX7_doesAll 51 = .ok (.iconst 2, 1) := by decide +kernel
theorem dX7_doesAll_52 : decode cX7_doesAll 52 = .ok (.aload_n 0, 1) := by decide +kernel
theorem dX7_doesAll_53 : decode cX7_doesAll 53 = .ok (.getfield 201, 3) := by decide +kernel
theorem dX7_doesAll_56 : decode cX7_doesAll 56 = .ok (.invokevirtual 222, 3) := by decide +kernel
theorem dX7_doesAll_59 : decode cX7_doesAll 59 = .ok (.ireturn, 1) := by decide +kernel
theorem dX7_doesAll_60 : decode cX7_doesAll 60 = .ok (.aload_n 0, 1) := by decide +kernel
theorem dX7_doesAll_61 : decode cX7_doesAll 61 = .ok (.getfield 181, 3) := by decide +kernel
theorem dX7_doesAll_64 : decode cX7_doesAll 64 = .ok (.istore_n 1, 1) := by decide +kernel
theorem dX7_doesAll_65 : decode cX7_doesAll 65 = .ok (.aload_n 0, 1) := by decide +kernel
theorem dX7_doesAll_66 : decode cX7_doesAll 66 = .ok (.invokevirtual 228, 3) := by decide +kernel
theorem dX7_doesAll_69 : decode cX7_doesAll 69 = .ok (.ldc 22, 2) := by decide +kernel
theorem dX7_doesAll_71 : decode cX7_doesAll 71 = .ok (.if_icmp .ge 11, 3) := by decide +kernel
theorem dX7_doesAll_74 : decode cX7_doesAll 74 = .ok (.aload_n 0, 1) := by decide +kernel
theorem dX7_doesAll_75 : decode cX7_doesAll 75 = .ok (.iconst 3, 1) := by decide +kernel
theorem dX7_doesAll_76 : decode cX7_doesAll 76 = .ok (.ldc 137, 2) := by decide +kernel
theorem dX7_doesAll_78 : decode cX7_doesAll 78 = .ok (.invokevirtual 222, 3) := by decide +kernel
theorem dX7_doesAll_81 : decode cX7_doesAll 81 = .ok (.ireturn, 1) := by decide +kernel
theorem dX7_doesAll_82 : decode cX7_doesAll 82 = .ok (.aload_n 0, 1) := by decide +kernel
theorem dX7_doesAll_83 : decode cX7_doesAll 83 = .ok (.dup, 1) := by decide +kernel
theorem dX7_doesAll_84 : decode cX7_doesAll 84 = .ok (.getfield 216, 3) := by decide +kernel
theorem dX7_doesAll_87 : decode cX7_doesAll 87 = .ok (.iconst 1, 1) := by decide +kernel
theorem dX7_doesAll_88 : decode cX7_doesAll 88 = .ok (.iadd, 1) := by decide +kernel
theorem dX7_doesAll_89 : decode cX7_doesAll 89 = .ok (.putfield 216, 3) := by decide +kernel
theorem dX7_doesAll_92 : decode cX7_doesAll 92 = .ok (.aload_n 0, 1) := by decide +kernel
theorem dX7_doesAll_93 : decode cX7_doesAll 93 = .ok (.iload_n 1, 1) := by decide +kernel
theorem dX7_doesAll_94 : decode cX7_doesAll 94 = .ok (.putfield 191, 3) := by decide +kernel
theorem dX7_doesAll_97 : decode cX7_doesAll 97 = .ok (.goto (-87), 3) := by decide +kernel
theorem dX7_doesAll_100 : decode cX7_doesAll 100 = .ok (.iconst 1, 1) := by decide +kernel
theorem dX7_doesAll_101 : decode cX7_doesAll 101 = .ok (.ireturn, 1) := by decide +kernel
set_option maxRecDepth 20000 in
theorem ggX7_fault_X7_in : GoodIn wsX7_fault wsX7_in := goodIn_r _ [10] (by decide +kernel) (by decide +kernel)
set_option maxRecDepth 20000 in
theorem gX7_fault_X7_in : GoodIn wsX7_fault (va_wsS RX7 29 yX7_in wsX7_in) := goodIn_app (goodIn_of _ (by decide +kernel)) ggX7_fault_X7_in
set_option maxRecDepth 20000 in
theorem ggX7_fault_X7_keep : GoodIn wsX7_fault wsX7_keep := goodIn_r _ [14, 15, 16, 159, 160, 161, 162, 163, 164, 165, 166, 167, 168, 169, 170, 171, 172] (by decide +kernel) (by decide +kernel)
set_option maxRecDepth 20000 in
theorem gX7_fault_X7_keep : GoodIn wsX7_fault (wsV RX7 104 RX7 yX7_keep wsX7_keep) := goodIn_app (goodIn_of _ (by decide +kernel)) ggX7_fault_X7_keep
set_option maxRecDepth 20000 in
theorem ggX7_fault_X7_doesAll : GoodIn wsX7_fault wsX7_doesAll := goodIn_r _ [20, 4, 21, 22, 23, 24, 25, 3, 26, 27, 28, 9, 29, 30, 31, 32, 33, 34, 35, 36, 37, 38, 39, 40, 41, 42, 43, 7, 8, 10, 44, 45, 46, 47, 48, 49, 50, 51, 5, 6, 52, 53, 54, 55, 56, 57, 58, 59, 60, 61, 62, 63, 64, 65, 66, 67, 68, 69, 16, 2, 70, 71, 72, 73, 74, 75, 76, 77, 78, 79, 80, 81, 82, 83, 84, 85, 86, 87, 88, 89, 90, 91, 92, 93, 94, 95, 96, 97, 98, 99, 100, 101, 102, 103, 104, 105, 106, 107, 108, 109, 110, 111, 112, 113, 114, 115, 116, 117, 118, 119, 120, 121, 122, 123, 124, 125, 126, 127, 128, 129, 130, 131, 132, 133, 134, 135, 136, 137, 138, 139, 140, 141, 142, 143, 144, 145, 146, 147, 148, 149, 150, 151, 152, 153, 154, 159, 160, 161, 162, 163, 164, 165, 166, 167, 168, 169, 170, 171, 172] (by decide +kernel) (by decide +kernel)
set_option maxRecDepth 20000 in
theorem gX7_fault_X7_doesAll : GoodIn wsX7_fault (wsV RX7 233 RX7 yX7_doesAll wsX7_doesAll) := goodIn_app (goodIn_of _ (by decide +kernel)) ggX7_fault_X7_doesAll
set_option maxRecDepth 20000 in
theorem ggX7_fault_X7_giveBack : GoodIn wsX7_fault wsX7_giveBack := goodIn_r _ [158, 16, 15, 159, 160, 161, 162, 163, 164, 165, 166, 167, 168, 169, 170, 171, 172] (by decide +kernel) (by decide +kernel)
set_option maxRecDepth 20000 in
theorem gX7_fault_X7_giveBack : GoodIn wsX7_fault (wsV RX7 155 RX7 yX7_giveBack wsX7_giveBack) := goodIn_app (goodIn_of _ (by decide +kernel)) ggX7_fault_X7_giveBack
theorem dX7_fault_0 : decode cX7_fault 0 = .ok (.iload_n 1, 1) := by decide +kernel
theorem dX7_fault_1 : decode cX7_fault 1 = .ok (.i2l, 1) := by decide +kernel
theorem dX7_fault_2 : decode cX7_fault 2 = .ok (.lconst 0, 1) := by decide +kernel
theorem dX7_fault_3 : decode cX7_fault 3 = .ok (.ldc2_w 231, 3) := by decide +kernel
theorem dX7_fault_6 : decode cX7_fault 6 = .ok (.invokestatic 29, 3) := by decide +kernel
theorem dX7_fault_9 : decode cX7_fault 9 = .ok (.ifCond .ne 6, 3) := by decide +kernel
theorem dX7_fault_12 : decode cX7_fault 12 = .ok (.ldc 73, 2) := by decide +kernel
theorem dX7_fault_14 : decode cX7_fault 14 = .ok (.ireturn, 1) := by decide +kernel
theorem dX7_fault_15 : decode cX7_fault 15 = .ok (.aload_n 0, 1) := by decide +kernel
theorem dX7_fault_16 : decode cX7_fault 16 = .ok (.invokevirtual 104, 3) := by decide +kernel
theorem dX7_fault_19 : decode cX7_fault 19 = .ok (.aload_n 0, 1) := by decide +kernel
theorem dX7_fault_20 : decode cX7_fault 20 = .ok (.invokevirtual 233, 3) := by decide +kernel
theorem dX7_fault_23 : decode cX7_fault 23 = .ok (.istore_n 2, 1) := by decide +kernel
theorem dX7_fault_24 : decode cX7_fault 24 = .ok (.aload_n 0, 1) := by decide +kernel
theorem dX7_fault_25 : decode cX7_fault 25 = .ok (.invokevirtual 155, 3) := by decide +kernel
theorem dX7_fault_28 : decode cX7_fault 28 = .ok (.iload_n 2, 1) := by decide +kernel
theorem dX7_fault_29 : decode cX7_fault 29 = .ok (.ifCond .eq 8, 3) := by decide +kernel
theorem dX7_fault_32 : decode cX7_fault 32 = .ok (.ldc 137, 2) := by decide +kernel
theorem dX7_fault_34 : decode cX7_fault 34 = .ok (.goto 30, 3) := by decide +kernel
theorem dX7_fault_37 : decode cX7_fault 37 = .ok (.iload_n 1, 1) := by decide +kernel
theorem dX7_fault_38 : decode cX7_fault 38 = .ok (.ifCond .ne 10, 3) := by decide +kernel
theorem dX7_fault_41 : decode cX7_fault 41 = .ok (.aload_n 0, 1) := by decide +kernel
theorem dX7_fault_42 : decode cX7_fault 42 = .ok (.getfield 191, 3) := by decide +kernel
theorem dX7_fault_45 : decode cX7_fault 45 = .ok (.goto 19, 3) := by decide +kernel
theorem dX7_fault_48 : decode cX7_fault 48 = .ok (.iload_n 1, 1) := by decide +kernel
theorem dX7_fault_49 : decode cX7_fault 49 = .ok (.iconst 1, 1) := by decide +kernel
theorem dX7_fault_50 : decode cX7_fault 50 = .ok (.if_icmp .ne 10, 3) := by decide +kernel
theorem dX7_fault_53 : decode cX7_fault 53 = .ok (.aload_n 0, 1) := by decide +kernel
theorem dX7_fault_54 : decode cX7_fault 54 = .ok (.getfield 210, 3) := by decide +kernel
theorem dX7_fault_57 : decode cX7_fault 57 = .ok (.goto 7, 3) := by decide +kernel
theorem dX7_fault_60 : decode cX7_fault 60 = .ok (.aload_n 0, 1) := by decide +kernel
theorem dX7_fault_61 : decode cX7_fault 61 = .ok (.getfield 213, 3) := by decide +kernel
theorem dX7_fault_64 : decode cX7_fault 64 = .ok (.ireturn, 1) := by decide +kernel
set_option maxRecDepth 20000 in
theorem ggX7_play_X7_keep : GoodIn wsX7_play wsX7_keep := goodIn_r _ [7, 8, 9, 164, 165, 166, 167, 168, 169, 170, 171, 172, 173, 174, 175, 176, 177] (by decide +kernel) (by decide +kernel)
set_option maxRecDepth 20000 in
theorem gX7_play_X7_keep : GoodIn wsX7_play (wsV RX7 104 RX7 yX7_keep wsX7_keep) := goodIn_app (goodIn_of _ (by decide +kernel)) ggX7_play_X7_keep
set_option maxRecDepth 20000 in
theorem ggX7_play_X7_doesAll : GoodIn wsX7_play wsX7_doesAll := goodIn_r _ [13, 14, 2, 15, 16, 17, 18, 19, 20, 21, 22, 6, 23, 24, 25, 26, 27, 28, 29, 30, 31, 32, 33, 34, 35, 36, 37, 38, 39, 40, 41, 42, 43, 44, 45, 46, 47, 48, 49, 50, 51, 52, 53, 54, 55, 56, 57, 58, 59, 60, 61, 62, 63, 64, 65, 66, 67, 68, 9, 69, 70, 71, 72, 73, 74, 75, 76, 77, 78, 79, 80, 81, 82, 83, 84, 85, 86, 87, 88, 89, 90, 91, 92, 93, 94, 95, 96, 97, 98, 99, 100, 101, 102, 103, 104, 105, 106, 107, 108, 109, 110, 111, 112, 113, 114, 115, 116, 117, 118, 119, 120, 121, 122, 123, 124, 125, 126, 127, 128, 129, 130, 131, 132, 133, 134, 135, 136, 137, 138, 139, 140, 141, 142, 143, 144, 145, 146, 147, 148, 149, 150, 151, 152, 153, 1, 164, 165, 166, 167, 168, 169, 170, 171, 172, 173, 174, 175, 176, 177] (by decide +kernel) (by decide +kernel)
set_option maxRecDepth 20000 in
theorem gX7_play_X7_doesAll : GoodIn wsX7_play (wsV RX7 233 RX7 yX7_doesAll wsX7_doesAll) := goodIn_app (goodIn_of _ (by decide +kernel)) ggX7_play_X7_doesAll
set_option maxRecDepth 20000 in
theorem ggX7_play_X7_giveBack : GoodIn wsX7_play wsX7_giveBack := goodIn_r _ [157, 9, 8, 164, 165, 166, 167, 168, 169, 170, 171, 172, 173, 174, 175, 176, 177] (by decide +kernel) (by decide +kernel)
set_option maxRecDepth 20000 in
theorem gX7_play_X7_giveBack : GoodIn wsX7_play (wsV RX7 155 RX7 yX7_giveBack wsX7_giveBack) := goodIn_app (goodIn_of _ (by decide +kernel)) ggX7_play_X7_giveBack
set_option maxRecDepth 20000 in
theorem ggX7_play_X7_changed : GoodIn wsX7_play wsX7_changed := goodIn_r _ [161, 18, 162, 163, 8, 164, 165, 166, 167, 168, 169, 170, 171, 172, 173, 174, 175, 176, 177] (by decide +kernel) (by decide +kernel)
set_option maxRecDepth 20000 in
theorem gX7_play_X7_changed : GoodIn wsX7_play (wsV RX7 110 RX7 yX7_changed wsX7_changed) := goodIn_app (goodIn_of _ (by decide +kernel)) ggX7_play_X7_changed
theorem dX7_play_0 : decode cX7_play 0 = .ok (.aload_n 0, 1) := by decide +kernel
theorem dX7_play_1 : decode cX7_play 1 = .ok (.invokevirtual 104, 3) := by decide +kernel
theorem dX7_play_4 : decode cX7_play 4 = .ok (.aload_n 0, 1) := by decide +kernel
theorem dX7_play_5 : decode cX7_play 5 = .ok (.invokevirtual 233, 3) := by decide +kernel
theorem dX7_play_8 : decode cX7_play 8 = .ok (.ifCond .ne 10, 3) := by decide +kernel
theorem dX7_play_11 : decode cX7_play 11 = .ok (.aload_n 0, 1) := by decide +kernel
theorem dX7_play_12 : decode cX7_play 12 = .ok (.invokevirtual 155, 3) := by decide +kernel
theorem dX7_play_15 : decode cX7_play 15 = .ok (.ldc 96, 2) := by decide +kernel
theorem dX7_play_17 : decode cX7_play 17 = .ok (.ireturn, 1) := by decide +kernel
theorem dX7_play_18 : decode cX7_play 18 = .ok (.aload_n 0, 1) := by decide +kernel
theorem dX7_play_19 : decode cX7_play 19 = .ok (.aload_n 0, 1) := by decide +kernel
theorem dX7_play_20 : decode cX7_play 20 = .ok (.getfield 216, 3) := by decide +kernel
theorem dX7_play_23 : decode cX7_play 23 = .ok (.invokevirtual 110, 3) := by decide +kernel
theorem dX7_play_26 : decode cX7_play 26 = .ok (.ireturn, 1) := by decide +kernel
theorem dJ6_bitCount_0f7a4_0 : decode cJ6_bitCount_0f7a4 0 = .ok (.iload_n 0, 1) := by decide +kernel
theorem dJ6_bitCount_0f7a4_1 : decode cJ6_bitCount_0f7a4 1 = .ok (.iload_n 0, 1) := by decide +kernel
theorem dJ6_bitCount_0f7a4_2 : decode cJ6_bitCount_0f7a4 2 = .ok (.iconst 1, 1) := by decide +kernel
theorem dJ6_bitCount_0f7a4_3 : decode cJ6_bitCount_0f7a4 3 = .ok (.iushr, 1) := by decide +kernel
theorem dJ6_bitCount_0f7a4_4 : decode cJ6_bitCount_0f7a4 4 = .ok (.ldc_w 265, 3) := by decide +kernel
theorem dJ6_bitCount_0f7a4_7 : decode cJ6_bitCount_0f7a4 7 = .ok (.iand, 1) := by decide +kernel
theorem dJ6_bitCount_0f7a4_8 : decode cJ6_bitCount_0f7a4 8 = .ok (.isub, 1) := by decide +kernel
theorem dJ6_bitCount_0f7a4_9 : decode cJ6_bitCount_0f7a4 9 = .ok (.istore_n 0, 1) := by decide +kernel
theorem dJ6_bitCount_0f7a4_10 : decode cJ6_bitCount_0f7a4 10 = .ok (.iload_n 0, 1) := by decide +kernel
theorem dJ6_bitCount_0f7a4_11 : decode cJ6_bitCount_0f7a4 11 = .ok (.ldc_w 266, 3) := by decide +kernel
theorem dJ6_bitCount_0f7a4_14 : decode cJ6_bitCount_0f7a4 14 = .ok (.iand, 1) := by decide +kernel
theorem dJ6_bitCount_0f7a4_15 : decode cJ6_bitCount_0f7a4 15 = .ok (.iload_n 0, 1) := by decide +kernel
theorem dJ6_bitCount_0f7a4_16 : decode cJ6_bitCount_0f7a4 16 = .ok (.iconst 2, 1) := by decide +kernel
theorem dJ6_bitCount_0f7a4_17 : decode cJ6_bitCount_0f7a4 17 = .ok (.iushr, 1) := by decide +kernel
theorem dJ6_bitCount_0f7a4_18 : decode cJ6_bitCount_0f7a4 18 = .ok (.ldc_w 266, 3) := by decide +kernel
theorem dJ6_bitCount_0f7a4_21 : decode cJ6_bitCount_0f7a4 21 = .ok (.iand, 1) := by decide +kernel
theorem dJ6_bitCount_0f7a4_22 : decode cJ6_bitCount_0f7a4 22 = .ok (.iadd, 1) := by decide +kernel
theorem dJ6_bitCount_0f7a4_23 : decode cJ6_bitCount_0f7a4 23 = .ok (.istore_n 0, 1) := by decide +kernel
theorem dJ6_bitCount_0f7a4_24 : decode cJ6_bitCount_0f7a4 24 = .ok (.iload_n 0, 1) := by decide +kernel
theorem dJ6_bitCount_0f7a4_25 : decode cJ6_bitCount_0f7a4 25 = .ok (.iload_n 0, 1) := by decide +kernel
theorem dJ6_bitCount_0f7a4_26 : decode cJ6_bitCount_0f7a4 26 = .ok (.iconst 4, 1) := by decide +kernel
theorem dJ6_bitCount_0f7a4_27 : decode cJ6_bitCount_0f7a4 27 = .ok (.iushr, 1) := by decide +kernel
theorem dJ6_bitCount_0f7a4_28 : decode cJ6_bitCount_0f7a4 28 = .ok (.iadd, 1) := by decide +kernel
theorem dJ6_bitCount_0f7a4_29 : decode cJ6_bitCount_0f7a4 29 = .ok (.ldc_w 267, 3) := by decide +kernel
theorem dJ6_bitCount_0f7a4_32 : decode cJ6_bitCount_0f7a4 32 = .ok (.iand, 1) := by decide +kernel
theorem dJ6_bitCount_0f7a4_33 : decode cJ6_bitCount_0f7a4 33 = .ok (.istore_n 0, 1) := by decide +kernel
theorem dJ6_bitCount_0f7a4_34 : decode cJ6_bitCount_0f7a4 34 = .ok (.iload_n 0, 1) := by decide +kernel
theorem dJ6_bitCount_0f7a4_35 : decode cJ6_bitCount_0f7a4 35 = .ok (.iload_n 0, 1) := by decide +kernel
theorem dJ6_bitCount_0f7a4_36 : decode cJ6_bitCount_0f7a4 36 = .ok (.bipush 8, 2) := by decide +kernel
theorem dJ6_bitCount_0f7a4_38 : decode cJ6_bitCount_0f7a4 38 = .ok (.iushr, 1) := by decide +kernel
theorem dJ6_bitCount_0f7a4_39 : decode cJ6_bitCount_0f7a4 39 = .ok (.iadd, 1) := by decide +kernel
theorem dJ6_bitCount_0f7a4_40 : decode cJ6_bitCount_0f7a4 40 = .ok (.istore_n 0, 1) := by decide +kernel
theorem dJ6_bitCount_0f7a4_41 : decode cJ6_bitCount_0f7a4 41 = .ok (.iload_n 0, 1) := by decide +kernel
theorem dJ6_bitCount_0f7a4_42 : decode cJ6_bitCount_0f7a4 42 = .ok (.iload_n 0, 1) := by decide +kernel
theorem dJ6_bitCount_0f7a4_43 : decode cJ6_bitCount_0f7a4 43 = .ok (.bipush 16, 2) := by decide +kernel
theorem dJ6_bitCount_0f7a4_45 : decode cJ6_bitCount_0f7a4 45 = .ok (.iushr, 1) := by decide +kernel
theorem dJ6_bitCount_0f7a4_46 : decode cJ6_bitCount_0f7a4 46 = .ok (.iadd, 1) := by decide +kernel
theorem dJ6_bitCount_0f7a4_47 : decode cJ6_bitCount_0f7a4 47 = .ok (.istore_n 0, 1) := by decide +kernel
theorem dJ6_bitCount_0f7a4_48 : decode cJ6_bitCount_0f7a4 48 = .ok (.iload_n 0, 1) := by decide +kernel
theorem dJ6_bitCount_0f7a4_49 : decode cJ6_bitCount_0f7a4 49 = .ok (.bipush 63, 2) := by decide +kernel
theorem dJ6_bitCount_0f7a4_51 : decode cJ6_bitCount_0f7a4 51 = .ok (.iand, 1) := by decide +kernel
theorem dJ6_bitCount_0f7a4_52 : decode cJ6_bitCount_0f7a4 52 = .ok (.ireturn, 1) := by decide +kernel
theorem dJ9_abs_0f7a4_0 : decode cJ9_abs_0f7a4 0 = .ok (.iload_n 0, 1) := by decide +kernel
theorem dJ9_abs_0f7a4_1 : decode cJ9_abs_0f7a4 1 = .ok (.ifCond .ge 8, 3) := by decide +kernel
theorem dJ9_abs_0f7a4_4 : decode cJ9_abs_0f7a4 4 = .ok (.iload_n 0, 1) := by decide +kernel
theorem dJ9_abs_0f7a4_5 : decode cJ9_abs_0f7a4 5 = .ok (.ineg, 1) := by decide +kernel
theorem dJ9_abs_0f7a4_6 : decode cJ9_abs_0f7a4 6 = .ok (.goto 4, 3) := by decide +kernel
theorem dJ9_abs_0f7a4_9 : decode cJ9_abs_0f7a4 9 = .ok (.iload_n 0, 1) := by decide +kernel
theorem dJ9_abs_0f7a4_10 : decode cJ9_abs_0f7a4 10 = .ok (.ireturn, 1) := by decide +kernel
theorem dJ9_max_7cf53_0 : decode cJ9_max_7cf53 0 = .ok (.iload_n 0, 1) := by decide +kernel
theorem dJ9_max_7cf53_1 : decode cJ9_max_7cf53 1 = .ok (.iload_n 1, 1) := by decide +kernel
theorem dJ9_max_7cf53_2 : decode cJ9_max_7cf53 2 = .ok (.if_icmp .lt 7, 3) := by decide +kernel
theorem dJ9_max_7cf53_5 : decode cJ9_max_7cf53 5 = .ok (.iload_n 0, 1) := by decide +kernel
theorem dJ9_max_7cf53_6 : decode cJ9_max_7cf53 6 = .ok (.goto 4, 3) := by decide +kernel
theorem dJ9_max_7cf53_9 : decode cJ9_max_7cf53 9 = .ok (.iload_n 1, 1) := by decide +kernel
theorem dJ9_max_7cf53_10 : decode cJ9_max_7cf53 10 = .ok (.ireturn, 1) := by decide +kernel
theorem dJ9_min_7cf53_0 : decode cJ9_min_7cf53 0 = .ok (.iload_n 0, 1) := by decide +kernel
theorem dJ9_min_7cf53_1 : decode cJ9_min_7cf53 1 = .ok (.iload_n 1, 1) := by decide +kernel
theorem dJ9_min_7cf53_2 : decode cJ9_min_7cf53 2 = .ok (.if_icmp .gt 7, 3) := by decide +kernel
theorem dJ9_min_7cf53_5 : decode cJ9_min_7cf53 5 = .ok (.iload_n 0, 1) := by decide +kernel
theorem dJ9_min_7cf53_6 : decode cJ9_min_7cf53 6 = .ok (.goto 4, 3) := by decide +kernel
theorem dJ9_min_7cf53_9 : decode cJ9_min_7cf53 9 = .ok (.iload_n 1, 1) := by decide +kernel
theorem dJ9_min_7cf53_10 : decode cJ9_min_7cf53 10 = .ok (.ireturn, 1) := by decide +kernel
set_option maxRecDepth 20000 in
theorem ggL_law_X6_init : GoodIn wsL_law wsX6_init := goodIn_r _ [8, 9, 10, 11, 12, 13, 14, 15, 16, 17, 18, 19, 20, 21, 22, 23, 24, 25, 26, 27, 28, 29, 30, 31, 32, 33, 34, 35, 36, 37, 38, 39, 40, 41, 42, 43, 44, 45, 46, 47, 48, 49, 50, 51, 52, 53, 54, 55, 56, 57, 58, 59, 60, 61, 62, 63, 64, 65, 66, 67, 68, 69, 70, 71, 72, 73, 74, 75, 76, 77, 78, 79, 80, 81, 82, 83, 84, 85, 86, 87, 88, 89, 90, 91, 92, 93, 94, 95, 812, 813, 814, 815, 816, 817, 818, 819, 820, 821, 822, 823, 824, 825, 826, 827, 828, 793, 794, 795, 796, 797, 829, 830, 831, 832, 833, 834, 835, 836, 837, 838, 839, 840, 841, 842, 843, 844, 845, 846, 847, 848, 849] (by decide +kernel) (by decide +kernel)
set_option maxRecDepth 20000 in
theorem gL_law_X6_init : GoodIn wsL_law (wsX6_init) := ggL_law_X6_init
set_option maxRecDepth 20000 in
theorem ggL_law_X7_init : GoodIn wsL_law wsX7_init := goodIn_r _ [98, 99, 10, 11, 37, 100, 101, 102, 103, 798, 799, 800, 801, 802, 803, 804, 805, 806, 807, 808, 809, 810, 811] (by decide +kernel) (by decide +kernel)
set_option maxRecDepth 20000 in
theorem gL_law_X7_init : GoodIn wsL_law (wsX7_init) := ggL_law_X7_init
set_option maxRecDepth 20000 in
theorem ggL_law_X6_read : GoodIn wsL_law wsX6_read := goodIn_r _ [107, 108, 19, 15, 109, 110, 2, 111, 112, 113, 114, 18, 115, 70, 69, 116, 117, 118, 119, 120, 121, 122, 123, 14, 124, 36, 38, 39, 40, 41, 42, 43, 44, 45, 46, 47, 48, 49, 50, 51, 52, 53, 125, 126, 127, 30, 128, 57, 58, 59, 60, 61, 62, 63, 129, 130, 131, 132, 133, 134, 135, 136, 137, 138, 139, 140, 141, 142, 143, 144, 145, 146, 147, 148, 149, 150, 151, 152, 153, 154, 155, 156, 157, 158, 159, 160, 161, 162, 163, 164, 165, 166, 167, 168, 169, 170, 171, 172, 173, 174, 175, 176, 793, 794, 795, 796, 797, 829, 830, 812, 813, 814, 815, 816, 817, 818, 819, 820, 821, 822, 823, 824, 825, 826, 827, 828, 836, 837, 838, 839, 840, 841, 842] (by decide +kernel) (by decide +kernel)
set_option maxRecDepth 20000 in
theorem gL_law_X6_read : GoodIn wsL_law (wsV RL 13 RX6 yX6_read wsX6_read) := goodIn_app (goodIn_of _ (by decide +kernel)) ggL_law_X6_read
set_option maxRecDepth 20000 in
theorem ggL_law_X7_read : GoodIn wsL_law wsX7_read := goodIn_r _ [180, 181, 182, 183, 5, 184, 101, 100, 185, 186, 187, 188, 189, 190, 191, 192, 193, 194, 195, 196, 197, 198, 199, 200, 201, 202, 203, 204, 205, 206, 207, 208, 209, 210, 211, 212, 213, 214, 215, 216, 217, 218, 219, 220, 221, 222, 223, 224, 225, 226, 227, 228, 229, 230, 102, 798, 799, 800, 801, 802, 803, 804, 805, 806, 807, 808, 809, 810, 811] (by decide +kernel) (by decide +kernel)
set_option maxRecDepth 20000 in
theorem gL_law_X7_read : GoodIn wsL_law (wsV RL 17 RX7 yX7_read wsX7_read) := goodIn_app (goodIn_of _ (by decide +kernel)) ggL_law_X7_read
set_option maxRecDepth 20000 in
theorem ggL_law_X6_write : GoodIn wsL_law wsX6_write := goodIn_r _ [234, 108, 19, 15, 109, 110, 2, 111, 235, 120, 121, 112, 113, 114, 18, 115, 70, 69, 116, 117, 118, 119, 122, 123, 14, 124, 36, 38, 39, 40, 41, 42, 43, 44, 45, 46, 47, 48, 49, 50, 51, 52, 53, 125, 126, 127, 30, 128, 57, 58, 59, 60, 61, 62, 63, 129, 130, 131, 132, 133, 134, 135, 136, 137, 138, 236, 237, 238, 239, 143, 144, 145, 146, 147, 148, 149, 150, 151, 152, 153, 154, 155, 156, 157, 158, 159, 160, 161, 162, 163, 164, 165, 166, 167, 168, 169, 170, 171, 172, 173, 174, 175, 176, 240, 241, 242, 243, 244, 245, 246, 247, 248, 249, 250, 251, 252, 253, 254, 255, 256, 257, 258, 259, 260, 261, 262, 263, 793, 794, 795, 796, 797, 829, 830, 812, 813, 814, 815, 816, 817, 818, 819, 820, 821, 822, 823, 824, 825, 826, 827, 828, 836, 837, 838, 839, 840, 841, 842] (by decide +kernel) (by decide +kernel)
set_option maxRecDepth 20000 in
theorem gL_law_X6_write : GoodIn wsL_law (wsV RL 18 RX6 yX6_write wsX6_write) := goodIn_app (goodIn_of _ (by decide +kernel)) ggL_law_X6_write
set_option maxRecDepth 20000 in
theorem ggL_law_X7_write : GoodIn wsL_law wsX7_write := goodIn_r _ [267, 181, 182, 183, 5, 184, 101, 100, 268, 269, 270, 271, 272, 189, 190, 191, 192, 193, 194, 195, 196, 197, 198, 199, 200, 201, 202, 203, 204, 205, 206, 207, 208, 209, 210, 211, 212, 213, 214, 215, 216, 217, 218, 219, 220, 221, 222, 223, 224, 273, 274, 275, 276, 277, 278, 279, 280, 281, 282, 283, 284, 225, 226, 227, 228, 229, 230, 102, 798, 799, 800, 801, 802, 803, 804, 805, 806, 807, 808, 809, 810, 811] (by decide +kernel) (by decide +kernel)
set_option maxRecDepth 20000 in
theorem gL_law_X7_write : GoodIn wsL_law (wsV RL 22 RX7 yX7_write wsX7_write) := goodIn_app (goodIn_of _ (by decide +kernel)) ggL_law_X7_write
set_option maxRecDepth 20000 in
theorem ggL_law_X6_flush : GoodIn wsL_law wsX6_flush := goodIn_r _ [288, 108, 15, 289, 290, 19, 291, 151, 2, 152, 112, 113, 114, 18, 115, 70, 69, 116, 117, 118, 119, 120, 121, 122, 123, 14, 124, 36, 38, 39, 40, 41, 42, 43, 44, 45, 46, 47, 48, 49, 50, 51, 52, 53, 125, 126, 127, 30, 128, 57, 58, 59, 60, 61, 62, 63, 129, 130, 131, 132, 133, 134, 135, 136, 137, 138, 292, 166, 167, 168, 169, 170, 171, 172, 110, 111, 293, 241, 242, 243, 244, 245, 246, 247, 248, 249, 250, 251, 252, 253, 254, 793, 794, 795, 796, 797, 812, 813, 814, 815, 816, 817, 818, 819, 820, 821, 822, 823, 824, 825, 826, 827, 828, 829, 830, 836, 837, 838, 839, 840, 841, 842] (by decide +kernel) (by decide +kernel)
set_option maxRecDepth 20000 in
theorem gL_law_X6_flush : GoodIn wsL_law (wsV RL 23 RX6 yX6_flush wsX6_flush) := goodIn_app (goodIn_of _ (by decide +kernel)) ggL_law_X6_flush
set_option maxRecDepth 20000 in
theorem ggL_law_X7_flush : GoodIn wsL_law wsX7_flush := goodIn_r _ [297, 181, 182, 183, 5, 184, 101, 100, 298, 299, 300, 301, 189, 302, 303, 304, 305, 306, 194, 195, 196, 213, 214, 215, 216, 217, 218, 219, 220, 205, 206, 207, 208, 273, 274, 275, 276, 225, 226, 227, 228, 229, 230, 102, 798, 799, 800, 801, 802, 803, 804, 805, 806, 807, 808, 809, 810, 811] (by decide +kernel) (by decide +kernel)
set_option maxRecDepth 20000 in
theorem gL_law_X7_flush : GoodIn wsL_law (wsV RL 26 RX7 yX7_flush wsX7_flush) := goodIn_app (goodIn_of _ (by decide +kernel)) ggL_law_X7_flush
set_option maxRecDepth 20000 in
theorem ggL_law_X6_tick : GoodIn wsL_law wsX6_tick := goodIn_r _ [310, 108, 19, 15, 235, 120, 2, 121, 112, 113, 114, 18, 115, 70, 69, 116, 117, 118, 119, 122, 123, 14, 124, 36, 38, 39, 40, 41, 42, 43, 44, 45, 46, 47, 48, 49, 50, 51, 52, 53, 125, 126, 127, 30, 128, 57, 58, 59, 60, 61, 62, 63, 129, 130, 131, 132, 133, 134, 135, 136, 137, 138, 311, 312, 313, 314, 315, 316, 317, 318, 263, 319, 320, 321, 322, 323, 324, 325, 326, 327, 328, 329, 330, 331, 332, 333, 334, 335, 336, 337, 338, 240, 241, 242, 243, 244, 245, 246, 247, 248, 249, 250, 251, 252, 253, 254, 255, 256, 257, 258, 259, 260, 261, 262, 339, 340, 341, 342, 161, 162, 163, 164, 165, 166, 167, 168, 151, 152, 169, 170, 171, 172, 110, 111, 793, 794, 795, 796, 797, 829, 830, 812, 813, 814, 815, 816, 817, 818, 819, 820, 821, 822, 823, 824, 825, 826, 827, 828, 836, 837, 838, 839, 840, 841, 842] (by decide +kernel) (by decide +kernel)
set_option maxRecDepth 20000 in
theorem gL_law_X6_tick : GoodIn wsL_law (wsV RL 27 RX6 yX6_tick wsX6_tick) := goodIn_app (goodIn_of _ (by decide +kernel)) ggL_law_X6_tick
set_option maxRecDepth 20000 in
theorem ggL_law_X7_tick : GoodIn wsL_law wsX7_tick := goodIn_r _ [346, 181, 182, 183, 5, 184, 101, 100, 347, 348, 349, 350, 351, 189, 194, 195, 196, 352, 353, 354, 355, 205, 206, 207, 208, 356, 357, 358, 359, 281, 282, 283, 284, 360, 361, 362, 363, 364, 365, 366, 367, 368, 369, 370, 371, 372, 373, 374, 375, 273, 274, 275, 276, 277, 278, 279, 280, 209, 210, 211, 212, 213, 214, 215, 216, 217, 218, 219, 220, 225, 226, 227, 228, 229, 230, 102, 798, 799, 800, 801, 802, 803, 804, 805, 806, 807, 808, 809, 810, 811] (by decide +kernel) (by decide +kernel)
set_option maxRecDepth 20000 in
theorem gL_law_X7_tick : GoodIn wsL_law (wsV RL 30 RX7 yX7_tick wsX7_tick) := goodIn_app (goodIn_of _ (by decide +kernel)) ggL_law_X7_tick
set_option maxRecDepth 20000 in
theorem ggL_law_X6_load : GoodIn wsL_law wsX6_load := goodIn_r _ [379, 108, 19, 15, 235, 120, 2, 121, 112, 113, 114, 18, 115, 70, 69, 116, 117, 118, 119, 122, 123, 14, 124, 36, 38, 39, 40, 41, 42, 43, 44, 45, 46, 47, 48, 49, 50, 51, 52, 53, 125, 126, 127, 30, 128, 57, 58, 59, 60, 61, 62, 63, 129, 130, 131, 132, 133, 134, 135, 136, 137, 138, 380, 381, 382, 383, 384, 324, 325, 326, 327, 328, 329, 334, 335, 336, 337, 338, 240, 241, 242, 243, 244, 245, 246, 247, 248, 249, 250, 251, 252, 253, 254, 255, 256, 257, 258, 259, 260, 261, 262, 263, 339, 340, 341, 342, 161, 162, 163, 164, 165, 166, 167, 168, 151, 152, 169, 170, 171, 172, 110, 111, 793, 794, 795, 796, 797, 829, 830, 812, 813, 814, 815, 816, 817, 818, 819, 820, 821, 822, 823, 824, 825, 826, 827, 828, 836, 837, 838, 839, 840, 841, 842] (by decide +kernel) (by decide +kernel)
set_option maxRecDepth 20000 in
theorem gL_law_X6_load : GoodIn wsL_law (wsV RL 31 RX6 yX6_load wsX6_load) := goodIn_app (goodIn_of _ (by decide +kernel)) ggL_law_X6_load
set_option maxRecDepth 20000 in
theorem ggL_law_X7_load : GoodIn wsL_law wsX7_load := goodIn_r _ [388, 181, 182, 183, 5, 184, 101, 100, 389, 390, 391, 392, 272, 189, 194, 195, 196, 360, 361, 362, 363, 372, 373, 374, 375, 273, 274, 275, 276, 277, 278, 279, 280, 281, 282, 283, 284, 209, 210, 211, 212, 213, 214, 215, 216, 217, 218, 219, 220, 205, 206, 207, 208, 225, 226, 227, 228, 229, 230, 102, 798, 799, 800, 801, 802, 803, 804, 805, 806, 807, 808, 809, 810, 811] (by decide +kernel) (by decide +kernel)
set_option maxRecDepth 20000 in
theorem gL_law_X7_load : GoodIn wsL_law (wsV RL 34 RX7 yX7_load wsX7_load) := goodIn_app (goodIn_of _ (by decide +kernel)) ggL_law_X7_load
set_option maxRecDepth 20000 in
theorem ggL_law_X6_learn : GoodIn wsL_law wsX6_learn := goodIn_r _ [396, 15, 397, 398, 290, 19, 112, 113, 114, 18, 115, 70, 69, 116, 117, 118, 119, 120, 2, 121, 122, 123, 14, 124, 36, 38, 39, 40, 41, 42, 43, 44, 45, 46, 47, 48, 49, 50, 51, 52, 53, 125, 126, 127, 30, 128, 57, 58, 59, 60, 61, 62, 63, 129, 130, 131, 132, 133, 134, 135, 136, 137, 138, 399, 400, 401, 402, 403, 334, 335, 336, 337, 338, 328, 329, 240, 241, 242, 243, 244, 245, 246, 247, 248, 249, 250, 251, 252, 253, 254, 255, 256, 257, 258, 259, 260, 261, 262, 263, 339, 340, 341, 342, 161, 162, 163, 164, 165, 166, 167, 168, 151, 152, 169, 170, 171, 172, 110, 111, 793, 794, 795, 796, 797, 812, 813, 814, 815, 816, 817, 818, 819, 820, 821, 822, 823, 824, 825, 826, 827, 828, 836, 837, 838, 839, 840, 841, 842, 829, 830] (by decide +kernel) (by decide +kernel)
set_option maxRecDepth 20000 in
theorem gL_law_X6_learn : GoodIn wsL_law (wsV RL 35 RX6 yX6_learn wsX6_learn) := goodIn_app (goodIn_of _ (by decide +kernel)) ggL_law_X6_learn
set_option maxRecDepth 20000 in
theorem ggL_law_X7_learn : GoodIn wsL_law wsX7_learn := goodIn_r _ [407, 181, 182, 183, 5, 184, 101, 100, 408, 409, 410, 411, 302, 372, 373, 374, 375, 273, 274, 275, 276, 277, 278, 279, 280, 281, 282, 283, 284, 209, 210, 211, 212, 213, 214, 215, 216, 217, 218, 219, 220, 205, 206, 207, 208, 225, 226, 227, 228, 229, 230, 102, 798, 799, 800, 801, 802, 803, 804, 805, 806, 807, 808, 809, 810, 811] (by decide +kernel) (by decide +kernel)
set_option maxRecDepth 20000 in
theorem gL_law_X7_learn : GoodIn wsL_law (wsV RL 39 RX7 yX7_learn wsX7_learn) := goodIn_app (goodIn_of _ (by decide +kernel)) ggL_law_X7_learn
set_option maxRecDepth 20000 in
theorem ggL_law_X6_cut : GoodIn wsL_law wsX6_cut := goodIn_r _ [415, 19, 15, 112, 113, 114, 18, 115, 70, 69, 116, 117, 118, 119, 120, 2, 121, 122, 123, 14, 124, 36, 38, 39, 40, 41, 42, 43, 44, 45, 46, 47, 48, 49, 50, 51, 52, 53, 125, 126, 127, 30, 128, 57, 58, 59, 60, 61, 62, 63, 129, 130, 131, 132, 133, 134, 135, 136, 137, 138, 416, 417, 418, 419, 420, 421, 422, 423, 424, 240, 241, 242, 243, 244, 245, 246, 247, 248, 249, 250, 251, 252, 253, 254, 425, 260, 261, 262, 263, 339, 340, 341, 342, 161, 162, 163, 164, 165, 166, 167, 168, 151, 152, 169, 170, 171, 172, 110, 111, 426, 427, 428, 429, 430, 431, 432, 433, 323, 324, 325, 326, 327, 328, 329, 793, 794, 795, 796, 797, 829, 830, 812, 813, 814, 815, 816, 817, 818, 819, 820, 821, 822, 823, 824, 825, 826, 827, 828, 836, 837, 838, 839, 840, 841, 842] (by decide +kernel) (by decide +kernel)
set_option maxRecDepth 20000 in
theorem gL_law_X6_cut : GoodIn wsL_law (wsV RL 40 RX6 yX6_cut wsX6_cut) := goodIn_app (goodIn_of _ (by decide +kernel)) ggL_law_X6_cut
set_option maxRecDepth 20000 in
theorem ggL_law_X7_cut : GoodIn wsL_law wsX7_cut := goodIn_r _ [437, 181, 182, 183, 5, 184, 101, 100, 438, 439, 440, 441, 281, 282, 283, 284, 273, 274, 275, 276, 209, 210, 211, 212, 213, 214, 215, 216, 217, 218, 219, 220, 205, 206, 207, 208, 225, 226, 227, 228, 229, 230, 102, 798, 799, 800, 801, 802, 803, 804, 805, 806, 807, 808, 809, 810, 811] (by decide +kernel) (by decide +kernel)
set_option maxRecDepth 20000 in
theorem gL_law_X7_cut : GoodIn wsL_law (wsV RL 43 RX7 yX7_cut wsX7_cut) := goodIn_app (goodIn_of _ (by decide +kernel)) ggL_law_X7_cut
set_option maxRecDepth 20000 in
theorem ggL_law_X6_set : GoodIn wsL_law wsX6_set := goodIn_r _ [445, 446, 447, 108, 19, 15, 397, 448, 449, 2, 450, 235, 120, 121, 112, 113, 114, 18, 115, 70, 69, 116, 117, 118, 119, 122, 123, 14, 124, 36, 38, 39, 40, 41, 42, 43, 44, 45, 46, 47, 48, 49, 50, 51, 52, 53, 125, 126, 127, 30, 128, 57, 58, 59, 60, 61, 62, 63, 129, 130, 131, 132, 133, 134, 135, 136, 137, 138, 451, 452, 453, 454, 455, 456, 457, 458, 793, 794, 795, 796, 797, 812, 813, 814, 815, 816, 817, 818, 819, 820, 821, 822, 823, 824, 825, 826, 827, 828, 829, 830, 836, 837, 838, 839, 840, 841, 842] (by decide +kernel) (by decide +kernel)
set_option maxRecDepth 20000 in
theorem gL_law_X6_set : GoodIn wsL_law (wsV RL 44 RX6 yX6_set wsX6_set) := goodIn_app (goodIn_of _ (by decide +kernel)) ggL_law_X6_set
set_option maxRecDepth 20000 in
theorem ggL_law_X7_set : GoodIn wsL_law wsX7_set := goodIn_r _ [462, 181, 182, 183, 5, 184, 101, 100, 463, 464, 465, 466, 467, 468, 189, 194, 195, 196, 225, 226, 227, 228, 229, 230, 102, 798, 799, 800, 801, 802, 803, 804, 805, 806, 807, 808, 809, 810, 811] (by decide +kernel) (by decide +kernel)
set_option maxRecDepth 20000 in
theorem gL_law_X7_set : GoodIn wsL_law (wsV RL 47 RX7 yX7_set wsX7_set) := goodIn_app (goodIn_of _ (by decide +kernel)) ggL_law_X7_set
set_option maxRecDepth 20000 in
theorem ggL_law_X6_lineOf : GoodIn wsL_law wsX6_lineOf := goodIn_r _ [472, 108, 15, 289, 473, 474, 475, 476, 291, 151, 2, 152, 235, 120, 121, 477, 478, 479, 14, 480, 40, 43, 793, 794, 795, 796, 797, 812, 813, 814, 815, 816, 817, 818, 819, 820, 821, 822, 823, 824, 825, 826, 827, 828] (by decide +kernel) (by decide +kernel)
set_option maxRecDepth 20000 in
theorem gL_law_X6_lineOf : GoodIn wsL_law (wsV RL 48 RX6 yX6_lineOf wsX6_lineOf) := goodIn_app (goodIn_of _ (by decide +kernel)) ggL_law_X6_lineOf
set_option maxRecDepth 20000 in
theorem ggL_law_X7_lineOf : GoodIn wsL_law wsX7_lineOf := goodIn_r _ [484, 485, 189, 100, 486, 303, 304, 5, 305, 306, 194, 195, 196, 487, 488, 489, 490, 798, 799, 800, 801, 802, 803, 804, 805, 806, 807, 808, 809, 810, 811] (by decide +kernel) (by decide +kernel)
set_option maxRecDepth 20000 in
theorem gL_law_X7_lineOf : GoodIn wsL_law (wsV RL 51 RX7 yX7_lineOf wsX7_lineOf) := goodIn_app (goodIn_of _ (by decide +kernel)) ggL_law_X7_lineOf
set_option maxRecDepth 20000 in
theorem ggL_law_X6_placeOf : GoodIn wsL_law wsX6_placeOf := goodIn_r _ [494, 108, 15, 495, 475, 473, 496, 109, 110, 2, 111, 235, 120, 121, 497, 148, 149, 14, 150, 40, 41, 291, 151, 152, 793, 794, 795, 796, 797, 812, 813, 814, 815, 816, 817, 818, 819, 820, 821, 822, 823, 824, 825, 826, 827, 828] (by decide +kernel) (by decide +kernel)
set_option maxRecDepth 20000 in
theorem gL_law_X6_placeOf : GoodIn wsL_law (wsV RL 52 RX6 yX6_placeOf wsX6_placeOf) := goodIn_app (goodIn_of _ (by decide +kernel)) ggL_law_X6_placeOf
set_option maxRecDepth 20000 in
theorem ggL_law_X7_placeOf : GoodIn wsL_law wsX7_placeOf := goodIn_r _ [501, 502, 189, 100, 486, 190, 191, 5, 192, 193, 194, 195, 196, 201, 202, 203, 204, 798, 799, 800, 801, 802, 803, 804, 805, 806, 807, 808, 809, 810, 811] (by decide +kernel) (by decide +kernel)
set_option maxRecDepth 20000 in
theorem gL_law_X7_placeOf : GoodIn wsL_law (wsV RL 55 RX7 yX7_placeOf wsX7_placeOf) := goodIn_app (goodIn_of _ (by decide +kernel)) ggL_law_X7_placeOf
set_option maxRecDepth 20000 in
theorem ggL_law_X6_battery : GoodIn wsL_law wsX6_battery := goodIn_r _ [506, 15, 397, 507, 508, 398, 108, 509, 331, 332, 30, 333, 58, 510, 256, 257, 258, 59, 259, 260, 261, 262, 57, 61, 60, 263, 132, 133, 134, 511, 421, 422, 14, 423, 36, 424, 240, 241, 242, 243, 244, 245, 246, 247, 40, 248, 249, 250, 251, 252, 253, 254, 425, 793, 794, 795, 796, 797, 812, 813, 814, 815, 816, 817, 818, 819, 820, 821, 822, 823, 824, 825, 826, 827, 828, 836, 837, 838, 839, 840, 841, 842] (by decide +kernel) (by decide +kernel)
set_option maxRecDepth 20000 in
theorem gL_law_X6_battery : GoodIn wsL_law (wsV RL 56 RX6 yX6_battery wsX6_battery) := goodIn_app (goodIn_of _ (by decide +kernel)) ggL_law_X6_battery
set_option maxRecDepth 20000 in
theorem ggL_law_X7_battery : GoodIn wsL_law wsX7_battery := goodIn_r _ [515, 100, 189, 368, 369, 370, 5, 371, 277, 278, 279, 280, 281, 282, 283, 284, 516, 517, 518, 519, 273, 274, 275, 276, 798, 799, 800, 801, 802, 803, 804, 805, 806, 807, 808, 809, 810, 811] (by decide +kernel) (by decide +kernel)
set_option maxRecDepth 20000 in
theorem gL_law_X7_battery : GoodIn wsL_law (wsV RL 59 RX7 yX7_battery wsX7_battery) := goodIn_app (goodIn_of _ (by decide +kernel)) ggL_law_X7_battery
set_option maxRecDepth 20000 in
theorem ggL_law_X6_lines : GoodIn wsL_law wsX6_lines := goodIn_r _ [523, 15, 108, 524, 245, 246, 14, 247, 40, 525, 526, 527, 528, 420, 421, 422, 423, 36, 424, 132, 133, 134, 240, 241, 242, 243, 244, 248, 249, 250, 251, 252, 253, 254, 425, 260, 261, 30, 262, 57, 61, 60, 263, 529, 478, 479, 480, 43, 151, 2, 152, 793, 794, 795, 796, 797, 812, 813, 814, 815, 816, 817, 818, 819, 820, 821, 822, 823, 824, 825, 826, 827, 828, 836, 837, 838, 839, 840, 841, 842] (by decide +kernel) (by decide +kernel)
set_option maxRecDepth 20000 in
theorem gL_law_X6_lines : GoodIn wsL_law (wsV RL 60 RX6 yX6_lines wsX6_lines) := goodIn_app (goodIn_of _ (by decide +kernel)) ggL_law_X6_lines
set_option maxRecDepth 20000 in
theorem ggL_law_X7_lines : GoodIn wsL_law wsX7_lines := goodIn_r _ [533, 502, 189, 194, 195, 5, 196, 534, 535, 536, 537, 100, 538, 539, 540, 541, 516, 517, 518, 519, 281, 282, 283, 284, 273, 274, 275, 276, 542, 543, 544, 545, 798, 799, 800, 801, 802, 803, 804, 805, 806, 807, 808, 809, 810, 811] (by decide +kernel) (by decide +kernel)
set_option maxRecDepth 20000 in
theorem gL_law_X7_lines : GoodIn wsL_law (wsV RL 63 RX7 yX7_lines wsX7_lines) := goodIn_app (goodIn_of _ (by decide +kernel)) ggL_law_X7_lines
set_option maxRecDepth 20000 in
theorem ggL_law_X6_wouldFlush : GoodIn wsL_law wsX6_wouldFlush := goodIn_r _ [549, 108, 31, 15, 397, 550, 328, 133, 329, 235, 120, 2, 121, 551, 126, 127, 30, 128, 57, 58, 59, 60, 61, 62, 63, 552, 324, 325, 326, 327, 293, 241, 242, 14, 243, 244, 245, 246, 247, 40, 248, 249, 250, 251, 252, 253, 254, 510, 256, 257, 258, 259, 260, 261, 262, 263, 132, 134, 793, 794, 795, 796, 797, 812, 813, 814, 815, 816, 817, 818, 819, 820, 821, 822, 823, 824, 825, 826, 827, 828, 836, 837, 838, 839, 840, 841, 842] (by decide +kernel) (by decide +kernel)
set_option maxRecDepth 20000 in
theorem gL_law_X6_wouldFlush : GoodIn wsL_law (wsV RL 64 RX6 yX6_wouldFlush wsX6_wouldFlush) := goodIn_app (goodIn_of _ (by decide +kernel)) ggL_law_X6_wouldFlush
set_option maxRecDepth 20000 in
theorem ggL_law_X7_wouldFlush : GoodIn wsL_law wsX7_wouldFlush := goodIn_r _ [556, 181, 182, 183, 5, 184, 101, 100, 389, 390, 391, 392, 272, 189, 194, 195, 196, 360, 361, 362, 363, 372, 373, 374, 375, 273, 274, 275, 276, 277, 278, 279, 280, 281, 282, 283, 284, 209, 210, 211, 212, 213, 214, 215, 216, 217, 218, 219, 220, 205, 206, 207, 208, 557, 558, 559, 560, 798, 799, 800, 801, 802, 803, 804, 805, 806, 807, 808, 809, 810, 811] (by decide +kernel) (by decide +kernel)
set_option maxRecDepth 20000 in
theorem gL_law_X7_wouldFlush : GoodIn wsL_law (wsV RL 67 RX7 yX7_wouldFlush wsX7_wouldFlush) := goodIn_app (goodIn_of _ (by decide +kernel)) ggL_law_X7_wouldFlush
set_option maxRecDepth 20000 in
theorem ggL_law_X6_critical : GoodIn wsL_law wsX6_critical := goodIn_r _ [564, 15, 397, 507, 550, 328, 133, 329, 473, 293, 241, 242, 14, 243, 244, 245, 246, 247, 40, 248, 249, 250, 251, 252, 253, 254, 565, 431, 432, 30, 433, 61, 60, 793, 794, 795, 796, 797, 812, 813, 814, 815, 816, 817, 818, 819, 820, 821, 822, 823, 824, 825, 826, 827, 828, 836, 837, 838, 839, 840, 841, 842] (by decide +kernel) (by decide +kernel)
set_option maxRecDepth 20000 in
theorem gL_law_X6_critical : GoodIn wsL_law (wsV RL 68 RX6 yX6_critical wsX6_critical) := goodIn_app (goodIn_of _ (by decide +kernel)) ggL_law_X6_critical
set_option maxRecDepth 20000 in
theorem ggL_law_X7_critical : GoodIn wsL_law wsX7_critical := goodIn_r _ [569, 486, 570, 554, 555, 5, 556, 181, 182, 183, 184, 101, 100, 389, 390, 391, 392, 272, 189, 194, 195, 196, 360, 361, 362, 363, 372, 373, 374, 375, 273, 274, 275, 276, 277, 278, 279, 280, 281, 282, 283, 284, 209, 210, 211, 212, 213, 214, 215, 216, 217, 218, 219, 220, 205, 206, 207, 208, 557, 558, 559, 560, 798, 799, 800, 801, 802, 803, 804, 805, 806, 807, 808, 809, 810, 811] (by decide +kernel) (by decide +kernel)
set_option maxRecDepth 20000 in
theorem gL_law_X7_critical : GoodIn wsL_law (wsV RL 71 RX7 yX7_critical wsX7_critical) := goodIn_app (goodIn_of _ (by decide +kernel)) ggL_law_X7_critical
set_option maxRecDepth 20000 in
theorem ggL_law_X6_ticksUntil : GoodIn wsL_law wsX6_ticksUntil := goodIn_r _ [574, 108, 31, 15, 397, 473, 235, 120, 2, 121, 551, 126, 127, 30, 128, 57, 58, 59, 60, 61, 62, 63, 510, 256, 257, 258, 259, 260, 261, 262, 263, 132, 133, 134, 575, 316, 317, 318, 319, 320, 321, 322, 323, 324, 325, 326, 327, 328, 329, 330, 331, 332, 333, 793, 794, 795, 796, 797, 812, 813, 814, 815, 816, 817, 818, 819, 820, 821, 822, 823, 824, 825, 826, 827, 828, 836, 837, 838, 839, 840, 841, 842] (by decide +kernel) (by decide +kernel)
set_option maxRecDepth 20000 in
theorem gL_law_X6_ticksUntil : GoodIn wsL_law (wsV RL 72 RX6 yX6_ticksUntil wsX6_ticksUntil) := goodIn_app (goodIn_of _ (by decide +kernel)) ggL_law_X6_ticksUntil
set_option maxRecDepth 20000 in
theorem ggL_law_X7_ticksUntil : GoodIn wsL_law wsX7_ticksUntil := goodIn_r _ [579, 580, 189, 486, 194, 195, 5, 196, 181, 182, 183, 184, 101, 100, 277, 278, 279, 280, 281, 282, 283, 284, 352, 353, 354, 355, 205, 206, 207, 208, 356, 357, 358, 359, 360, 361, 362, 363, 364, 365, 366, 367, 368, 369, 370, 371, 372, 373, 374, 375, 273, 274, 275, 276, 209, 210, 211, 212, 213, 214, 215, 216, 217, 218, 219, 220, 557, 558, 559, 560, 798, 799, 800, 801, 802, 803, 804, 805, 806, 807, 808, 809, 810, 811] (by decide +kernel) (by decide +kernel)
set_option maxRecDepth 20000 in
theorem gL_law_X7_ticksUntil : GoodIn wsL_law (wsV RL 75 RX7 yX7_ticksUntil wsX7_ticksUntil) := goodIn_app (goodIn_of _ (by decide +kernel)) ggL_law_X7_ticksUntil
set_option maxRecDepth 20000 in
theorem ggL_law_X6_pair : GoodIn wsL_law wsX6_pair := goodIn_r _ [584, 108, 15, 473, 235, 120, 2, 121, 585, 586, 587, 14, 588, 40, 43, 589, 590, 591, 592, 41, 593, 594, 133, 595, 424, 132, 134, 151, 152, 291, 596, 793, 794, 795, 796, 797, 812, 813, 814, 815, 816, 817, 818, 819, 820, 821, 822, 823, 824, 825, 826, 827, 828] (by decide +kernel) (by decide +kernel)
set_option maxRecDepth 20000 in
theorem gL_law_X6_pair : GoodIn wsL_law (wsV RL 76 RX6 yX6_pair wsX6_pair) := goodIn_app (goodIn_of _ (by decide +kernel)) ggL_law_X6_pair
set_option maxRecDepth 20000 in
theorem ggL_law_X7_pair : GoodIn wsL_law wsX7_pair := goodIn_r _ [600, 189, 486, 100, 194, 195, 5, 196, 273, 274, 275, 276, 601, 602, 603, 604, 605, 606, 607, 608, 798, 799, 800, 801, 802, 803, 804, 805, 806, 807, 808, 809, 810, 811] (by decide +kernel) (by decide +kernel)
set_option maxRecDepth 20000 in
theorem gL_law_X7_pair : GoodIn wsL_law (wsV RL 79 RX7 yX7_pair wsX7_pair) := goodIn_app (goodIn_of _ (by decide +kernel)) ggL_law_X7_pair
set_option maxRecDepth 20000 in
theorem ggL_law_X6_count : GoodIn wsL_law wsX6_count := goodIn_r _ [612, 15, 613, 614, 615, 616, 617, 618, 619, 620, 621, 19, 622, 23, 623, 397, 108, 448, 449, 2, 450, 451, 452, 453, 30, 454, 60, 61, 62, 63, 793, 794, 795, 796, 797, 812, 813, 814, 815, 816, 817, 818, 819, 820, 821, 822, 823, 824, 825, 826, 827, 828, 829, 830, 831, 832, 836, 837, 838, 839, 840, 841, 842] (by decide +kernel) (by decide +kernel)
set_option maxRecDepth 20000 in
theorem gL_law_X6_count : GoodIn wsL_law (wsV RL 80 RX6 yX6_count wsX6_count) := goodIn_app (goodIn_of _ (by decide +kernel)) ggL_law_X6_count
set_option maxRecDepth 20000 in
theorem ggL_law_X7_count : GoodIn wsL_law wsX7_count := goodIn_r _ [627, 580, 100, 230, 628, 629, 630, 189, 194, 195, 5, 196, 798, 799, 800, 801, 802, 803, 804, 805, 806, 807, 808, 809, 810, 811] (by decide +kernel) (by decide +kernel)
set_option maxRecDepth 20000 in
theorem gL_law_X7_count : GoodIn wsL_law (wsV RL 83 RX7 yX7_count wsX7_count) := goodIn_app (goodIn_of _ (by decide +kernel)) ggL_law_X7_count
set_option maxRecDepth 20000 in
theorem ggL_law_X6_undo : GoodIn wsL_law wsX6_undo := goodIn_r _ [634, 19, 622, 290, 15, 635, 636, 637, 18, 638, 70, 69, 120, 2, 121, 122, 123, 14, 124, 36, 38, 39, 40, 41, 42, 43, 44, 45, 46, 47, 48, 49, 50, 51, 52, 53, 125, 126, 127, 30, 128, 57, 58, 59, 60, 61, 62, 63, 129, 130, 131, 132, 133, 134, 135, 136, 137, 138, 793, 794, 795, 796, 797, 829, 830, 812, 813, 814, 815, 816, 817, 818, 819, 820, 821, 822, 823, 824, 825, 826, 827, 828, 836, 837, 838, 839, 840, 841, 842] (by decide +kernel) (by decide +kernel)
set_option maxRecDepth 20000 in
theorem gL_law_X6_undo : GoodIn wsL_law (wsV RL 84 RX6 yX6_undo wsX6_undo) := goodIn_app (goodIn_of _ (by decide +kernel)) ggL_law_X6_undo
set_option maxRecDepth 20000 in
theorem ggL_law_X7_undo : GoodIn wsL_law wsX7_undo := goodIn_r _ [642, 230, 302, 100, 102, 798, 799, 800, 801, 802, 803, 804, 805, 806, 807, 808, 809, 810, 811] (by decide +kernel) (by decide +kernel)
set_option maxRecDepth 20000 in
theorem gL_law_X7_undo : GoodIn wsL_law (wsV RL 87 RX7 yX7_undo wsX7_undo) := goodIn_app (goodIn_of _ (by decide +kernel)) ggL_law_X7_undo
set_option maxRecDepth 20000 in
theorem ggL_law_X6_type : GoodIn wsL_law wsX6_type := goodIn_r _ [646, 108, 23, 623, 647, 235, 120, 2, 121, 648, 649, 650, 22, 651, 75, 74, 793, 794, 795, 796, 797, 831, 832] (by decide +kernel) (by decide +kernel)
set_option maxRecDepth 20000 in
theorem gL_law_X6_type : GoodIn wsL_law (wsV RL 88 RX6 yX6_type wsX6_type) := goodIn_app (goodIn_of _ (by decide +kernel)) ggL_law_X6_type
set_option maxRecDepth 20000 in
theorem ggL_law_X7_type : GoodIn wsL_law wsX7_type := goodIn_r _ [655, 656, 657, 189, 628, 658, 103, 194, 195, 5, 196, 798, 799, 800, 801, 802, 803, 804, 805, 806, 807, 808, 809, 810, 811] (by decide +kernel) (by decide +kernel)
set_option maxRecDepth 20000 in
theorem gL_law_X7_type : GoodIn wsL_law (wsV RL 91 RX7 yX7_type wsX7_type) := goodIn_app (goodIn_of _ (by decide +kernel)) ggL_law_X7_type
set_option maxRecDepth 20000 in
theorem ggL_law_X6_clearText : GoodIn wsL_law wsX6_clearText := goodIn_r _ [662, 23, 623, 793, 794, 795, 796, 797, 831, 832] (by decide +kernel) (by decide +kernel)
set_option maxRecDepth 20000 in
theorem gL_law_X6_clearText : GoodIn wsL_law (wsV RL 92 RX6 yX6_clearText wsX6_clearText) := goodIn_app (goodIn_of _ (by decide +kernel)) ggL_law_X6_clearText
set_option maxRecDepth 20000 in
theorem ggL_law_X7_clearText : GoodIn wsL_law wsX7_clearText := goodIn_r _ [666, 628, 798, 799, 800, 801, 802, 803, 804, 805, 806, 807, 808, 809, 810, 811] (by decide +kernel) (by decide +kernel)
set_option maxRecDepth 20000 in
theorem gL_law_X7_clearText : GoodIn wsL_law (wsV RL 95 RX7 yX7_clearText wsX7_clearText) := goodIn_app (goodIn_of _ (by decide +kernel)) ggL_law_X7_clearText
set_option maxRecDepth 20000 in
theorem ggL_law_X6_fault : GoodIn wsL_law wsX6_fault := goodIn_r _ [670, 108, 27, 23, 15, 671, 672, 473, 673, 674, 235, 120, 2, 121, 675, 676, 677, 26, 678, 80, 84, 85, 679, 680, 681, 682, 123, 14, 124, 36, 38, 39, 40, 41, 42, 43, 44, 45, 46, 47, 48, 49, 50, 51, 52, 53, 125, 126, 127, 30, 128, 57, 58, 59, 60, 61, 62, 63, 129, 130, 131, 132, 133, 134, 135, 136, 137, 138, 683, 684, 685, 83, 686, 90, 94, 687, 688, 689, 690, 89, 95, 92, 691, 692, 693, 694, 91, 695, 696, 697, 22, 698, 75, 74, 699, 700, 701, 702, 703, 704, 705, 706, 707, 708, 709, 710, 93, 711, 712, 713, 714, 110, 111, 715, 716, 717, 718, 719, 720, 721, 722, 723, 724, 725, 726, 727, 728, 140, 141, 142, 143, 144, 145, 146, 147, 148, 149, 150, 151, 152, 153, 154, 155, 156, 157, 158, 159, 160, 161, 162, 163, 164, 165, 166, 167, 168, 169, 170, 171, 172, 173, 174, 175, 176, 729, 237, 238, 239, 240, 241, 242, 243, 244, 245, 246, 247, 248, 249, 250, 251, 252, 253, 254, 255, 256, 257, 258, 259, 260, 261, 262, 263, 730, 312, 313, 314, 315, 316, 317, 318, 319, 320, 321, 322, 323, 324, 325, 326, 327, 328, 329, 330, 331, 332, 333, 334, 335, 336, 337, 338, 339, 340, 341, 342, 731, 381, 382, 383, 384, 732, 417, 418, 419, 420, 421, 422, 423, 424, 425, 426, 427, 428, 429, 430, 431, 432, 433, 733, 400, 401, 402, 403, 793, 794, 795, 796, 797, 833, 834, 835, 843, 844, 845, 846, 847, 848, 849, 831, 832, 812, 813, 814, 815, 816, 817, 818, 819, 820, 821, 822, 823, 824, 825, 826, 827, 828, 836, 837, 838, 839, 840, 841, 842] (by decide +kernel) (by decide +kernel)
set_option maxRecDepth 20000 in
theorem gL_law_X6_fault : GoodIn wsL_law (wsV RL 96 RX6 yX6_fault wsX6_fault) := goodIn_app (goodIn_of _ (by decide +kernel)) ggL_law_X6_fault
set_option maxRecDepth 20000 in
theorem ggL_law_X7_fault : GoodIn wsL_law wsX7_fault := goodIn_r _ [737, 738, 189, 486, 739, 740, 741, 194, 195, 5, 196, 181, 182, 183, 184, 101, 100, 742, 743, 744, 745, 746, 628, 747, 748, 229, 749, 750, 751, 752, 103, 753, 754, 755, 756, 757, 758, 759, 760, 761, 762, 763, 764, 765, 766, 767, 768, 769, 770, 771, 772, 773, 774, 775, 776, 777, 351, 272, 190, 191, 192, 193, 778, 779, 780, 781, 185, 186, 187, 188, 197, 198, 199, 200, 201, 202, 203, 204, 205, 206, 207, 208, 209, 210, 211, 212, 213, 214, 215, 216, 217, 218, 219, 220, 221, 222, 223, 224, 268, 269, 270, 271, 273, 274, 275, 276, 277, 278, 279, 280, 281, 282, 283, 284, 347, 348, 349, 350, 352, 353, 354, 355, 356, 357, 358, 359, 360, 361, 362, 363, 364, 365, 366, 367, 368, 369, 370, 371, 372, 373, 374, 375, 389, 390, 391, 392, 438, 439, 440, 441, 408, 409, 410, 411, 302, 557, 558, 559, 560, 798, 799, 800, 801, 802, 803, 804, 805, 806, 807, 808, 809, 810, 811] (by decide +kernel) (by decide +kernel)
set_option maxRecDepth 20000 in
theorem gL_law_X7_fault : GoodIn wsL_law (wsV RL 99 RX7 yX7_fault wsX7_fault) := goodIn_app (goodIn_of _ (by decide +kernel)) ggL_law_X7_fault
set_option maxRecDepth 20000 in
theorem ggL_law_X6_play : GoodIn wsL_law wsX6_play := goodIn_r _ [785, 27, 23, 15, 671, 672, 290, 19, 786, 787, 675, 676, 677, 26, 678, 80, 84, 85, 679, 680, 681, 682, 123, 14, 124, 36, 38, 39, 40, 41, 42, 43, 44, 45, 46, 47, 48, 49, 50, 51, 52, 53, 125, 126, 127, 30, 128, 57, 58, 59, 60, 61, 62, 63, 129, 2, 130, 131, 132, 133, 134, 135, 136, 137, 138, 683, 684, 685, 83, 686, 90, 94, 687, 688, 689, 690, 89, 95, 92, 691, 692, 693, 694, 91, 695, 696, 697, 22, 698, 75, 74, 699, 700, 701, 702, 120, 121, 703, 704, 705, 706, 707, 708, 709, 710, 93, 711, 712, 713, 714, 110, 111, 715, 716, 717, 718, 719, 720, 721, 722, 723, 724, 725, 726, 727, 728, 140, 141, 142, 143, 144, 145, 146, 147, 148, 149, 150, 151, 152, 153, 154, 155, 156, 157, 158, 159, 160, 161, 162, 163, 164, 165, 166, 167, 168, 169, 170, 171, 172, 173, 174, 175, 176, 729, 237, 238, 239, 240, 241, 242, 243, 244, 245, 246, 247, 248, 249, 250, 251, 252, 253, 254, 255, 256, 257, 258, 259, 260, 261, 262, 263, 730, 312, 313, 314, 315, 316, 317, 318, 319, 320, 321, 322, 323, 324, 325, 326, 327, 328, 329, 330, 331, 332, 333, 334, 335, 336, 337, 338, 339, 340, 341, 342, 731, 381, 382, 383, 384, 732, 417, 418, 419, 420, 421, 422, 423, 424, 425, 426, 427, 428, 429, 430, 431, 432, 433, 733, 400, 401, 402, 403, 112, 113, 114, 18, 115, 70, 69, 116, 117, 118, 119, 122, 788, 793, 794, 795, 796, 797, 833, 834, 835, 843, 844, 845, 846, 847, 848, 849, 831, 832, 812, 813, 814, 815, 816, 817, 818, 819, 820, 821, 822, 823, 824, 825, 826, 827, 828, 836, 837, 838, 839, 840, 841, 842, 829, 830] (by decide +kernel) (by decide +kernel)
set_option maxRecDepth 20000 in
theorem gL_law_X6_play : GoodIn wsL_law (wsV RL 100 RX6 yX6_play wsX6_play) := goodIn_app (goodIn_of _ (by decide +kernel)) ggL_law_X6_play
set_option maxRecDepth 20000 in
theorem ggL_law_X7_play : GoodIn wsL_law wsX7_play := goodIn_r _ [792, 302, 746, 181, 182, 183, 5, 184, 101, 100, 742, 743, 744, 745, 739, 628, 747, 748, 229, 486, 749, 750, 751, 752, 103, 753, 754, 755, 756, 757, 758, 759, 760, 761, 762, 763, 764, 765, 194, 195, 196, 766, 767, 768, 769, 770, 771, 772, 773, 740, 741, 774, 775, 776, 777, 351, 272, 190, 191, 192, 193, 778, 779, 780, 781, 185, 186, 187, 188, 189, 197, 198, 199, 200, 201, 202, 203, 204, 205, 206, 207, 208, 209, 210, 211, 212, 213, 214, 215, 216, 217, 218, 219, 220, 221, 222, 223, 224, 268, 269, 270, 271, 273, 274, 275, 276, 277, 278, 279, 280, 281, 282, 283, 284, 347, 348, 349, 350, 352, 353, 354, 355, 356, 357, 358, 359, 360, 361, 362, 363, 364, 365, 366, 367, 368, 369, 370, 371, 372, 373, 374, 375, 389, 390, 391, 392, 438, 439, 440, 441, 408, 409, 410, 411, 557, 558, 559, 560, 225, 226, 227, 228, 230, 102, 798, 799, 800, 801, 802, 803, 804, 805, 806, 807, 808, 809, 810, 811] (by decide +kernel) (by decide +kernel)
set_option maxRecDepth 20000 in
theorem gL_law_X7_play : GoodIn wsL_law (wsV RL 103 RX7 yX7_play wsX7_play) := goodIn_app (goodIn_of _ (by decide +kernel)) ggL_law_X7_play
theorem dL_law_0 : decode cL_law 0 = .ok (.new 7, 3) := by decide +kernel
theorem dL_law_3 : decode cL_law 3 = .ok (.dup, 1) := by decide +kernel
theorem dL_law_4 : decode cL_law 4 = .ok (.invokespecial 9, 3) := by decide +kernel
theorem dL_law_7 : decode cL_law 7 = .ok (.astore_n 1, 1) := by decide +kernel
theorem dL_law_8 : decode cL_law 8 = .ok (.new 10, 3) := by decide +kernel
theorem dL_law_11 : decode cL_law 11 = .ok (.dup, 1) := by decide +kernel
theorem dL_law_12 : decode cL_law 12 = .ok (.invokespecial 12, 3) := by decide +kernel
theorem dL_law_15 : decode cL_law 15 = .ok (.astore_n 2, 1) := by decide +kernel
theorem dL_law_16 : decode cL_law 16 = .ok (.iconst 0, 1) := by decide +kernel
theorem dL_law_17 : decode cL_law 17 = .ok (.istore_n 3, 1) := by decide +kernel
theorem dL_law_18 : decode cL_law 18 = .ok (.iload_n 3, 1) := by decide +kernel
theorem dL_law_19 : decode cL_law 19 = .ok (.aload_n 0, 1) := by decide +kernel
theorem dL_law_20 : decode cL_law 20 = .ok (.arraylength, 1) := by decide +kernel
theorem dL_law_21 : decode cL_law 21 = .ok (.iconst 3, 1) := by decide +kernel
theorem dL_law_22 : decode cL_law 22 = .ok (.isub, 1) := by decide +kernel
theorem dL_law_23 : decode cL_law 23 = .ok (.if_icmp .gt 605, 3) := by decide +kernel
theorem dL_law_26 : decode cL_law 26 = .ok (.aload_n 0, 1) := by decide +kernel
theorem dL_law_27 : decode cL_law 27 = .ok (.iload_n 3, 1) := by decide +kernel
theorem dL_law_28 : decode cL_law 28 = .ok (.iaload, 1) := by decide +kernel
theorem dL_law_29 : decode cL_law 29 = .ok (.bipush 31, 2) := by decide +kernel
theorem dL_law_31 : decode cL_law 31 = .ok (.iand, 1) := by decide +kernel
theorem dL_law_32 : decode cL_law 32 = .ok (.tableswitch 590 0 21 #[104, 127, 160, 183, 206, 229, 242, 255, 288, 321, 354, 377, 400, 423, 436, 459, 482, 505, 518, 541, 554, 577], 104) := by decide +kernel
theorem dL_law_136 : decode cL_law 136 = .ok (.aload_n 1, 1) := by decide +kernel
theorem dL_law_137 : decode cL_law 137 = .ok (.aload_n 0, 1) := by decide +kernel
theorem dL_law_138 : decode cL_law 138 = .ok (.iload_n 3, 1) := by decide +kernel
theorem dL_law_139 : decode cL_law 139 = .ok (.iconst 1, 1) := by decide +kernel
theorem dL_law_140 : decode cL_law 140 = .ok (.iadd, 1) := by decide +kernel
theorem dL_law_141 : decode cL_law 141 = .ok (.iaload, 1) := by decide +kernel
theorem dL_law_142 : decode cL_law 142 = .ok (.invokevirtual 13, 3) := by decide +kernel
theorem dL_law_145 : decode cL_law 145 = .ok (.aload_n 2, 1) := by decide +kernel
theorem dL_law_146 : decode cL_law 146 = .ok (.aload_n 0, 1) := by decide +kernel
theorem dL_law_147 : decode cL_law 147 = .ok (.iload_n 3, 1) := by decide +kernel
theorem dL_law_148 : decode cL_law 148 = .ok (.iconst 1, 1) := by decide +kernel
theorem dL_law_149 : decode cL_law 149 = .ok (.iadd, 1) := by decide +kernel
theorem dL_law_150 : decode cL_law 150 = .ok (.iaload, 1) := by decide +kernel
theorem dL_law_151 : decode cL_law 151 = .ok (.invokevirtual 17, 3) := by decide +kernel
theorem dL_law_154 : decode cL_law 154 = .ok (.if_icmp .eq 468, 3) := by decide +kernel
theorem dL_law_157 : decode cL_law 157 = .ok (.iconst 0, 1) := by decide +kernel
theorem dL_law_158 : decode cL_law 158 = .ok (.ireturn, 1) := by decide +kernel
theorem dL_law_159 : decode cL_law 159 = .ok (.aload_n 1, 1) := by decide +kernel
theorem dL_law_160 : decode cL_law 160 = .ok (.aload_n 0, 1) := by decide +kernel
theorem dL_law_161 : decode cL_law 161 = .ok (.iload_n 3, 1) := by decide +kernel
theorem dL_law_162 : decode cL_law 162 = .ok (.iconst 1, 1) := by decide +kernel
theorem dL_law_163 : decode cL_law 163 = .ok (.iadd, 1) := by decide +kernel
theorem dL_law_164 : decode cL_law 164 = .ok (.iaload, 1) := by decide +kernel
theorem dL_law_165 : decode cL_law 165 = .ok (.aload_n 0, 1) := by decide +kernel
theorem dL_law_166 : decode cL_law 166 = .ok (.iload_n 3, 1) := by decide +kernel
theorem dL_law_167 : decode cL_law 167 = .ok (.iconst 2, 1) := by decide +kernel
theorem dL_law_168 : decode cL_law 168 = .ok (.iadd, 1) := by decide +kernel
theorem dL_law_169 : decode cL_law 169 = .ok (.iaload, 1) := by decide +kernel
theorem dL_law_170 : decode cL_law 170 = .ok (.invokevirtual 18, 3) := by decide +kernel
theorem dL_law_173 : decode cL_law 173 = .ok (.aload_n 2, 1) := by decide +kernel
theorem dL_law_174 : decode cL_law 174 = .ok (.aload_n 0, 1) := by decide +kernel
theorem dL_law_175 : decode cL_law 175 = .ok (.iload_n 3, 1) := by decide +kernel
theorem dL_law_176 : decode cL_law 176 = .ok (.iconst 1, 1) := by decide +kernel
theorem dL_law_177 : decode cL_law 177 = .ok (.iadd, 1) := by decide +kernel
theorem dL_law_178 : decode cL_law 178 = .ok (.iaload, 1) := by decide +kernel
theorem dL_law_179 : decode cL_law 179 = .ok (.aload_n 0, 1) := by decide +kernel
theorem dL_law_180 : decode cL_law 180 = .ok (.iload_n 3, 1) := by decide +kernel
theorem dL_law_181 : decode cL_law 181 = .ok (.iconst 2, 1) := by decide +kernel
theorem dL_law_182 : decode cL_law 182 = .ok (.iadd, 1) := by decide +kernel
theorem dL_law_183 : decode cL_law 183 = .ok (.iaload, 1) := by decide +kernel
theorem dL_law_184 : decode cL_law 184 = .ok (.invokevirtual 22, 3) := by decide +kernel
theorem dL_law_187 : decode cL_law 187 = .ok (.if_icmp .eq 435, 3) := by decide +kernel
theorem dL_law_190 : decode cL_law 190 = .ok (.iconst 0, 1) := by decide +kernel
theorem dL_law_191 : decode cL_law 191 = .ok (.ireturn, 1) := by decide +kernel
theorem dL_law_192 : decode cL_law 192 = .ok (.aload_n 1, 1) := by decide +kernel
theorem dL_law_193 : decode cL_law 193 = .ok (.aload_n 0, 1) := by decide +kernel
theorem dL_law_194 : decode cL_law 194 = .ok (.iload_n 3, 1) := by decide +kernel
theorem dL_law_195 : decode cL_law 195 = .ok (.iconst 1, 1) := by decide +kernel
theorem dL_law_196 : decode cL_law 196 = .ok (.iadd, 1) := by decide +kernel
theorem dL_law_197 : decode cL_law 197 = .ok (.iaload, 1) := by decide +kernel
theorem dL_law_198 : decode cL_law 198 = .ok (.invokevirtual 23, 3) := by decide +kernel
theorem dL_law_201 : decode cL_law 201 = .ok (.aload_n 2, 1) := by decide +kernel
theorem dL_law_202 : decode cL_law 202 = .ok (.aload_n 0, 1) := by decide +kernel
theorem dL_law_203 : decode cL_law 203 = .ok (.iload_n 3, 1) := by decide +kernel
theorem dL_law_204 : decode cL_law 204 = .ok (.iconst 1, 1) := by decide +kernel
theorem dL_law_205 : decode cL_law 205 = .ok (.iadd, 1) := by decide +kernel
theorem dL_law_206 : decode cL_law 206 = .ok (.iaload, 1) := by decide +kernel
theorem dL_law_207 : decode cL_law 207 = .ok (.invokevirtual 26, 3) := by decide +kernel
theorem dL_law_210 : decode cL_law 210 = .ok (.if_icmp .eq 412, 3) := by decide +kernel
theorem dL_law_213 : decode cL_law 213 = .ok (.iconst 0, 1) := by decide +kernel
theorem dL_law_214 : decode cL_law 214 = .ok (.ireturn, 1) := by decide +kernel
theorem dL_law_215 : decode cL_law 215 = .ok (.aload_n 1, 1) := by decide +kernel
theorem dL_law_216 : decode cL_law 216 = .ok (.aload_n 0, 1) := by decide +kernel
theorem dL_law_217 : decode cL_law 217 = .ok (.iload_n 3, 1) := by decide +kernel
theorem dL_law_218 : decode cL_law 218 = .ok (.iconst 1, 1) := by decide +kernel
theorem dL_law_219 : decode cL_law 219 = .ok (.iadd, 1) := by decide +kernel
theorem dL_law_220 : decode cL_law 220 = .ok (.iaload, 1) := by decide +kernel
theorem dL_law_221 : decode cL_law 221 = .ok (.invokevirtual 27, 3) := by decide +kernel
theorem dL_law_224 : decode cL_law 224 = .ok (.aload_n 2, 1) := by decide +kernel
theorem dL_law_225 : decode cL_law 225 = .ok (.aload_n 0, 1) := by decide +kernel
theorem dL_law_226 : decode cL_law 226 = .ok (.iload_n 3, 1) := by decide +kernel
theorem dL_law_227 : decode cL_law 227 = .ok (.iconst 1, 1) := by decide +kernel
theorem dL_law_228 : decode cL_law 228 = .ok (.iadd, 1) := by decide +kernel
theorem dL_law_229 : decode cL_law 229 = .ok (.iaload, 1) := by decide +kernel
theorem dL_law_230 : decode cL_law 230 = .ok (.invokevirtual 30, 3) := by decide +kernel
theorem dL_law_233 : decode cL_law 233 = .ok (.if_icmp .eq 389, 3) := by decide +kernel
theorem dL_law_236 : decode cL_law 236 = .ok (.iconst 0, 1) := by decide +kernel
theorem dL_law_237 : decode cL_law 237 = .ok (.ireturn, 1) := by decide +kernel
theorem dL_law_238 : decode cL_law 238 = .ok (.aload_n 1, 1) := by decide +kernel
theorem dL_law_239 : decode cL_law 239 = .ok (.aload_n 0, 1) := by decide +kernel
theorem dL_law_240 : decode cL_law 240 = .ok (.iload_n 3, 1) := by decide +kernel
theorem dL_law_241 : decode cL_law 241 = .ok (.iconst 1, 1) := by decide +kernel
theorem dL_law_242 : decode cL_law 242 = .ok (.iadd, 1) := by decide +kernel
theorem dL_law_243 : decode cL_law 243 = .ok (.iaload, 1) := by decide +kernel
theorem dL_law_244 : decode cL_law 244 = .ok (.invokevirtual 31, 3) := by decide +kernel
theorem dL_law_247 : decode cL_law 247 = .ok (.aload_n 2, 1) := by decide +kernel
theorem dL_law_248 : decode cL_law 248 = .ok (.aload_n 0, 1) := by decide +kernel
theorem dL_law_249 : decode cL_law 249 = .ok (.iload_n 3, 1) := by decide +kernel
theorem dL_law_250 : decode cL_law 250 = .ok (.iconst 1, 1) := by decide +kernel
theorem dL_law_251 : decode cL_law 251 = .ok (.iadd, 1) := by decide +kernel
theorem dL_law_252 : decode cL_law 252 = .ok (.iaload, 1) := by decide +kernel
theorem dL_law_253 : decode cL_law 253 = .ok (.invokevirtual 34, 3) := by decide +kernel
theorem dL_law_256 : decode cL_law 256 = .ok (.if_icmp .eq 366, 3) := by decide +kernel
theorem dL_law_259 : decode cL_law 259 = .ok (.iconst 0, 1) := by decide +kernel
theorem dL_law_260 : decode cL_law 260 = .ok (.ireturn, 1) := by decide +kernel
theorem dL_law_261 : decode cL_law 261 = .ok (.aload_n 1, 1) := by decide +kernel
theorem dL_law_262 : decode cL_law 262 = .ok (.invokevirtual 35, 3) := by decide +kernel
theorem dL_law_265 : decode cL_law 265 = .ok (.aload_n 2, 1) := by decide +kernel
theorem dL_law_266 : decode cL_law 266 = .ok (.invokevirtual 39, 3) := by decide +kernel
theorem dL_law_269 : decode cL_law 269 = .ok (.if_icmp .eq 353, 3) := by decide +kernel
theorem dL_law_272 : decode cL_law 272 = .ok (.iconst 0, 1) := by decide +kernel
theorem dL_law_273 : decode cL_law 273 = .ok (.ireturn, 1) := by decide +kernel
theorem dL_law_274 : decode cL_law 274 = .ok (.aload_n 1, 1) := by decide +kernel
theorem dL_law_275 : decode cL_law 275 = .ok (.invokevirtual 40, 3) := by decide +kernel
theorem dL_law_278 : decode cL_law 278 = .ok (.aload_n 2, 1) := by decide +kernel
theorem dL_law_279 : decode cL_law 279 = .ok (.invokevirtual 43, 3) := by decide +kernel
theorem dL_law_282 : decode cL_law 282 = .ok (.if_icmp .eq 340, 3) := by decide +kernel
theorem dL_law_285 : decode cL_law 285 = .ok (.iconst 0, 1) := by decide +kernel
theorem dL_law_286 : decode cL_law 286 = .ok (.ireturn, 1) := by decide +kernel
theorem dL_law_287 : decode cL_law 287 = .ok (.aload_n 1, 1) := by decide +kernel
theorem dL_law_288 : decode cL_law 288 = .ok (.aload_n 0, 1) := by decide +kernel
theorem dL_law_289 : decode cL_law 289 = .ok (.iload_n 3, 1) := by decide +kernel
theorem dL_law_290 : decode cL_law 290 = .ok (.iconst 1, 1) := by decide +kernel
theorem dL_law_291 : decode cL_law 291 = .ok (.iadd, 1) := by decide +kernel
theorem dL_law_292 : decode cL_law 292 = .ok (.iaload, 1) := by decide +kernel
theorem dL_law_293 : decode cL_law 293 = .ok (.aload_n 0, 1) := by decide +kernel
theorem dL_law_294 : decode cL_law 294 = .ok (.iload_n 3, 1) := by decide +kernel
theorem dL_law_295 : decode cL_law 295 = .ok (.iconst 2, 1) := by decide +kernel
theorem dL_law_296 : decode cL_law 296 = .ok (.iadd, 1) := by decide +kernel
theorem dL_law_297 : decode cL_law 297 = .ok (.iaload, 1) := by decide +kernel
theorem dL_law_298 : decode cL_law 298 = .ok (.invokevirtual 44, 3) := by decide +kernel
theorem dL_law_301 : decode cL_law 301 = .ok (.aload_n 2, 1) := by decide +kernel
theorem dL_law_302 : decode cL_law 302 = .ok (.aload_n 0, 1) := by decide +kernel
theorem dL_law_303 : decode cL_law 303 = .ok (.iload_n 3, 1) := by decide +kernel
theorem dL_law_304 : decode cL_law 304 = .ok (.iconst 1, 1) := by decide +kernel
theorem dL_law_305 : decode cL_law 305 = .ok (.iadd, 1) := by decide +kernel
theorem dL_law_306 : decode cL_law 306 = .ok (.iaload, 1) := by decide +kernel
theorem dL_law_307 : decode cL_law 307 = .ok (.aload_n 0, 1) := by decide +kernel
theorem dL_law_308 : decode cL_law 308 = .ok (.iload_n 3, 1) := by decide +kernel
theorem dL_law_309 : decode cL_law 309 = .ok (.iconst 2, 1) := by decide +kernel
theorem dL_law_310 : decode cL_law 310 = .ok (.iadd, 1) := by decide +kernel
theorem dL_law_311 : decode cL_law 311 = .ok (.iaload, 1) := by decide +kernel
theorem dL_law_312 : decode cL_law 312 = .ok (.invokevirtual 47, 3) := by decide +kernel
theorem dL_law_315 : decode cL_law 315 = .ok (.if_icmp .eq 307, 3) := by decide +kernel
theorem dL_law_318 : decode cL_law 318 = .ok (.iconst 0, 1) := by decide +kernel
theorem dL_law_319 : decode cL_law 319 = .ok (.ireturn, 1) := by decide +kernel
theorem dL_law_320 : decode cL_law 320 = .ok (.aload_n 1, 1) := by decide +kernel
theorem dL_law_321 : decode cL_law 321 = .ok (.aload_n 0, 1) := by decide +kernel
theorem dL_law_322 : decode cL_law 322 = .ok (.iload_n 3, 1) := by decide +kernel
theorem dL_law_323 : decode cL_law 323 = .ok (.iconst 1, 1) := by decide +kernel
theorem dL_law_324 : decode cL_law 324 = .ok (.iadd, 1) := by decide +kernel
theorem dL_law_325 : decode cL_law 325 = .ok (.iaload, 1) := by decide +kernel
theorem dL_law_326 : decode cL_law 326 = .ok (.aload_n 0, 1) := by decide +kernel
theorem dL_law_327 : decode cL_law 327 = .ok (.iload_n 3, 1) := by decide +kernel
theorem dL_law_328 : decode cL_law 328 = .ok (.iconst 2, 1) := by decide +kernel
theorem dL_law_329 : decode cL_law 329 = .ok (.iadd, 1) := by decide +kernel
theorem dL_law_330 : decode cL_law 330 = .ok (.iaload, 1) := by decide +kernel
theorem dL_law_331 : decode cL_law 331 = .ok (.invokevirtual 48, 3) := by decide +kernel
theorem dL_law_334 : decode cL_law 334 = .ok (.aload_n 2, 1) := by decide +kernel
theorem dL_law_335 : decode cL_law 335 = .ok (.aload_n 0, 1) := by decide +kernel
theorem dL_law_336 : decode cL_law 336 = .ok (.iload_n 3, 1) := by decide +kernel
theorem dL_law_337 : decode cL_law 337 = .ok (.iconst 1, 1) := by decide +kernel
theorem dL_law_338 : decode cL_law 338 = .ok (.iadd, 1) := by decide +kernel
theorem dL_law_339 : decode cL_law 339 = .ok (.iaload, 1) := by decide +kernel
theorem dL_law_340 : decode cL_law 340 = .ok (.aload_n 0, 1) := by decide +kernel
theorem dL_law_341 : decode cL_law 341 = .ok (.iload_n 3, 1) := by decide +kernel
theorem dL_law_342 : decode cL_law 342 = .ok (.iconst 2, 1) := by decide +kernel
theorem dL_law_343 : decode cL_law 343 = .ok (.iadd, 1) := by decide +kernel
theorem dL_law_344 : decode cL_law 344 = .ok (.iaload, 1) := by decide +kernel
theorem dL_law_345 : decode cL_law 345 = .ok (.invokevirtual 51, 3) := by decide +kernel
theorem dL_law_348 : decode cL_law 348 = .ok (.if_icmp .eq 274, 3) := by decide +kernel
theorem dL_law_351 : decode cL_law 351 = .ok (.iconst 0, 1) := by decide +kernel
theorem dL_law_352 : decode cL_law 352 = .ok (.ireturn, 1) := by decide +kernel
theorem dL_law_353 : decode cL_law 353 = .ok (.aload_n 1, 1) := by decide +kernel
theorem dL_law_354 : decode cL_law 354 = .ok (.aload_n 0, 1) := by decide +kernel
theorem dL_law_355 : decode cL_law 355 = .ok (.iload_n 3, 1) := by decide +kernel
theorem dL_law_356 : decode cL_law 356 = .ok (.iconst 1, 1) := by decide +kernel
theorem dL_law_357 : decode cL_law 357 = .ok (.iadd, 1) := by decide +kernel
theorem dL_law_358 : decode cL_law 358 = .ok (.iaload, 1) := by decide +kernel
theorem dL_law_359 : decode cL_law 359 = .ok (.aload_n 0, 1) := by decide +kernel
theorem dL_law_360 : decode cL_law 360 = .ok (.iload_n 3, 1) := by decide +kernel
theorem dL_law_361 : decode cL_law 361 = .ok (.iconst 2, 1) := by decide +kernel
theorem dL_law_362 : decode cL_law 362 = .ok (.iadd, 1) := by decide +kernel
theorem dL_law_363 : decode cL_law 363 = .ok (.iaload, 1) := by decide +kernel
theorem dL_law_364 : decode cL_law 364 = .ok (.invokevirtual 52, 3) := by decide +kernel
theorem dL_law_367 : decode cL_law 367 = .ok (.aload_n 2, 1) := by decide +kernel
theorem dL_law_368 : decode cL_law 368 = .ok (.aload_n 0, 1) := by decide +kernel
theorem dL_law_369 : decode cL_law 369 = .ok (.iload_n 3, 1) := by decide +kernel
theorem dL_law_370 : decode cL_law 370 = .ok (.iconst 1, 1) := by decide +kernel
theorem dL_law_371 : decode cL_law 371 = .ok (.iadd, 1) := by decide +kernel
theorem dL_law_372 : decode cL_law 372 = .ok (.iaload, 1) := by decide +kernel
theorem dL_law_373 : decode cL_law 373 = .ok (.aload_n 0, 1) := by decide +kernel
theorem dL_law_374 : decode cL_law 374 = .ok (.iload_n 3, 1) := by decide +kernel
theorem dL_law_375 : decode cL_law 375 = .ok (.iconst 2, 1) := by decide +kernel
theorem dL_law_376 : decode cL_law 376 = .ok (.iadd, 1) := by decide +kernel
theorem dL_law_377 : decode cL_law 377 = .ok (.iaload, 1) := by decide +kernel
theorem dL_law_378 : decode cL_law 378 = .ok (.invokevirtual 55, 3) := by decide +kernel
theorem dL_law_381 : decode cL_law 381 = .ok (.if_icmp .eq 241, 3) := by decide +kernel
theorem dL_law_384 : decode cL_law 384 = .ok (.iconst 0, 1) := by decide +kernel
theorem dL_law_385 : decode cL_law 385 = .ok (.ireturn, 1) := by decide +kernel
theorem dL_law_386 : decode cL_law 386 = .ok (.aload_n 1, 1) := by decide +kernel
theorem dL_law_387 : decode cL_law 387 = .ok (.aload_n 0, 1) := by decide +kernel
theorem dL_law_388 : decode cL_law 388 = .ok (.iload_n 3, 1) := by decide +kernel
theorem dL_law_389 : decode cL_law 389 = .ok (.iconst 1, 1) := by decide +kernel
theorem dL_law_390 : decode cL_law 390 = .ok (.iadd, 1) := by decide +kernel
theorem dL_law_391 : decode cL_law 391 = .ok (.iaload, 1) := by decide +kernel
theorem dL_law_392 : decode cL_law 392 = .ok (.invokevirtual 56, 3) := by decide +kernel
theorem dL_law_395 : decode cL_law 395 = .ok (.aload_n 2, 1) := by decide +kernel
theorem dL_law_396 : decode cL_law 396 = .ok (.aload_n 0, 1) := by decide +kernel
theorem dL_law_397 : decode cL_law 397 = .ok (.iload_n 3, 1) := by decide +kernel
theorem dL_law_398 : decode cL_law 398 = .ok (.iconst 1, 1) := by decide +kernel
theorem dL_law_399 : decode cL_law 399 = .ok (.iadd, 1) := by decide +kernel
theorem dL_law_400 : decode cL_law 400 = .ok (.iaload, 1) := by decide +kernel
theorem dL_law_401 : decode cL_law 401 = .ok (.invokevirtual 59, 3) := by decide +kernel
theorem dL_law_404 : decode cL_law 404 = .ok (.if_icmp .eq 218, 3) := by decide +kernel
theorem dL_law_407 : decode cL_law 407 = .ok (.iconst 0, 1) := by decide +kernel
theorem dL_law_408 : decode cL_law 408 = .ok (.ireturn, 1) := by decide +kernel
theorem dL_law_409 : decode cL_law 409 = .ok (.aload_n 1, 1) := by decide +kernel
theorem dL_law_410 : decode cL_law 410 = .ok (.aload_n 0, 1) := by decide +kernel
theorem dL_law_411 : decode cL_law 411 = .ok (.iload_n 3, 1) := by decide +kernel
theorem dL_law_412 : decode cL_law 412 = .ok (.iconst 1, 1) := by decide +kernel
theorem dL_law_413 : decode cL_law 413 = .ok (.iadd, 1) := by decide +kernel
theorem dL_law_414 : decode cL_law 414 = .ok (.iaload, 1) := by decide +kernel
theorem dL_law_415 : decode cL_law 415 = .ok (.invokevirtual 60, 3) := by decide +kernel
theorem dL_law_418 : decode cL_law 418 = .ok (.aload_n 2, 1) := by decide +kernel
theorem dL_law_419 : decode cL_law 419 = .ok (.aload_n 0, 1) := by decide +kernel
theorem dL_law_420 : decode cL_law 420 = .ok (.iload_n 3, 1) := by decide +kernel
theorem dL_law_421 : decode cL_law 421 = .ok (.iconst 1, 1) := by decide +kernel
theorem dL_law_422 : decode cL_law 422 = .ok (.iadd, 1) := by decide +kernel
theorem dL_law_423 : decode cL_law 423 = .ok (.iaload, 1) := by decide +kernel
theorem dL_law_424 : decode cL_law 424 = .ok (.invokevirtual 63, 3) := by decide +kernel
theorem dL_law_427 : decode cL_law 427 = .ok (.if_icmp .eq 195, 3) := by decide +kernel
theorem dL_law_430 : decode cL_law 430 = .ok (.iconst 0, 1) := by decide +kernel
theorem dL_law_431 : decode cL_law 431 = .ok (.ireturn, 1) := by decide +kernel
theorem dL_law_432 : decode cL_law 432 = .ok (.aload_n 1, 1) := by decide +kernel
theorem dL_law_433 : decode cL_law 433 = .ok (.aload_n 0, 1) := by decide +kernel
theorem dL_law_434 : decode cL_law 434 = .ok (.iload_n 3, 1) := by decide +kernel
theorem dL_law_435 : decode cL_law 435 = .ok (.iconst 1, 1) := by decide +kernel
theorem dL_law_436 : decode cL_law 436 = .ok (.iadd, 1) := by decide +kernel
theorem dL_law_437 : decode cL_law 437 = .ok (.iaload, 1) := by decide +kernel
theorem dL_law_438 : decode cL_law 438 = .ok (.invokevirtual 64, 3) := by decide +kernel
theorem dL_law_441 : decode cL_law 441 = .ok (.aload_n 2, 1) := by decide +kernel
theorem dL_law_442 : decode cL_law 442 = .ok (.aload_n 0, 1) := by decide +kernel
theorem dL_law_443 : decode cL_law 443 = .ok (.iload_n 3, 1) := by decide +kernel
theorem dL_law_444 : decode cL_law 444 = .ok (.iconst 1, 1) := by decide +kernel
theorem dL_law_445 : decode cL_law 445 = .ok (.iadd, 1) := by decide +kernel
theorem dL_law_446 : decode cL_law 446 = .ok (.iaload, 1) := by decide +kernel
theorem dL_law_447 : decode cL_law 447 = .ok (.invokevirtual 67, 3) := by decide +kernel
theorem dL_law_450 : decode cL_law 450 = .ok (.if_icmp .eq 172, 3) := by decide +kernel
theorem dL_law_453 : decode cL_law 453 = .ok (.iconst 0, 1) := by decide +kernel
theorem dL_law_454 : decode cL_law 454 = .ok (.ireturn, 1) := by decide +kernel
theorem dL_law_455 : decode cL_law 455 = .ok (.aload_n 1, 1) := by decide +kernel
theorem dL_law_456 : decode cL_law 456 = .ok (.invokevirtual 68, 3) := by decide +kernel
theorem dL_law_459 : decode cL_law 459 = .ok (.aload_n 2, 1) := by decide +kernel
theorem dL_law_460 : decode cL_law 460 = .ok (.invokevirtual 71, 3) := by decide +kernel
theorem dL_law_463 : decode cL_law 463 = .ok (.if_icmp .eq 159, 3) := by decide +kernel
theorem dL_law_466 : decode cL_law 466 = .ok (.iconst 0, 1) := by decide +kernel
theorem dL_law_467 : decode cL_law 467 = .ok (.ireturn, 1) := by decide +kernel
theorem dL_law_468 : decode cL_law 468 = .ok (.aload_n 1, 1) := by decide +kernel
theorem dL_law_469 : decode cL_law 469 = .ok (.aload_n 0, 1) := by decide +kernel
theorem dL_law_470 : decode cL_law 470 = .ok (.iload_n 3, 1) := by decide +kernel
theorem dL_law_471 : decode cL_law 471 = .ok (.iconst 1, 1) := by decide +kernel
theorem dL_law_472 : decode cL_law 472 = .ok (.iadd, 1) := by decide +kernel
theorem dL_law_473 : decode cL_law 473 = .ok (.iaload, 1) := by decide +kernel
theorem dL_law_474 : decode cL_law 474 = .ok (.invokevirtual 72, 3) := by decide +kernel
theorem dL_law_477 : decode cL_law 477 = .ok (.aload_n 2, 1) := by decide +kernel
theorem dL_law_478 : decode cL_law 478 = .ok (.aload_n 0, 1) := by decide +kernel
theorem dL_law_479 : decode cL_law 479 = .ok (.iload_n 3, 1) := by decide +kernel
theorem dL_law_480 : decode cL_law 480 = .ok (.iconst 1, 1) := by decide +kernel
theorem dL_law_481 : decode cL_law 481 = .ok (.iadd, 1) := by decide +kernel
theorem dL_law_482 : decode cL_law 482 = .ok (.iaload, 1) := by decide +kernel
theorem dL_law_483 : decode cL_law 483 = .ok (.invokevirtual 75, 3) := by decide +kernel
theorem dL_law_486 : decode cL_law 486 = .ok (.if_icmp .eq 136, 3) := by decide +kernel
theorem dL_law_489 : decode cL_law 489 = .ok (.iconst 0, 1) := by decide +kernel
theorem dL_law_490 : decode cL_law 490 = .ok (.ireturn, 1) := by decide +kernel
theorem dL_law_491 : decode cL_law 491 = .ok (.aload_n 1, 1) := by decide +kernel
theorem dL_law_492 : decode cL_law 492 = .ok (.aload_n 0, 1) := by decide +kernel
theorem dL_law_493 : decode cL_law 493 = .ok (.iload_n 3, 1) := by decide +kernel
theorem dL_law_494 : decode cL_law 494 = .ok (.iconst 1, 1) := by decide +kernel
theorem dL_law_495 : decode cL_law 495 = .ok (.iadd, 1) := by decide +kernel
theorem dL_law_496 : decode cL_law 496 = .ok (.iaload, 1) := by decide +kernel
theorem dL_law_497 : decode cL_law 497 = .ok (.invokevirtual 76, 3) := by decide +kernel
theorem dL_law_500 : decode cL_law 500 = .ok (.aload_n 2, 1) := by decide +kernel
theorem dL_law_501 : decode cL_law 501 = .ok (.aload_n 0, 1) := by decide +kernel
theorem dL_law_502 : decode cL_law 502 = .ok (.iload_n 3, 1) := by decide +kernel
theorem dL_law_503 : decode cL_law 503 = .ok (.iconst 1, 1) := by decide +kernel
theorem dL_law_504 : decode cL_law 504 = .ok (.iadd, 1) := by decide +kernel
theorem dL_law_505 : decode cL_law 505 = .ok (.iaload, 1) := by decide +kernel
theorem dL_law_506 : decode cL_law 506 = .ok (.invokevirtual 79, 3) := by decide +kernel
theorem dL_law_509 : decode cL_law 509 = .ok (.if_icmp .eq 113, 3) := by decide +kernel
theorem dL_law_512 : decode cL_law 512 = .ok (.iconst 0, 1) := by decide +kernel
theorem dL_law_513 : decode cL_law 513 = .ok (.ireturn, 1) := by decide +kernel
theorem dL_law_514 : decode cL_law 514 = .ok (.aload_n 1, 1) := by decide +kernel
theorem dL_law_515 : decode cL_law 515 = .ok (.aload_n 0, 1) := by decide +kernel
theorem dL_law_516 : decode cL_law 516 = .ok (.iload_n 3, 1) := by decide +kernel
theorem dL_law_517 : decode cL_law 517 = .ok (.iconst 1, 1) := by decide +kernel
theorem dL_law_518 : decode cL_law 518 = .ok (.iadd, 1) := by decide +kernel
theorem dL_law_519 : decode cL_law 519 = .ok (.iaload, 1) := by decide +kernel
theorem dL_law_520 : decode cL_law 520 = .ok (.invokevirtual 80, 3) := by decide +kernel
theorem dL_law_523 : decode cL_law 523 = .ok (.aload_n 2, 1) := by decide +kernel
theorem dL_law_524 : decode cL_law 524 = .ok (.aload_n 0, 1) := by decide +kernel
theorem dL_law_525 : decode cL_law 525 = .ok (.iload_n 3, 1) := by decide +kernel
theorem dL_law_526 : decode cL_law 526 = .ok (.iconst 1, 1) := by decide +kernel
theorem dL_law_527 : decode cL_law 527 = .ok (.iadd, 1) := by decide +kernel
theorem dL_law_528 : decode cL_law 528 = .ok (.iaload, 1) := by decide +kernel
theorem dL_law_529 : decode cL_law 529 = .ok (.invokevirtual 83, 3) := by decide +kernel
theorem dL_law_532 : decode cL_law 532 = .ok (.if_icmp .eq 90, 3) := by decide +kernel
theorem dL_law_535 : decode cL_law 535 = .ok (.iconst 0, 1) := by decide +kernel
theorem dL_law_536 : decode cL_law 536 = .ok (.ireturn, 1) := by decide +kernel
theorem dL_law_537 : decode cL_law 537 = .ok (.aload_n 1, 1) := by decide +kernel
theorem dL_law_538 : decode cL_law 538 = .ok (.invokevirtual 84, 3) := by decide +kernel
theorem dL_law_541 : decode cL_law 541 = .ok (.aload_n 2, 1) := by decide +kernel
theorem dL_law_542 : decode cL_law 542 = .ok (.invokevirtual 87, 3) := by decide +kernel
theorem dL_law_545 : decode cL_law 545 = .ok (.if_icmp .eq 77, 3) := by decide +kernel
theorem dL_law_548 : decode cL_law 548 = .ok (.iconst 0, 1) := by decide +kernel
theorem dL_law_549 : decode cL_law 549 = .ok (.ireturn, 1) := by decide +kernel
theorem dL_law_550 : decode cL_law 550 = .ok (.aload_n 1, 1) := by decide +kernel
theorem dL_law_551 : decode cL_law 551 = .ok (.aload_n 0, 1) := by decide +kernel
theorem dL_law_552 : decode cL_law 552 = .ok (.iload_n 3, 1) := by decide +kernel
theorem dL_law_553 : decode cL_law 553 = .ok (.iconst 1, 1) := by decide +kernel
theorem dL_law_554 : decode cL_law 554 = .ok (.iadd, 1) := by decide +kernel
theorem dL_law_555 : decode cL_law 555 = .ok (.iaload, 1) := by decide +kernel
theorem dL_law_556 : decode cL_law 556 = .ok (.invokevirtual 88, 3) := by decide +kernel
theorem dL_law_559 : decode cL_law 559 = .ok (.aload_n 2, 1) := by decide +kernel
theorem dL_law_560 : decode cL_law 560 = .ok (.aload_n 0, 1) := by decide +kernel
theorem dL_law_561 : decode cL_law 561 = .ok (.iload_n 3, 1) := by decide +kernel
theorem dL_law_562 : decode cL_law 562 = .ok (.iconst 1, 1) := by decide +kernel
theorem dL_law_563 : decode cL_law 563 = .ok (.iadd, 1) := by decide +kernel
theorem dL_law_564 : decode cL_law 564 = .ok (.iaload, 1) := by decide +kernel
theorem dL_law_565 : decode cL_law 565 = .ok (.invokevirtual 91, 3) := by decide +kernel
theorem dL_law_568 : decode cL_law 568 = .ok (.if_icmp .eq 54, 3) := by decide +kernel
theorem dL_law_571 : decode cL_law 571 = .ok (.iconst 0, 1) := by decide +kernel
theorem dL_law_572 : decode cL_law 572 = .ok (.ireturn, 1) := by decide +kernel
theorem dL_law_573 : decode cL_law 573 = .ok (.aload_n 1, 1) := by decide +kernel
theorem dL_law_574 : decode cL_law 574 = .ok (.invokevirtual 92, 3) := by decide +kernel
theorem dL_law_577 : decode cL_law 577 = .ok (.aload_n 2, 1) := by decide +kernel
theorem dL_law_578 : decode cL_law 578 = .ok (.invokevirtual 95, 3) := by decide +kernel
theorem dL_law_581 : decode cL_law 581 = .ok (.if_icmp .eq 41, 3) := by decide +kernel
theorem dL_law_584 : decode cL_law 584 = .ok (.iconst 0, 1) := by decide +kernel
theorem dL_law_585 : decode cL_law 585 = .ok (.ireturn, 1) := by decide +kernel
theorem dL_law_586 : decode cL_law 586 = .ok (.aload_n 1, 1) := by decide +kernel
theorem dL_law_587 : decode cL_law 587 = .ok (.aload_n 0, 1) := by decide +kernel
theorem dL_law_588 : decode cL_law 588 = .ok (.iload_n 3, 1) := by decide +kernel
theorem dL_law_589 : decode cL_law 589 = .ok (.iconst 1, 1) := by decide +kernel
theorem dL_law_590 : decode cL_law 590 = .ok (.iadd, 1) := by decide +kernel
theorem dL_law_591 : decode cL_law 591 = .ok (.iaload, 1) := by decide +kernel
theorem dL_law_592 : decode cL_law 592 = .ok (.invokevirtual 96, 3) := by decide +kernel
theorem dL_law_595 : decode cL_law 595 = .ok (.aload_n 2, 1) := by decide +kernel
theorem dL_law_596 : decode cL_law 596 = .ok (.aload_n 0, 1) := by decide +kernel
theorem dL_law_597 : decode cL_law 597 = .ok (.iload_n 3, 1) := by decide +kernel
theorem dL_law_598 : decode cL_law 598 = .ok (.iconst 1, 1) := by decide +kernel
theorem dL_law_599 : decode cL_law 599 = .ok (.iadd, 1) := by decide +kernel
theorem dL_law_600 : decode cL_law 600 = .ok (.iaload, 1) := by decide +kernel
theorem dL_law_601 : decode cL_law 601 = .ok (.invokevirtual 99, 3) := by decide +kernel
theorem dL_law_604 : decode cL_law 604 = .ok (.if_icmp .eq 18, 3) := by decide +kernel
theorem dL_law_607 : decode cL_law 607 = .ok (.iconst 0, 1) := by decide +kernel
theorem dL_law_608 : decode cL_law 608 = .ok (.ireturn, 1) := by decide +kernel
theorem dL_law_609 : decode cL_law 609 = .ok (.aload_n 1, 1) := by decide +kernel
theorem dL_law_610 : decode cL_law 610 = .ok (.invokevirtual 100, 3) := by decide +kernel
theorem dL_law_613 : decode cL_law 613 = .ok (.aload_n 2, 1) := by decide +kernel
theorem dL_law_614 : decode cL_law 614 = .ok (.invokevirtual 103, 3) := by decide +kernel
theorem dL_law_617 : decode cL_law 617 = .ok (.if_icmp .eq 5, 3) := by decide +kernel
theorem dL_law_620 : decode cL_law 620 = .ok (.iconst 0, 1) := by decide +kernel
theorem dL_law_621 : decode cL_law 621 = .ok (.ireturn, 1) := by decide +kernel
theorem dL_law_622 : decode cL_law 622 = .ok (.iinc 3 3, 3) := by decide +kernel
theorem dL_law_625 : decode cL_law 625 = .ok (.goto (-607), 3) := by decide +kernel
theorem dL_law_628 : decode cL_law 628 = .ok (.iconst 1, 1) := by decide +kernel
theorem dL_law_629 : decode cL_law 629 = .ok (.ireturn, 1) := by decide +kernel
abbrev vwCl : List vw_C := [(RX0, TX0, 7), (RX1, TX1, 2), (RX2, TX2, 7), (RX3, TX3, 3), (RX4, TX4, 17), (RX5, TX5, 2), (RX6, TX6, 5), (RX7, TX7, 14)]
end
