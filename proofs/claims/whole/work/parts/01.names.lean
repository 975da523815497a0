-- ===== PART A: goes FIRST, ahead of the names: the tables' words, and 'selects' of the private methods out of them =====
/-- a private method of a class that the tables say can be made, by its rows of tables_1 -/
def lw_okq (q : MethodName × Nat) : Prop := (q.1.cls ≠ "java/lang/invoke/MethodHandle" ∧ q.1.cls ≠ "java/lang/invoke/VarHandle") ∧ Cond.instantiable q.1.cls q.2 ∈ tables_1 ∧ Cond.privateMethod q.1 ∈ tables_1 ∧ Cond.instanceMethod q.1 ∈ tables_1
theorem lw_p0 : lw_okq (⟨"ClueLeave", "found", "(I)I"⟩, 9) := ⟨⟨by decide +kernel, by decide +kernel⟩, List.mem_of_getElem? (i := 14) (by decide +kernel), List.mem_of_getElem? (i := 220) (by decide +kernel), List.mem_of_getElem? (i := 221) (by decide +kernel)⟩
theorem lw_p1 : lw_okq (⟨"ClueLeave", "sound", "(I)I"⟩, 9) := ⟨⟨by decide +kernel, by decide +kernel⟩, List.mem_of_getElem? (i := 14) (by decide +kernel), List.mem_of_getElem? (i := 229) (by decide +kernel), List.mem_of_getElem? (i := 230) (by decide +kernel)⟩
theorem lw_p2 : lw_okq (⟨"ClueLeave$Tape", "readLaw", "(LClueLeave$City;)Z"⟩, 5) := ⟨⟨by decide +kernel, by decide +kernel⟩, List.mem_of_getElem? (i := 44) (by decide +kernel), List.mem_of_getElem? (i := 300) (by decide +kernel), List.mem_of_getElem? (i := 301) (by decide +kernel)⟩
theorem lw_p3 : lw_okq (⟨"ClueLeave$Tape", "take", "(I)Z"⟩, 5) := ⟨⟨by decide +kernel, by decide +kernel⟩, List.mem_of_getElem? (i := 44) (by decide +kernel), List.mem_of_getElem? (i := 304) (by decide +kernel), List.mem_of_getElem? (i := 305) (by decide +kernel)⟩
theorem lw_p4 : lw_okq (⟨"ClueLeave$Tape", "blame", "(I)Z"⟩, 5) := ⟨⟨by decide +kernel, by decide +kernel⟩, List.mem_of_getElem? (i := 44) (by decide +kernel), List.mem_of_getElem? (i := 308) (by decide +kernel), List.mem_of_getElem? (i := 309) (by decide +kernel)⟩
theorem lw_p5 : lw_okq (⟨"ClueLeave$Tape", "takeNumber", "(II)I"⟩, 5) := ⟨⟨by decide +kernel, by decide +kernel⟩, List.mem_of_getElem? (i := 44) (by decide +kernel), List.mem_of_getElem? (i := 312) (by decide +kernel), List.mem_of_getElem? (i := 313) (by decide +kernel)⟩
theorem lw_p6 : lw_okq (⟨"ClueLeave$Tape", "readClues", "(LClueLeave$City;)V"⟩, 5) := ⟨⟨by decide +kernel, by decide +kernel⟩, List.mem_of_getElem? (i := 44) (by decide +kernel), List.mem_of_getElem? (i := 317) (by decide +kernel), List.mem_of_getElem? (i := 318) (by decide +kernel)⟩
theorem lw_p7 : lw_okq (⟨"ClueLeave$Tape", "readClue", "(LClueLeave$City;)Z"⟩, 5) := ⟨⟨by decide +kernel, by decide +kernel⟩, List.mem_of_getElem? (i := 44) (by decide +kernel), List.mem_of_getElem? (i := 321) (by decide +kernel), List.mem_of_getElem? (i := 322) (by decide +kernel)⟩
theorem lw_p8 : lw_okq (⟨"ClueLeave$RotaSearch", "fillSpares", "(LClueLeave$City;I)V"⟩, 4) := ⟨⟨by decide +kernel, by decide +kernel⟩, List.mem_of_getElem? (i := 88) (by decide +kernel), List.mem_of_getElem? (i := 465) (by decide +kernel), List.mem_of_getElem? (i := 466) (by decide +kernel)⟩
theorem lw_p9 : lw_okq (⟨"ClueLeave$RotaSearch", "narrow", "(LClueLeave$City;I)V"⟩, 4) := ⟨⟨by decide +kernel, by decide +kernel⟩, List.mem_of_getElem? (i := 88) (by decide +kernel), List.mem_of_getElem? (i := 476) (by decide +kernel), List.mem_of_getElem? (i := 477) (by decide +kernel)⟩
theorem lw_p10 : lw_okq (⟨"ClueLeave$RotaSearch", "sureDays", "(LClueLeave$City;)I"⟩, 4) := ⟨⟨by decide +kernel, by decide +kernel⟩, List.mem_of_getElem? (i := 88) (by decide +kernel), List.mem_of_getElem? (i := 480) (by decide +kernel), List.mem_of_getElem? (i := 481) (by decide +kernel)⟩
theorem lw_p11 : lw_okq (⟨"ClueLeave", "isAsTold", "(LClueLeave$City;III)Z"⟩, 9) := ⟨⟨by decide +kernel, by decide +kernel⟩, List.mem_of_getElem? (i := 14) (by decide +kernel), List.mem_of_getElem? (i := 524) (by decide +kernel), List.mem_of_getElem? (i := 525) (by decide +kernel)⟩
theorem lw_p12 : lw_okq (⟨"ClueLeave$Asks", "begin", "(LClueLeave$City;III)I"⟩, 2) := ⟨⟨by decide +kernel, by decide +kernel⟩, List.mem_of_getElem? (i := 108) (by decide +kernel), List.mem_of_getElem? (i := 588) (by decide +kernel), List.mem_of_getElem? (i := 589) (by decide +kernel)⟩
theorem lw_p13 : lw_okq (⟨"ClueLeave$Asks", "give", "(LClueLeave$City;III)I"⟩, 2) := ⟨⟨by decide +kernel, by decide +kernel⟩, List.mem_of_getElem? (i := 108) (by decide +kernel), List.mem_of_getElem? (i := 596) (by decide +kernel), List.mem_of_getElem? (i := 597) (by decide +kernel)⟩
theorem lw_p14 : lw_okq (⟨"ClueLeave$Asks", "leave", "(I)V"⟩, 2) := ⟨⟨by decide +kernel, by decide +kernel⟩, List.mem_of_getElem? (i := 108) (by decide +kernel), List.mem_of_getElem? (i := 600) (by decide +kernel), List.mem_of_getElem? (i := 601) (by decide +kernel)⟩
theorem lw_p15 : lw_okq (⟨"ClueLeaveModel", "found", "(I)I"⟩, 23) := ⟨⟨by decide +kernel, by decide +kernel⟩, List.mem_of_getElem? (i := 630) (by decide +kernel), List.mem_of_getElem? (i := 719) (by decide +kernel), List.mem_of_getElem? (i := 720) (by decide +kernel)⟩
def lw_privs_1 : List (MethodName × Nat) := [(⟨"ClueLeave", "found", "(I)I"⟩, 9), (⟨"ClueLeave", "sound", "(I)I"⟩, 9), (⟨"ClueLeave$Tape", "readLaw", "(LClueLeave$City;)Z"⟩, 5), (⟨"ClueLeave$Tape", "take", "(I)Z"⟩, 5), (⟨"ClueLeave$Tape", "blame", "(I)Z"⟩, 5), (⟨"ClueLeave$Tape", "takeNumber", "(II)I"⟩, 5), (⟨"ClueLeave$Tape", "readClues", "(LClueLeave$City;)V"⟩, 5), (⟨"ClueLeave$Tape", "readClue", "(LClueLeave$City;)Z"⟩, 5), (⟨"ClueLeave$RotaSearch", "fillSpares", "(LClueLeave$City;I)V"⟩, 4), (⟨"ClueLeave$RotaSearch", "narrow", "(LClueLeave$City;I)V"⟩, 4), (⟨"ClueLeave$RotaSearch", "sureDays", "(LClueLeave$City;)I"⟩, 4), (⟨"ClueLeave", "isAsTold", "(LClueLeave$City;III)Z"⟩, 9), (⟨"ClueLeave$Asks", "begin", "(LClueLeave$City;III)I"⟩, 2), (⟨"ClueLeave$Asks", "give", "(LClueLeave$City;III)I"⟩, 2), (⟨"ClueLeave$Asks", "leave", "(I)V"⟩, 2), (⟨"ClueLeaveModel", "found", "(I)I"⟩, 23)]
theorem lw_r1 : ∀ q ∈ lw_privs_1, lw_okq q := List.forall_mem_cons.mpr ⟨lw_p0, List.forall_mem_cons.mpr ⟨lw_p1, List.forall_mem_cons.mpr ⟨lw_p2, List.forall_mem_cons.mpr ⟨lw_p3, List.forall_mem_cons.mpr ⟨lw_p4, List.forall_mem_cons.mpr ⟨lw_p5, List.forall_mem_cons.mpr ⟨lw_p6, List.forall_mem_cons.mpr ⟨lw_p7, List.forall_mem_cons.mpr ⟨lw_p8, List.forall_mem_cons.mpr ⟨lw_p9, List.forall_mem_cons.mpr ⟨lw_p10, List.forall_mem_cons.mpr ⟨lw_p11, List.forall_mem_cons.mpr ⟨lw_p12, List.forall_mem_cons.mpr ⟨lw_p13, List.forall_mem_cons.mpr ⟨lw_p14, List.forall_mem_cons.mpr ⟨lw_p15, fun _ h => absurd h List.not_mem_nil⟩⟩⟩⟩⟩⟩⟩⟩⟩⟩⟩⟩⟩⟩⟩⟩
theorem lw_p16 : lw_okq (⟨"ClueLeaveModel", "well", "(I)I"⟩, 23) := ⟨⟨by decide +kernel, by decide +kernel⟩, List.mem_of_getElem? (i := 630) (by decide +kernel), List.mem_of_getElem? (i := 724) (by decide +kernel), List.mem_of_getElem? (i := 725) (by decide +kernel)⟩
theorem lw_p17 : lw_okq (⟨"ClueLeaveModel", "isMissing", "(I)Z"⟩, 23) := ⟨⟨by decide +kernel, by decide +kernel⟩, List.mem_of_getElem? (i := 630) (by decide +kernel), List.mem_of_getElem? (i := 732) (by decide +kernel), List.mem_of_getElem? (i := 733) (by decide +kernel)⟩
theorem lw_p18 : lw_okq (⟨"ClueLeaveModel", "isPart", "(III)Z"⟩, 23) := ⟨⟨by decide +kernel, by decide +kernel⟩, List.mem_of_getElem? (i := 630) (by decide +kernel), List.mem_of_getElem? (i := 743) (by decide +kernel), List.mem_of_getElem? (i := 744) (by decide +kernel)⟩
theorem lw_p19 : lw_okq (⟨"ClueLeaveModel", "advances", "()V"⟩, 23) := ⟨⟨by decide +kernel, by decide +kernel⟩, List.mem_of_getElem? (i := 630) (by decide +kernel), List.mem_of_getElem? (i := 760) (by decide +kernel), List.mem_of_getElem? (i := 761) (by decide +kernel)⟩
theorem lw_p20 : lw_okq (⟨"ClueLeaveModel", "byteAt", "(I)I"⟩, 23) := ⟨⟨by decide +kernel, by decide +kernel⟩, List.mem_of_getElem? (i := 630) (by decide +kernel), List.mem_of_getElem? (i := 764) (by decide +kernel), List.mem_of_getElem? (i := 765) (by decide +kernel)⟩
theorem lw_p21 : lw_okq (⟨"ClueLeaveModel", "takes", "(ZI)I"⟩, 23) := ⟨⟨by decide +kernel, by decide +kernel⟩, List.mem_of_getElem? (i := 630) (by decide +kernel), List.mem_of_getElem? (i := 768) (by decide +kernel), List.mem_of_getElem? (i := 769) (by decide +kernel)⟩
theorem lw_p22 : lw_okq (⟨"ClueLeaveModel", "isWell", "()Z"⟩, 23) := ⟨⟨by decide +kernel, by decide +kernel⟩, List.mem_of_getElem? (i := 630) (by decide +kernel), List.mem_of_getElem? (i := 772) (by decide +kernel), List.mem_of_getElem? (i := 773) (by decide +kernel)⟩
theorem lw_p23 : lw_okq (⟨"ClueLeaveModel", "figure", "(II)I"⟩, 23) := ⟨⟨by decide +kernel, by decide +kernel⟩, List.mem_of_getElem? (i := 630) (by decide +kernel), List.mem_of_getElem? (i := 776) (by decide +kernel), List.mem_of_getElem? (i := 777) (by decide +kernel)⟩
theorem lw_p24 : lw_okq (⟨"ClueLeaveModel", "next", "(II)I"⟩, 23) := ⟨⟨by decide +kernel, by decide +kernel⟩, List.mem_of_getElem? (i := 630) (by decide +kernel), List.mem_of_getElem? (i := 780) (by decide +kernel), List.mem_of_getElem? (i := 781) (by decide +kernel)⟩
theorem lw_p25 : lw_okq (⟨"ClueLeaveModel", "readsClue", "()V"⟩, 23) := ⟨⟨by decide +kernel, by decide +kernel⟩, List.mem_of_getElem? (i := 630) (by decide +kernel), List.mem_of_getElem? (i := 787) (by decide +kernel), List.mem_of_getElem? (i := 788) (by decide +kernel)⟩
theorem lw_p26 : lw_okq (⟨"ClueLeaveModel", "isCity", "()Z"⟩, 23) := ⟨⟨by decide +kernel, by decide +kernel⟩, List.mem_of_getElem? (i := 630) (by decide +kernel), List.mem_of_getElem? (i := 803) (by decide +kernel), List.mem_of_getElem? (i := 804) (by decide +kernel)⟩
theorem lw_p27 : lw_okq (⟨"ClueLeaveModel", "notes", "()V"⟩, 23) := ⟨⟨by decide +kernel, by decide +kernel⟩, List.mem_of_getElem? (i := 630) (by decide +kernel), List.mem_of_getElem? (i := 808) (by decide +kernel), List.mem_of_getElem? (i := 809) (by decide +kernel)⟩
theorem lw_p28 : lw_okq (⟨"ClueLeaveModel", "isClue", "(I)Z"⟩, 23) := ⟨⟨by decide +kernel, by decide +kernel⟩, List.mem_of_getElem? (i := 630) (by decide +kernel), List.mem_of_getElem? (i := 837) (by decide +kernel), List.mem_of_getElem? (i := 838) (by decide +kernel)⟩
theorem lw_p29 : lw_okq (⟨"ClueLeaveModel", "puts", "(II)I"⟩, 23) := ⟨⟨by decide +kernel, by decide +kernel⟩, List.mem_of_getElem? (i := 630) (by decide +kernel), List.mem_of_getElem? (i := 845) (by decide +kernel), List.mem_of_getElem? (i := 846) (by decide +kernel)⟩
theorem lw_p30 : lw_okq (⟨"ClueLeaveModel", "sureDays", "(I)I"⟩, 23) := ⟨⟨by decide +kernel, by decide +kernel⟩, List.mem_of_getElem? (i := 630) (by decide +kernel), List.mem_of_getElem? (i := 882) (by decide +kernel), List.mem_of_getElem? (i := 883) (by decide +kernel)⟩
theorem lw_p31 : lw_okq (⟨"ClueLeaveModel", "counts", "()Z"⟩, 23) := ⟨⟨by decide +kernel, by decide +kernel⟩, List.mem_of_getElem? (i := 630) (by decide +kernel), List.mem_of_getElem? (i := 886) (by decide +kernel), List.mem_of_getElem? (i := 887) (by decide +kernel)⟩
def lw_privs_2 : List (MethodName × Nat) := [(⟨"ClueLeaveModel", "well", "(I)I"⟩, 23), (⟨"ClueLeaveModel", "isMissing", "(I)Z"⟩, 23), (⟨"ClueLeaveModel", "isPart", "(III)Z"⟩, 23), (⟨"ClueLeaveModel", "advances", "()V"⟩, 23), (⟨"ClueLeaveModel", "byteAt", "(I)I"⟩, 23), (⟨"ClueLeaveModel", "takes", "(ZI)I"⟩, 23), (⟨"ClueLeaveModel", "isWell", "()Z"⟩, 23), (⟨"ClueLeaveModel", "figure", "(II)I"⟩, 23), (⟨"ClueLeaveModel", "next", "(II)I"⟩, 23), (⟨"ClueLeaveModel", "readsClue", "()V"⟩, 23), (⟨"ClueLeaveModel", "isCity", "()Z"⟩, 23), (⟨"ClueLeaveModel", "notes", "()V"⟩, 23), (⟨"ClueLeaveModel", "isClue", "(I)Z"⟩, 23), (⟨"ClueLeaveModel", "puts", "(II)I"⟩, 23), (⟨"ClueLeaveModel", "sureDays", "(I)I"⟩, 23), (⟨"ClueLeaveModel", "counts", "()Z"⟩, 23)]
theorem lw_r2 : ∀ q ∈ lw_privs_2, lw_okq q := List.forall_mem_cons.mpr ⟨lw_p16, List.forall_mem_cons.mpr ⟨lw_p17, List.forall_mem_cons.mpr ⟨lw_p18, List.forall_mem_cons.mpr ⟨lw_p19, List.forall_mem_cons.mpr ⟨lw_p20, List.forall_mem_cons.mpr ⟨lw_p21, List.forall_mem_cons.mpr ⟨lw_p22, List.forall_mem_cons.mpr ⟨lw_p23, List.forall_mem_cons.mpr ⟨lw_p24, List.forall_mem_cons.mpr ⟨lw_p25, List.forall_mem_cons.mpr ⟨lw_p26, List.forall_mem_cons.mpr ⟨lw_p27, List.forall_mem_cons.mpr ⟨lw_p28, List.forall_mem_cons.mpr ⟨lw_p29, List.forall_mem_cons.mpr ⟨lw_p30, List.forall_mem_cons.mpr ⟨lw_p31, fun _ h => absurd h List.not_mem_nil⟩⟩⟩⟩⟩⟩⟩⟩⟩⟩⟩⟩⟩⟩⟩⟩
theorem lw_p32 : lw_okq (⟨"ClueLeaveModel", "fewest", "(II)I"⟩, 23) := ⟨⟨by decide +kernel, by decide +kernel⟩, List.mem_of_getElem? (i := 630) (by decide +kernel), List.mem_of_getElem? (i := 898) (by decide +kernel), List.mem_of_getElem? (i := 899) (by decide +kernel)⟩
theorem lw_p33 : lw_okq (⟨"ClueLeaveModel", "goesSo", "(II)Z"⟩, 23) := ⟨⟨by decide +kernel, by decide +kernel⟩, List.mem_of_getElem? (i := 630) (by decide +kernel), List.mem_of_getElem? (i := 910) (by decide +kernel), List.mem_of_getElem? (i := 911) (by decide +kernel)⟩
theorem lw_p34 : lw_okq (⟨"ClueLeaveModel", "kindIn", "(I)I"⟩, 23) := ⟨⟨by decide +kernel, by decide +kernel⟩, List.mem_of_getElem? (i := 630) (by decide +kernel), List.mem_of_getElem? (i := 941) (by decide +kernel), List.mem_of_getElem? (i := 942) (by decide +kernel)⟩
theorem lw_p35 : lw_okq (⟨"ClueLeaveModel", "stainSize", "(I)I"⟩, 23) := ⟨⟨by decide +kernel, by decide +kernel⟩, List.mem_of_getElem? (i := 630) (by decide +kernel), List.mem_of_getElem? (i := 953) (by decide +kernel), List.mem_of_getElem? (i := 954) (by decide +kernel)⟩
theorem lw_p36 : lw_okq (⟨"ClueLeaveModel", "begins", "(I)V"⟩, 23) := ⟨⟨by decide +kernel, by decide +kernel⟩, List.mem_of_getElem? (i := 630) (by decide +kernel), List.mem_of_getElem? (i := 957) (by decide +kernel), List.mem_of_getElem? (i := 958) (by decide +kernel)⟩
theorem lw_p37 : lw_okq (⟨"ClueLeaveModel", "threadSize", "(I)I"⟩, 23) := ⟨⟨by decide +kernel, by decide +kernel⟩, List.mem_of_getElem? (i := 630) (by decide +kernel), List.mem_of_getElem? (i := 961) (by decide +kernel), List.mem_of_getElem? (i := 962) (by decide +kernel)⟩
theorem lw_p38 : lw_okq (⟨"ClueLeaveModel", "threadMark", "(I)I"⟩, 23) := ⟨⟨by decide +kernel, by decide +kernel⟩, List.mem_of_getElem? (i := 630) (by decide +kernel), List.mem_of_getElem? (i := 965) (by decide +kernel), List.mem_of_getElem? (i := 966) (by decide +kernel)⟩
theorem lw_p39 : lw_okq (⟨"ClueLeaveModel", "stainMark", "(I)I"⟩, 23) := ⟨⟨by decide +kernel, by decide +kernel⟩, List.mem_of_getElem? (i := 630) (by decide +kernel), List.mem_of_getElem? (i := 969) (by decide +kernel), List.mem_of_getElem? (i := 970) (by decide +kernel)⟩
def lw_privs_3 : List (MethodName × Nat) := [(⟨"ClueLeaveModel", "fewest", "(II)I"⟩, 23), (⟨"ClueLeaveModel", "goesSo", "(II)Z"⟩, 23), (⟨"ClueLeaveModel", "kindIn", "(I)I"⟩, 23), (⟨"ClueLeaveModel", "stainSize", "(I)I"⟩, 23), (⟨"ClueLeaveModel", "begins", "(I)V"⟩, 23), (⟨"ClueLeaveModel", "threadSize", "(I)I"⟩, 23), (⟨"ClueLeaveModel", "threadMark", "(I)I"⟩, 23), (⟨"ClueLeaveModel", "stainMark", "(I)I"⟩, 23)]
theorem lw_r3 : ∀ q ∈ lw_privs_3, lw_okq q := List.forall_mem_cons.mpr ⟨lw_p32, List.forall_mem_cons.mpr ⟨lw_p33, List.forall_mem_cons.mpr ⟨lw_p34, List.forall_mem_cons.mpr ⟨lw_p35, List.forall_mem_cons.mpr ⟨lw_p36, List.forall_mem_cons.mpr ⟨lw_p37, List.forall_mem_cons.mpr ⟨lw_p38, List.forall_mem_cons.mpr ⟨lw_p39, fun _ h => absurd h List.not_mem_nil⟩⟩⟩⟩⟩⟩⟩⟩
def lw_privs : List (MethodName × Nat) := lw_privs_1 ++ (lw_privs_2 ++ (lw_privs_3))
def lw_tbl : List Cond := k2_sels lw_privs ++ tables_1
theorem lw_privs_ok : ∀ q ∈ lw_privs, lw_okq q := by
  show ∀ q ∈ lw_privs_1 ++ (lw_privs_2 ++ (lw_privs_3)), lw_okq q
  exact List.forall_mem_append.mpr ⟨lw_r1, List.forall_mem_append.mpr ⟨lw_r2, lw_r3⟩⟩
-- ===== end of PART A; then your names; then what follows =====
/-! ===== BEGIN words of one list among another's, by their places ===== -/
theorem goodIn_r {big : List Cond} (ws : List Cond) (ps : List Nat) (hp : ws = ps.filterMap (fun i => big[i]?)) (h : ws.all goodWord = true) : GoodIn big ws := by
  intro w hw
  have h1 := List.all_eq_true.mp h w hw
  rw [hp] at hw
  obtain ⟨i, -, hi⟩ := List.mem_filterMap.mp hw
  have hm : w ∈ big := by first | exact List.mem_of_getElem? hi | exact List.getElem?_mem hi
  exact ⟨hm, good_of_word h1⟩
theorem goodIn_app {big a b : List Cond} (ha : GoodIn big a) (hb : GoodIn big b) : GoodIn big (a ++ b) := fun w h => (List.mem_append.mp h).elim (ha w) (hb w)
theorem goodIn_ca {big a b : List Cond} {c : Cond} (ha : GoodIn big (c :: a)) (hb : GoodIn big b) : GoodIn big (c :: (a ++ b)) := fun w h => (List.mem_cons.mp h).elim (fun e => ha w (List.mem_cons.mpr (Or.inl e))) (fun h => (List.mem_append.mp h).elim (fun h => ha w (List.mem_cons.mpr (Or.inr h))) (hb w))
theorem goodIn_sub {big ws : List Cond} (hm : ∀ w ∈ ws, w ∈ big) (h : ws.all goodWord = true) : GoodIn big ws := fun w hw => ⟨hm w hw, good_of_word (List.all_eq_true.mp h w hw)⟩
/-! ===== END ===== -/

/-! ===== BEGIN new T[n][m]: the outer array a place, the inner ones among the pooled ===== -/
/-- f, but v at every address of l -/
def vr_up {α : Type} (f : Nat → α) (l : List Nat) (v : α) : Nat → α := fun a => if a ∈ l then v else f a
theorem vr_up_in {α : Type} {f : Nat → α} {l : List Nat} {v : α} {a : Nat} (h : a ∈ l) : vr_up f l v a = v := if_pos h
theorem vr_up_ne {α : Type} {f : Nat → α} {l : List Nat} {v : α} {a : Nat} (h : a ∉ l) : vr_up f l v a = f a := if_neg h
theorem vr_rows {L l : List Nat} {f : Nat → va_E} {e : va_E} (h : ∀ a, a ∈ l → a ∉ L) : va_pl L f ++ l.map (fun a => (a, e)) = va_pl (L ++ l) (vr_up f l e) := by
  unfold va_pl
  rw [List.map_append]
  congr 1
  · apply List.map_congr_left
    intro a ha
    rw [vr_up_ne (fun q => h a q ha)]
  · apply List.map_congr_left
    intro a ha
    rw [vr_up_in ha]
theorem vr_lay {X rows : va_W} {x : Nat × va_E} {pl : va_W} {D : va_G} {cl : List vw_C} {H : Heap} (hP : va_P D cl (((X ++ pl) ++ [x]) ++ rows) H) : va_P D cl ((X ++ [x]) ++ (pl ++ rows)) H := by
  rw [List.append_assoc (X ++ pl)] at hP
  have h := va_P.swap hP
  rw [← List.append_assoc X] at h
  have h2 := va_P.swap h
  rw [List.append_assoc (X ++ [x])] at h2
  exact h2
theorem vr_layD {X rows : va_W} {x : Nat × va_E} {pl : va_W} {A : Nat → Prop} (hD : va_D A (((X ++ pl) ++ [x]) ++ rows)) : va_D A ((X ++ [x]) ++ (pl ++ rows)) := by
  rw [List.append_assoc (X ++ pl)] at hD
  have h := va_D.swap hD
  rw [← List.append_assoc X] at h
  have h2 := va_D.swap h
  rw [List.append_assoc (X ++ [x])] at h2
  exact h2
theorem vr_outer (c : ClassId) (N h0 : Nat) : ∀ i : Nat, Jvm.Free.Multi.outerC c N h0 i = arrV c N (fun j => va_rf (if j < i then some (h0 + 1 + j) else none))
  | 0 => by
    show ({ cls := c, slots := Array.replicate N .null, vm := .none } : Cell) = _
    rw [arrV_new]
    refine congrArg (arrV c N) (funext fun j => ?_)
    simp [va_rf]
  | i + 1 => by
    show (Jvm.Free.Multi.outerC c N h0 i).setSlot i (.ref (h0 + 1 + i)) = _
    rw [vr_outer c N h0 i, arrV_store]
    refine congrArg (arrV c N) (funext fun j => ?_)
    by_cases e : j = i
    · subst e
      simp [updV, va_rf]
    · by_cases h : j < i
      · simp [updV, e, h, Nat.lt_succ_of_lt h]
      · simp [updV, e, h, show ¬ j < i + 1 by omega]
section VGM
variable {p : Program} {l : Launch} {e : Env} {R : Room} {s : State} {m : MethodId} {args : Array Value} {below : List Frame} {meth : Method} {c : Code} {H : Heap} {locs : List Loc} {cells slots : Nat} {Q : State → Prop}
variable {cc : ByteArray} {pc : Nat} {ls : Array Slot} {rest : List Value} {D : va_G} {cl : List vw_C} {A : Nat → Prop} {a : Nat} {tys : List (ClassId × FieldType)} {ws : va_W} {H0 : Heap}
theorem va_mna {X : va_W} {L : List Nat} {f : Nat → va_E} {cc : ByteArray} (hexec : p.tables.exec = Jvm.exec) (hb : c.code = cc) {own : String} {index : Nat} {ty : FieldType} {cy : ClassId} (hown : s.vm.findClass own = some m.cls) (hclink : (Cond.classLink own index ("[" ++ (FieldType.array ty).toString)).before args s = true) (hover : va_AOA ty s) (harr : (Cond.arrayClass ty).before args s = true) (hcy : s.vm.findClass (FieldType.array ty).toString = some cy)
    (hK : va_K D cl tys s) (hP : va_P D cl (X ++ va_pl L f) H) (hD : va_D A (X ++ va_pl L f)) (hS : va_S A H0 H locs) (hA : ∀ q, H0.size ≤ q → A q) {n k : Int32} {N' K' : Nat} {z : vp_A} (hn : ¬ n < 0) (hk : ¬ k < 0) (hN : n.toNatClampNeg = N') (hM : k.toNatClampNeg = K')
    (hb1 : N' * 4 ≤ 536870912) (hb2 : K' * componentBytes ty ≤ 536870912) (hb3 : K' ≤ 536870912) (hdf : fits ty (defaultValue ty) = true) (hdd : (defaultValue ty).isDefault = true) (hcells : cells + (1 + N') ≤ R.cells) (hslots : slots + (N' + N' * K') ≤ R.slots) (hz : ∀ c : ClassId, Jvm.Free.Multi.innerC c K' (defaultValue ty) = vp_cell c z) (hdg : decode cc pc = .ok (.multianewarray index 2, 4))
    (kk : ∀ (q : Nat) (r : Nat → Nat) (cA : ClassId) (H1 : Heap), (∀ i j : Nat, i < N' → j < N' → r i = r j → i = j) → (∀ i : Nat, i < N' → r i ∉ L) → va_K D cl (tys ++ [(cA, .array ty)]) s →
      va_P D cl ((X ++ [(q, .inl (cA, N', .inr (.inr (.inr (.inr (fun i => if i < N' then some (r i) else none))))))]) ++ va_pl (L ++ (List.range N').map r) (vr_up f ((List.range N').map r) (.inl (cy, z)))) H1 → va_D A ((X ++ [(q, .inl (cA, N', .inr (.inr (.inr (.inr (fun i => if i < N' then some (r i) else none))))))]) ++ va_pl (L ++ (List.range N').map r) (vr_up f ((List.range N').map r) (.inl (cy, z)))) → va_S A H0 H1 locs →
      W p l e R s m args below meth c H1 locs (cells + 1 + N') (slots + N' + N' * K') Q (F0 m (pc + 4) ls (.ref q :: rest))) : W p l e R s m args below meth c H locs cells slots Q (F0 m pc ls (.int k :: .int n :: rest)) := by
  subst hN
  subst hM
  intro T hT Xs
  obtain ⟨vm₁, cA, comp, -, fA, fC, hO, -, X', step⟩ := Xs.multianewarray2F hexec hown hclink (va_AOA.use hover) harr (g := F0 m pc ls (.int k :: .int n :: rest)) rfl (by rw [hb]; exact hdg) rfl hn hk hb1 hb2 hb3 hdf hdd hcells hslots
  have ec : some cy = some comp := hcy.symm.trans fC
  cases ec
  generalize hF : Jvm.Free.Multi.fill (T.setVm vm₁) cA cy n.toNatClampNeg k.toNatClampNeg (defaultValue ty) n.toNatClampNeg = F at X' step
  have hTh : (T.setVm vm₁).heap = H := hT
  obtain ⟨f1, f2, -, -⟩ := Jvm.Free.Multi.fill_facts (T.setVm vm₁) cA cy n.toNatClampNeg k.toNatClampNeg (defaultValue ty) n.toNatClampNeg
  rw [hF, hTh] at f1 f2
  have hold : ∀ x : Nat, x < H.size → F.heap[x]? = H[x]? := fun x hx => by
    have := Jvm.Free.Multi.fill_old (T.setVm vm₁) cA cy n.toNatClampNeg k.toNatClampNeg (defaultValue ty) (a := x) (by rw [hTh]; exact hx) n.toNatClampNeg
    rw [hF, hTh] at this
    exact this
  have hrow : ∀ j : Nat, j < n.toNatClampNeg → F.heap[H.size + 1 + j]? = some (vp_cell cy z) := fun j hj => by
    have := Jvm.Free.Multi.fill_inner (T.setVm vm₁) cA cy n.toNatClampNeg k.toNatClampNeg (defaultValue ty) n.toNatClampNeg j hj
    rw [hF, hTh, hz] at this
    exact this
  have hout : Jvm.Free.Multi.outerC cA n.toNatClampNeg H.size n.toNatClampNeg = vp_cell cA (n.toNatClampNeg, .inr (.inr (.inr (.inr (fun i => if i < n.toNatClampNeg then some (H.size + 1 + i) else none))))) := by
    rw [vp_cell_q]
    exact vr_outer cA n.toNatClampNeg H.size n.toNatClampNeg
  rw [hout] at f2
  have hlt : ∀ a, a ∈ L → a < H.size := fun a ha => by
    obtain ⟨k9, hk9⟩ := va_pl_get (X := X) (f := f) ha
    exact (hP k9 _ hk9).lt
  have hnl : ∀ i : Nat, i < n.toNatClampNeg → H.size + 1 + i ∉ L := fun i _ h => by
    have := hlt _ h
    omega
  have hnm : ∀ a, a ∈ (List.range n.toNatClampNeg).map (fun i => H.size + 1 + i) → a ∉ L := fun a ha h => by
    obtain ⟨i, -, rfl⟩ := List.mem_map.mp ha
    have := hlt _ h
    omega
  have hP0 : va_P D cl (X ++ va_pl L f) F.heap := hP.kept (fun k9 x hx => hold x.1 ((hP k9 x hx).lt))
  have hP1 : va_P D cl ((X ++ va_pl L f) ++ [(H.size, .inl (cA, n.toNatClampNeg, .inr (.inr (.inr (.inr (fun i => if i < n.toNatClampNeg then some (H.size + 1 + i) else none))))))]) F.heap := hP0.app (fun k9 x hx => by
    have h0 : k9 < 1 := (List.getElem?_eq_some_iff.mp hx).1
    rw [show k9 = 0 by omega] at hx
    cases hx
    exact f2)
  have hP2 : va_P D cl (((X ++ va_pl L f) ++ [(H.size, .inl (cA, n.toNatClampNeg, .inr (.inr (.inr (.inr (fun i => if i < n.toNatClampNeg then some (H.size + 1 + i) else none))))))]) ++ ((List.range n.toNatClampNeg).map (fun i => H.size + 1 + i)).map (fun a => (a, .inl (cy, z)))) F.heap := hP1.app (fun k9 x hx => by
    obtain ⟨a, ha, rfl⟩ := List.mem_map.mp (List.mem_of_getElem? hx)
    obtain ⟨i, hi, rfl⟩ := List.mem_map.mp ha
    exact hrow i (List.mem_range.mp hi))
  have hD2 : va_D A (((X ++ va_pl L f) ++ [(H.size, .inl (cA, n.toNatClampNeg, .inr (.inr (.inr (.inr (fun i => if i < n.toNatClampNeg then some (H.size + 1 + i) else none))))))]) ++ ((List.range n.toNatClampNeg).map (fun i => H.size + 1 + i)).map (fun a => (a, .inl (cy, z)))) := by
    have hD1 := hD.push (e := .inl (cA, n.toNatClampNeg, .inr (.inr (.inr (.inr (fun i => if i < n.toNatClampNeg then some (H.size + 1 + i) else none)))))) hP rfl (hA _ hS.1)
    generalize hW1 : (X ++ va_pl L f) ++ [(H.size, .inl (cA, n.toNatClampNeg, .inr (.inr (.inr (.inr (fun i => if i < n.toNatClampNeg then some (H.size + 1 + i) else none))))))] = W1 at hD1 hP1 ⊢
    have hle : ∀ (k9 : Nat) (x : Nat × va_E), W1[k9]? = some x → x.1 ≤ H.size := fun k9 x hx => by
      rw [← hW1] at hx
      by_cases hl : k9 < (X ++ va_pl L f).length
      · rw [List.getElem?_append_left hl] at hx
        exact Nat.le_of_lt ((hP k9 x hx).lt)
      · rw [List.getElem?_append_right (by omega)] at hx
        have h0 : k9 - (X ++ va_pl L f).length < 1 := (List.getElem?_eq_some_iff.mp hx).1
        rw [show k9 - (X ++ va_pl L f).length = 0 by omega] at hx
        cases hx
        exact Nat.le_refl _
    have hr : ∀ (k9 : Nat) (x : Nat × va_E), (((List.range n.toNatClampNeg).map (fun i => H.size + 1 + i)).map (fun a => ((a, .inl (cy, z)) : Nat × va_E)))[k9]? = some x → x.1 = H.size + 1 + k9 := fun k9 x hx => by
      rw [List.getElem?_map, List.getElem?_map] at hx
      by_cases h9 : k9 < n.toNatClampNeg
      · rw [List.getElem?_range h9] at hx
        cases hx
        rfl
      · have hn0 : (List.range n.toNatClampNeg)[k9]? = none := List.getElem?_eq_none (by rw [List.length_range]; omega)
        rw [hn0] at hx
        cases hx
    refine ⟨fun i j x y hi hj hxy => ?_, fun k9 x hx => ?_⟩
    · by_cases h1 : i < W1.length <;> by_cases h2 : j < W1.length
      · rw [List.getElem?_append_left h1] at hi
        rw [List.getElem?_append_left h2] at hj
        exact hD1.1 i j x y hi hj hxy
      · rw [List.getElem?_append_left h1] at hi
        rw [List.getElem?_append_right (by omega)] at hj
        have := hle _ _ hi
        have := hr _ _ hj
        omega
      · rw [List.getElem?_append_right (by omega)] at hi
        rw [List.getElem?_append_left h2] at hj
        have := hle _ _ hj
        have := hr _ _ hi
        omega
      · rw [List.getElem?_append_right (by omega)] at hi hj
        have := hr _ _ hi
        have := hr _ _ hj
        omega
    · by_cases h1 : k9 < W1.length
      · rw [List.getElem?_append_left h1] at hx
        exact hD1.2 k9 x hx
      · rw [List.getElem?_append_right (by omega)] at hx
        have := hr _ _ hx
        exact hA _ (by have := hS.1; omega)
  have hAr : ArrOfT s cA (.array ty) := fun N9 z9 => by
    obtain ⟨-, k9, hk9, cm9, hkk9⟩ := (hO 0 0 0).1
    exact ⟨(fun q hq => by cases hq), k9, hk9, cm9, hkk9⟩
  have hK2 : va_K D cl (tys ++ [(cA, .array ty)]) s := ⟨hK.1, fun k9 x hx => by
    by_cases hl : k9 < tys.length
    · rw [List.getElem?_append_left hl] at hx
      exact hK.2 k9 x hx
    · rw [List.getElem?_append_right (by omega)] at hx
      have h0 : k9 - tys.length < 1 := (List.getElem?_eq_some_iff.mp hx).1
      rw [show k9 - tys.length = 0 by omega] at hx
      cases hx
      exact ⟨hAr, fA⟩⟩
  obtain ⟨t, a1, b1⟩ := kk H.size (fun i => H.size + 1 + i) cA F.heap (fun i j _ _ h => by have h9 : H.size + 1 + i = H.size + 1 + j := h; omega) hnl hK2 (by rw [← vr_rows hnm]; exact vr_lay hP2) (by rw [← vr_rows hnm]; exact vr_layD hD2) ⟨by rw [f1]; have := hS.1; omega, fun x h1 h2 => (hold x (Nat.lt_of_lt_of_le h1 hS.1)).trans (hS.2.1 x h1 h2), hS.2.2⟩ F rfl X'
  refine ⟨t, step t ?_, b1⟩
  have e : T.heap.size = H.size := by rw [hT]
  rw [e]
  exact a1
end VGM
/-! ===== END ===== -/

/-! ===== BEGIN printed: names, fields, word lists, decode rows ===== -/
def RX0 : String := "ClueLeave$Acts"
def TX0 : u_T := fun k => match k with
  | 0 => ("ClueLeave$Acts", "sorts", "[I", true)
  | 1 => ("ClueLeave$Acts", "clues", "[I", true)
  | 2 => ("ClueLeave$Acts", "before", "[I", true)
  | 3 => ("ClueLeave$Acts", "next", "I", false)
  | _ => ("ClueLeave$Acts", "kept", "I", false)
def tyX0 : Nat → FieldType := fun k => match k with
  | 0 => .array .int
  | 1 => .array .int
  | 2 => .array .int
  | 3 => .int
  | _ => .int
abbrev wsX00 : List Cond := u_ws RX0 TX0 5
theorem nmX0 : ∀ a, a < 5 → ∀ b, b < 5 → a ≠ b → (TX0 a).2.1 ≠ (TX0 b).2.1 := by decide +kernel
theorem tyX0_ok : ∀ k, k < 5 → parseFieldDescriptor (TX0 k).2.2.1 = some (tyX0 k) := by decide +kernel
abbrev cX0_init : ByteArray := prog_2_method_1_code
def yX0_init : MethodName := ⟨RX0, "<init>", "()V"⟩
abbrev cX0_kept : ByteArray := prog_2_method_2_code
def yX0_kept : MethodName := ⟨RX0, "kept", "()I"⟩
abbrev cX0_forgetAll : ByteArray := prog_2_method_3_code
def yX0_forgetAll : MethodName := ⟨RX0, "forgetAll", "()V"⟩
abbrev cX0_keep : ByteArray := prog_2_method_4_code
def yX0_keep : MethodName := ⟨RX0, "keep", "(III)V"⟩
abbrev cX0_takeBack : ByteArray := prog_2_method_5_code
def yX0_takeBack : MethodName := ⟨RX0, "takeBack", "(LClueLeave$City;)V"⟩
def RX1 : String := "ClueLeave$Asks"
def TX1 : u_T := fun k => match k with
  | 0 => ("ClueLeave$Asks", "trace", "[I", true)
  | _ => ("ClueLeave$Asks", "traced", "I", false)
def tyX1 : Nat → FieldType := fun k => match k with
  | 0 => .array .int
  | _ => .int
abbrev wsX10 : List Cond := u_ws RX1 TX1 2
theorem nmX1 : ∀ a, a < 2 → ∀ b, b < 2 → a ≠ b → (TX1 a).2.1 ≠ (TX1 b).2.1 := by decide +kernel
theorem tyX1_ok : ∀ k, k < 2 → parseFieldDescriptor (TX1 k).2.2.1 = some (tyX1 k) := by decide +kernel
abbrev cX1_init : ByteArray := prog_3_method_1_code
def yX1_init : MethodName := ⟨RX1, "<init>", "()V"⟩
abbrev cX1_traceAt : ByteArray := prog_3_method_2_code
def yX1_traceAt : MethodName := ⟨RX1, "traceAt", "(I)I"⟩
abbrev cX1_answer : ByteArray := prog_3_method_3_code
def yX1_answer : MethodName := ⟨RX1, "answer", "(LClueLeave$City;II)I"⟩
abbrev cX1_begin : ByteArray := prog_3_method_4_code
def yX1_begin : MethodName := ⟨RX1, "begin", "(LClueLeave$City;III)I"⟩
abbrev cX1_give : ByteArray := prog_3_method_5_code
def yX1_give : MethodName := ⟨RX1, "give", "(LClueLeave$City;III)I"⟩
abbrev cX1_leave : ByteArray := prog_3_method_6_code
def yX1_leave : MethodName := ⟨RX1, "leave", "(I)V"⟩
def RX2 : String := "ClueLeave$City"
def TX2 : u_T := fun k => match k with
  | 0 => ("ClueLeave$City", "suspects", "I", false)
  | 1 => ("ClueLeave$City", "sunday", "I", false)
  | 2 => ("ClueLeave$City", "day", "I", false)
  | 3 => ("ClueLeave$City", "clues", "I", false)
  | 4 => ("ClueLeave$City", "bribed", "I", false)
  | 5 => ("ClueLeave$City", "kinds", "[I", true)
  | 6 => ("ClueLeave$City", "tells", "[I", true)
  | 7 => ("ClueLeave$City", "every", "[I", true)
  | _ => ("ClueLeave$City", "off", "[I", true)
def tyX2 : Nat → FieldType := fun k => match k with
  | 0 => .int
  | 1 => .int
  | 2 => .int
  | 3 => .int
  | 4 => .int
  | 5 => .array .int
  | 6 => .array .int
  | 7 => .array .int
  | _ => .array .int
abbrev wsX20 : List Cond := u_ws RX2 TX2 9
theorem nmX2 : ∀ a, a < 9 → ∀ b, b < 9 → a ≠ b → (TX2 a).2.1 ≠ (TX2 b).2.1 := by decide +kernel
theorem tyX2_ok : ∀ k, k < 9 → parseFieldDescriptor (TX2 k).2.2.1 = some (tyX2 k) := by decide +kernel
abbrev cX2_init : ByteArray := prog_4_method_1_code
def yX2_init : MethodName := ⟨RX2, "<init>", "()V"⟩
abbrev cX2_stands : ByteArray := prog_4_method_2_code
def yX2_stands : MethodName := ⟨RX2, "stands", "()Z"⟩
abbrev cX2_has : ByteArray := prog_4_method_3_code
def yX2_has : MethodName := ⟨RX2, "has", "(I)Z"⟩
abbrev cX2_clear : ByteArray := prog_4_method_4_code
def yX2_clear : MethodName := ⟨RX2, "clear", "()V"⟩
abbrev cX2_add : ByteArray := prog_4_method_5_code
def yX2_add : MethodName := ⟨RX2, "add", "(IIII)V"⟩
abbrev cX2_become : ByteArray := prog_4_method_6_code
def yX2_become : MethodName := ⟨RX2, "become", "(LClueLeave$City;)V"⟩
abbrev cX2_everyone : ByteArray := prog_4_method_7_code
def yX2_everyone : MethodName := ⟨RX2, "everyone", "()I"⟩
abbrev cX2_isBribed : ByteArray := prog_4_method_8_code
def yX2_isBribed : MethodName := ⟨RX2, "isBribed", "(I)Z"⟩
abbrev cX2_worksOn : ByteArray := prog_4_method_9_code
def yX2_worksOn : MethodName := ⟨RX2, "worksOn", "(II)Z"⟩
abbrev cX2_workersOn : ByteArray := prog_4_method_10_code
def yX2_workersOn : MethodName := ⟨RX2, "workersOn", "(I)I"⟩
abbrev cX2_leftByOne : ByteArray := prog_4_method_11_code
def yX2_leftByOne : MethodName := ⟨RX2, "leftByOne", "(I)I"⟩
abbrev cX2_leftBy : ByteArray := prog_4_method_12_code
def yX2_leftBy : MethodName := ⟨RX2, "leftBy", "(I)I"⟩
abbrev cX2_leftOn : ByteArray := prog_4_method_13_code
def yX2_leftOn : MethodName := ⟨RX2, "leftOn", "(I)I"⟩
abbrev cX2_fewestThatLeave : ByteArray := prog_4_method_14_code
def yX2_fewestThatLeave : MethodName := ⟨RX2, "fewestThatLeave", "(II)I"⟩
abbrev cX2_tenthsSure : ByteArray := prog_4_method_15_code
def yX2_tenthsSure : MethodName := ⟨RX2, "tenthsSure", "(II)I"⟩
def RX3 : String := "ClueLeave$RotaSearch"
def TX3 : u_T := fun k => match k with
  | 0 => ("ClueLeave$RotaSearch", "spares", "[[I", true)
  | 1 => ("ClueLeave$RotaSearch", "left", "[[I", true)
  | 2 => ("ClueLeave$RotaSearch", "best", "[I", true)
  | _ => ("ClueLeave$RotaSearch", "most", "I", false)
def tyX3 : Nat → FieldType := fun k => match k with
  | 0 => .array (.array .int)
  | 1 => .array (.array .int)
  | 2 => .array .int
  | _ => .int
abbrev wsX30 : List Cond := u_ws RX3 TX3 4
theorem nmX3 : ∀ a, a < 4 → ∀ b, b < 4 → a ≠ b → (TX3 a).2.1 ≠ (TX3 b).2.1 := by decide +kernel
theorem tyX3_ok : ∀ k, k < 4 → parseFieldDescriptor (TX3 k).2.2.1 = some (tyX3 k) := by decide +kernel
abbrev cX3_init : ByteArray := prog_5_method_1_code
def yX3_init : MethodName := ⟨RX3, "<init>", "()V"⟩
abbrev cX3_mostSure : ByteArray := prog_5_method_2_code
def yX3_mostSure : MethodName := ⟨RX3, "mostSure", "()I"⟩
abbrev cX3_bestOff : ByteArray := prog_5_method_3_code
def yX3_bestOff : MethodName := ⟨RX3, "bestOff", "(I)I"⟩
abbrev cX3_run : ByteArray := prog_5_method_4_code
def yX3_run : MethodName := ⟨RX3, "run", "(LClueLeave$City;I)V"⟩
abbrev cX3_fillSpares : ByteArray := prog_5_method_5_code
def yX3_fillSpares : MethodName := ⟨RX3, "fillSpares", "(LClueLeave$City;I)V"⟩
abbrev cX3_daysOff : ByteArray := prog_5_method_6_code
def yX3_daysOff : MethodName := ⟨RX3, "daysOff", "(LClueLeave$City;II)I"⟩
abbrev cX3_narrow : ByteArray := prog_5_method_7_code
def yX3_narrow : MethodName := ⟨RX3, "narrow", "(LClueLeave$City;I)V"⟩
abbrev cX3_sureDays : ByteArray := prog_5_method_8_code
def yX3_sureDays : MethodName := ⟨RX3, "sureDays", "(LClueLeave$City;)I"⟩
abbrev cX3_turn : ByteArray := prog_5_method_9_code
def yX3_turn : MethodName := ⟨RX3, "turn", "(LClueLeave$City;)I"⟩
def RX4 : String := "ClueLeave$Rows"
def TX4 : u_T := fun k => match k with
  | 0 => ("ClueLeave$Rows", "lanes", "[I", true)
  | 1 => ("ClueLeave$Rows", "sizes", "[I", true)
  | _ => ("ClueLeave$Rows", "items", "[[I", true)
def tyX4 : Nat → FieldType := fun k => match k with
  | 0 => .array .int
  | 1 => .array .int
  | _ => .array (.array .int)
abbrev wsX40 : List Cond := u_ws RX4 TX4 3
theorem nmX4 : ∀ a, a < 3 → ∀ b, b < 3 → a ≠ b → (TX4 a).2.1 ≠ (TX4 b).2.1 := by decide +kernel
theorem tyX4_ok : ∀ k, k < 3 → parseFieldDescriptor (TX4 k).2.2.1 = some (tyX4 k) := by decide +kernel
abbrev cX4_init : ByteArray := prog_6_method_1_code
def yX4_init : MethodName := ⟨RX4, "<init>", "()V"⟩
abbrev cX4_isRow : ByteArray := prog_6_method_2_code
def yX4_isRow : MethodName := ⟨RX4, "isRow", "(I)Z"⟩
abbrev cX4_isMissing : ByteArray := prog_6_method_3_code
def yX4_isMissing : MethodName := ⟨RX4, "isMissing", "(I)Z"⟩
abbrev cX4_laneOf : ByteArray := prog_6_method_4_code
def yX4_laneOf : MethodName := ⟨RX4, "laneOf", "(I)I"⟩
abbrev cX4_hasPlaces : ByteArray := prog_6_method_5_code
def yX4_hasPlaces : MethodName := ⟨RX4, "hasPlaces", "(III)Z"⟩
abbrev cX4_make : ByteArray := prog_6_method_6_code
def yX4_make : MethodName := ⟨RX4, "make", "(III)V"⟩
abbrev cX4_put : ByteArray := prog_6_method_7_code
def yX4_put : MethodName := ⟨RX4, "put", "(III)I"⟩
abbrev cX4_itemAt : ByteArray := prog_6_method_8_code
def yX4_itemAt : MethodName := ⟨RX4, "itemAt", "(II)I"⟩
abbrev cX4_move : ByteArray := prog_6_method_9_code
def yX4_move : MethodName := ⟨RX4, "move", "(IIIII)V"⟩
abbrev cX4_takeAway : ByteArray := prog_6_method_10_code
def yX4_takeAway : MethodName := ⟨RX4, "takeAway", "(I)I"⟩
abbrev cX4_present : ByteArray := prog_6_method_11_code
def yX4_present : MethodName := ⟨RX4, "present", "()I"⟩
abbrev cX4_lowestBits : ByteArray := prog_6_method_12_code
def yX4_lowestBits : MethodName := ⟨RX4, "lowestBits", "(II)I"⟩
def RX5 : String := "ClueLeave$Tape"
def TX5 : u_T := fun k => match k with
  | 0 => ("ClueLeave$Tape", "bytes", "[I", true)
  | 1 => ("ClueLeave$Tape", "size", "I", false)
  | 2 => ("ClueLeave$Tape", "at", "I", false)
  | 3 => ("ClueLeave$Tape", "faultPlace", "I", false)
  | _ => ("ClueLeave$Tape", "fault", "I", false)
def tyX5 : Nat → FieldType := fun k => match k with
  | 0 => .array .int
  | 1 => .int
  | 2 => .int
  | 3 => .int
  | _ => .int
abbrev wsX50 : List Cond := u_ws RX5 TX5 5
theorem nmX5 : ∀ a, a < 5 → ∀ b, b < 5 → a ≠ b → (TX5 a).2.1 ≠ (TX5 b).2.1 := by decide +kernel
theorem tyX5_ok : ∀ k, k < 5 → parseFieldDescriptor (TX5 k).2.2.1 = some (tyX5 k) := by decide +kernel
abbrev cX5_init : ByteArray := prog_7_method_1_code
def yX5_init : MethodName := ⟨RX5, "<init>", "()V"⟩
abbrev cX5_isFull : ByteArray := prog_7_method_2_code
def yX5_isFull : MethodName := ⟨RX5, "isFull", "()Z"⟩
abbrev cX5_size : ByteArray := prog_7_method_3_code
def yX5_size : MethodName := ⟨RX5, "size", "()I"⟩
abbrev cX5_latestFault : ByteArray := prog_7_method_4_code
def yX5_latestFault : MethodName := ⟨RX5, "latestFault", "()I"⟩
abbrev cX5_add : ByteArray := prog_7_method_5_code
def yX5_add : MethodName := ⟨RX5, "add", "(I)I"⟩
abbrev cX5_readInto : ByteArray := prog_7_method_6_code
def yX5_readInto : MethodName := ⟨RX5, "readInto", "(LClueLeave$City;)I"⟩
abbrev cX5_readLaw : ByteArray := prog_7_method_7_code
def yX5_readLaw : MethodName := ⟨RX5, "readLaw", "(LClueLeave$City;)Z"⟩
abbrev cX5_readClues : ByteArray := prog_7_method_8_code
def yX5_readClues : MethodName := ⟨RX5, "readClues", "(LClueLeave$City;)V"⟩
abbrev cX5_readClue : ByteArray := prog_7_method_9_code
def yX5_readClue : MethodName := ⟨RX5, "readClue", "(LClueLeave$City;)Z"⟩
abbrev cX5_kindBy : ByteArray := prog_7_method_10_code
def yX5_kindBy : MethodName := ⟨RX5, "kindBy", "(I)I"⟩
abbrev cX5_take : ByteArray := prog_7_method_11_code
def yX5_take : MethodName := ⟨RX5, "take", "(I)Z"⟩
abbrev cX5_takeNumber : ByteArray := prog_7_method_12_code
def yX5_takeNumber : MethodName := ⟨RX5, "takeNumber", "(II)I"⟩
abbrev cX5_blame : ByteArray := prog_7_method_13_code
def yX5_blame : MethodName := ⟨RX5, "blame", "(I)Z"⟩
def RX6 : String := "ClueLeave"
def TX6 : u_T := fun k => match k with
  | 0 => ("ClueLeave", "rows", "LClueLeave$Rows;", true)
  | 1 => ("ClueLeave", "tape", "LClueLeave$Tape;", true)
  | 2 => ("ClueLeave", "acts", "LClueLeave$Acts;", true)
  | 3 => ("ClueLeave", "search", "LClueLeave$RotaSearch;", true)
  | 4 => ("ClueLeave", "asks", "LClueLeave$Asks;", true)
  | 5 => ("ClueLeave", "city", "LClueLeave$City;", true)
  | 6 => ("ClueLeave", "draft", "LClueLeave$City;", true)
  | 7 => ("ClueLeave", "images", "[LClueLeave$City;", true)
  | _ => ("ClueLeave", "finding", "I", false)
def tyX6 : Nat → FieldType := fun k => match k with
  | 0 => .object "ClueLeave$Rows"
  | 1 => .object "ClueLeave$Tape"
  | 2 => .object "ClueLeave$Acts"
  | 3 => .object "ClueLeave$RotaSearch"
  | 4 => .object "ClueLeave$Asks"
  | 5 => .object "ClueLeave$City"
  | 6 => .object "ClueLeave$City"
  | 7 => .array (.object "ClueLeave$City")
  | _ => .int
abbrev wsX60 : List Cond := u_ws RX6 TX6 9
theorem nmX6 : ∀ a, a < 9 → ∀ b, b < 9 → a ≠ b → (TX6 a).2.1 ≠ (TX6 b).2.1 := by decide +kernel
theorem tyX6_ok : ∀ k, k < 9 → parseFieldDescriptor (TX6 k).2.2.1 = some (tyX6 k) := by decide +kernel
abbrev cX6_init : ByteArray := prog_1_method_1_code
def yX6_init : MethodName := ⟨RX6, "<init>", "()V"⟩
abbrev cX6_row : ByteArray := prog_1_method_2_code
def yX6_row : MethodName := ⟨RX6, "row", "(III)I"⟩
abbrev cX6_set : ByteArray := prog_1_method_3_code
def yX6_set : MethodName := ⟨RX6, "set", "(III)I"⟩
abbrev cX6_copy : ByteArray := prog_1_method_4_code
def yX6_copy : MethodName := ⟨RX6, "copy", "(IIIII)I"⟩
abbrev cX6_drop : ByteArray := prog_1_method_5_code
def yX6_drop : MethodName := ⟨RX6, "drop", "(I)I"⟩
abbrev cX6_feed : ByteArray := prog_1_method_6_code
def yX6_feed : MethodName := ⟨RX6, "feed", "(I)I"⟩
abbrev cX6_city : ByteArray := prog_1_method_7_code
def yX6_city : MethodName := ⟨RX6, "city", "()I"⟩
abbrev cX6_fault : ByteArray := prog_1_method_8_code
def yX6_fault : MethodName := ⟨RX6, "fault", "()I"⟩
abbrev cX6_days : ByteArray := prog_1_method_9_code
def yX6_days : MethodName := ⟨RX6, "days", "(I)I"⟩
abbrev cX6_bribe : ByteArray := prog_1_method_10_code
def yX6_bribe : MethodName := ⟨RX6, "bribe", "(II)I"⟩
abbrev cX6_learn : ByteArray := prog_1_method_11_code
def yX6_learn : MethodName := ⟨RX6, "learn", "(II)I"⟩
abbrev cX6_shift : ByteArray := prog_1_method_12_code
def yX6_shift : MethodName := ⟨RX6, "shift", "(II)I"⟩
abbrev cX6_undo : ByteArray := prog_1_method_13_code
def yX6_undo : MethodName := ⟨RX6, "undo", "()I"⟩
abbrev cX6_clue : ByteArray := prog_1_method_14_code
def yX6_clue : MethodName := ⟨RX6, "clue", "(II)I"⟩
abbrev cX6_ahead : ByteArray := prog_1_method_15_code
def yX6_ahead : MethodName := ⟨RX6, "ahead", "(II)I"⟩
abbrev cX6_first : ByteArray := prog_1_method_16_code
def yX6_first : MethodName := ⟨RX6, "first", "(I)I"⟩
abbrev cX6_rota : ByteArray := prog_1_method_17_code
def yX6_rota : MethodName := ⟨RX6, "rota", "(II)I"⟩
abbrev cX6_when : ByteArray := prog_1_method_18_code
def yX6_when : MethodName := ⟨RX6, "when", "(II)I"⟩
abbrev cX6_enough : ByteArray := prog_1_method_19_code
def yX6_enough : MethodName := ⟨RX6, "enough", "(II)I"⟩
abbrev cX6_clash : ByteArray := prog_1_method_20_code
def yX6_clash : MethodName := ⟨RX6, "clash", "(II)I"⟩
abbrev cX6_bribes : ByteArray := prog_1_method_21_code
def yX6_bribes : MethodName := ⟨RX6, "bribes", "(III)I"⟩
abbrev cX6_fits : ByteArray := prog_1_method_22_code
def yX6_fits : MethodName := ⟨RX6, "fits", "(IIIII)I"⟩
abbrev cX6_strike : ByteArray := prog_1_method_23_code
def yX6_strike : MethodName := ⟨RX6, "strike", "(III)I"⟩
abbrev cX6_drawn : ByteArray := prog_1_method_24_code
def yX6_drawn : MethodName := ⟨RX6, "drawn", "(III)I"⟩
abbrev cX6_image : ByteArray := prog_1_method_25_code
def yX6_image : MethodName := ⟨RX6, "image", "(I)I"⟩
abbrev cX6_restore : ByteArray := prog_1_method_26_code
def yX6_restore : MethodName := ⟨RX6, "restore", "(I)I"⟩
abbrev cX6_kind : ByteArray := prog_1_method_27_code
def yX6_kind : MethodName := ⟨RX6, "kind", "(I)I"⟩
abbrev cX6_as : ByteArray := prog_1_method_28_code
def yX6_as : MethodName := ⟨RX6, "as", "(II)I"⟩
abbrev cX6_ask : ByteArray := prog_1_method_29_code
def yX6_ask : MethodName := ⟨RX6, "ask", "(II)I"⟩
abbrev cX6_trace : ByteArray := prog_1_method_30_code
def yX6_trace : MethodName := ⟨RX6, "trace", "(I)I"⟩
abbrev cX6_count : ByteArray := prog_1_method_31_code
def yX6_count : MethodName := ⟨RX6, "count", "(I)I"⟩
abbrev cX6_status : ByteArray := prog_1_method_32_code
def yX6_status : MethodName := ⟨RX6, "status", "()I"⟩
abbrev cX6_found : ByteArray := prog_1_method_33_code
def yX6_found : MethodName := ⟨RX6, "found", "(I)I"⟩
abbrev cX6_sound : ByteArray := prog_1_method_34_code
def yX6_sound : MethodName := ⟨RX6, "sound", "(I)I"⟩
abbrev cX6_isAsTold : ByteArray := prog_1_method_35_code
def yX6_isAsTold : MethodName := ⟨RX6, "isAsTold", "(LClueLeave$City;III)Z"⟩
abbrev cX6_tellSet : ByteArray := prog_1_method_36_code
def yX6_tellSet : MethodName := ⟨RX6, "tellSet", "(II)I"⟩
abbrev cX6_isWithin : ByteArray := prog_1_method_37_code
def yX6_isWithin : MethodName := ⟨RX6, "isWithin", "(III)Z"⟩
abbrev cX6_isIn : ByteArray := prog_1_method_38_code
def yX6_isIn : MethodName := ⟨RX6, "isIn", "(II)Z"⟩
abbrev cX6_onlyOne : ByteArray := prog_1_method_39_code
def yX6_onlyOne : MethodName := ⟨RX6, "onlyOne", "(I)I"⟩
abbrev cX6_power : ByteArray := prog_1_method_40_code
def yX6_power : MethodName := ⟨RX6, "power", "(II)I"⟩
abbrev cX6_greatestDivisor : ByteArray := prog_1_method_41_code
def yX6_greatestDivisor : MethodName := ⟨RX6, "greatestDivisor", "(II)I"⟩
def RX7 : String := "ClueLeaveModel"
def TX7 : u_T := fun k => match k with
  | 0 => ("ClueLeaveModel", "lane", "[I", true)
  | 1 => ("ClueLeaveModel", "many", "[I", true)
  | 2 => ("ClueLeaveModel", "items", "[I", true)
  | 3 => ("ClueLeaveModel", "spare", "[I", true)
  | 4 => ("ClueLeaveModel", "status", "I", false)
  | 5 => ("ClueLeaveModel", "tape", "[I", true)
  | 6 => ("ClueLeaveModel", "taped", "I", false)
  | 7 => ("ClueLeaveModel", "faultKind", "I", false)
  | 8 => ("ClueLeaveModel", "faultPlace", "I", false)
  | 9 => ("ClueLeaveModel", "at", "I", false)
  | 10 => ("ClueLeaveModel", "start", "I", false)
  | 11 => ("ClueLeaveModel", "token", "I", false)
  | 12 => ("ClueLeaveModel", "value", "I", false)
  | 13 => ("ClueLeaveModel", "now", "[I", true)
  | 14 => ("ClueLeaveModel", "draft", "[I", true)
  | 15 => ("ClueLeaveModel", "tried", "[I", true)
  | 16 => ("ClueLeaveModel", "past", "[I", true)
  | 17 => ("ClueLeaveModel", "acts", "I", false)
  | 18 => ("ClueLeaveModel", "images", "[I", true)
  | 19 => ("ClueLeaveModel", "kept", "[Z", true)
  | 20 => ("ClueLeaveModel", "best", "[I", true)
  | 21 => ("ClueLeaveModel", "trace", "[I", true)
  | _ => ("ClueLeaveModel", "traced", "I", false)
def tyX7 : Nat → FieldType := fun k => match k with
  | 0 => .array .int
  | 1 => .array .int
  | 2 => .array .int
  | 3 => .array .int
  | 4 => .int
  | 5 => .array .int
  | 6 => .int
  | 7 => .int
  | 8 => .int
  | 9 => .int
  | 10 => .int
  | 11 => .int
  | 12 => .int
  | 13 => .array .int
  | 14 => .array .int
  | 15 => .array .int
  | 16 => .array .int
  | 17 => .int
  | 18 => .array .int
  | 19 => .array .boolean
  | 20 => .array .int
  | 21 => .array .int
  | _ => .int
abbrev wsX70 : List Cond := u_ws RX7 TX7 23
theorem nmX7 : ∀ a, a < 23 → ∀ b, b < 23 → a ≠ b → (TX7 a).2.1 ≠ (TX7 b).2.1 := by decide +kernel
theorem tyX7_ok : ∀ k, k < 23 → parseFieldDescriptor (TX7 k).2.2.1 = some (tyX7 k) := by decide +kernel
abbrev cX7_init : ByteArray := prog_9_method_1_code
def yX7_init : MethodName := ⟨RX7, "<init>", "()V"⟩
abbrev cX7_in : ByteArray := prog_9_method_3_code
def yX7_in : MethodName := ⟨RX7, "in", "(III)Z"⟩
abbrev cX7_has : ByteArray := prog_9_method_4_code
def yX7_has : MethodName := ⟨RX7, "has", "(II)Z"⟩
abbrev cX7_ones : ByteArray := prog_9_method_5_code
def yX7_ones : MethodName := ⟨RX7, "ones", "(I)I"⟩
abbrev cX7_found : ByteArray := prog_9_method_6_code
def yX7_found : MethodName := ⟨RX7, "found", "(I)I"⟩
abbrev cX7_well : ByteArray := prog_9_method_7_code
def yX7_well : MethodName := ⟨RX7, "well", "(I)I"⟩
abbrev cX7_copies : ByteArray := prog_9_method_8_code
def yX7_copies : MethodName := ⟨RX7, "copies", "([II[II)V"⟩
abbrev cX7_isRow : ByteArray := prog_9_method_9_code
def yX7_isRow : MethodName := ⟨RX7, "isRow", "(I)Z"⟩
abbrev cX7_isMissing : ByteArray := prog_9_method_10_code
def yX7_isMissing : MethodName := ⟨RX7, "isMissing", "(I)Z"⟩
abbrev cX7_cut : ByteArray := prog_9_method_11_code
def yX7_cut : MethodName := ⟨RX7, "cut", "(II)I"⟩
abbrev cX7_row : ByteArray := prog_9_method_12_code
def yX7_row : MethodName := ⟨RX7, "row", "(III)I"⟩
abbrev cX7_set : ByteArray := prog_9_method_13_code
def yX7_set : MethodName := ⟨RX7, "set", "(III)I"⟩
abbrev cX7_isPart : ByteArray := prog_9_method_14_code
def yX7_isPart : MethodName := ⟨RX7, "isPart", "(III)Z"⟩
abbrev cX7_copy : ByteArray := prog_9_method_15_code
def yX7_copy : MethodName := ⟨RX7, "copy", "(IIIII)I"⟩
abbrev cX7_drop : ByteArray := prog_9_method_16_code
def yX7_drop : MethodName := ⟨RX7, "drop", "(I)I"⟩
abbrev cX7_feed : ByteArray := prog_9_method_17_code
def yX7_feed : MethodName := ⟨RX7, "feed", "(I)I"⟩
abbrev cX7_byteAt : ByteArray := prog_9_method_18_code
def yX7_byteAt : MethodName := ⟨RX7, "byteAt", "(I)I"⟩
abbrev cX7_advances : ByteArray := prog_9_method_19_code
def yX7_advances : MethodName := ⟨RX7, "advances", "()V"⟩
abbrev cX7_isWell : ByteArray := prog_9_method_20_code
def yX7_isWell : MethodName := ⟨RX7, "isWell", "()Z"⟩
abbrev cX7_takes : ByteArray := prog_9_method_21_code
def yX7_takes : MethodName := ⟨RX7, "takes", "(ZI)I"⟩
abbrev cX7_figure : ByteArray := prog_9_method_22_code
def yX7_figure : MethodName := ⟨RX7, "figure", "(II)I"⟩
abbrev cX7_kindOf : ByteArray := prog_9_method_23_code
def yX7_kindOf : MethodName := ⟨RX7, "kindOf", "(I)I"⟩
abbrev cX7_next : ByteArray := prog_9_method_24_code
def yX7_next : MethodName := ⟨RX7, "next", "(II)I"⟩
abbrev cX7_readsClue : ByteArray := prog_9_method_25_code
def yX7_readsClue : MethodName := ⟨RX7, "readsClue", "()V"⟩
abbrev cX7_city : ByteArray := prog_9_method_26_code
def yX7_city : MethodName := ⟨RX7, "city", "()I"⟩
abbrev cX7_fault : ByteArray := prog_9_method_27_code
def yX7_fault : MethodName := ⟨RX7, "fault", "()I"⟩
abbrev cX7_isCity : ByteArray := prog_9_method_28_code
def yX7_isCity : MethodName := ⟨RX7, "isCity", "()Z"⟩
abbrev cX7_isClue : ByteArray := prog_9_method_29_code
def yX7_isClue : MethodName := ⟨RX7, "isClue", "(I)Z"⟩
abbrev cX7_isFar : ByteArray := prog_9_method_30_code
def yX7_isFar : MethodName := ⟨RX7, "isFar", "(I)Z"⟩
abbrev cX7_all : ByteArray := prog_9_method_31_code
def yX7_all : MethodName := ⟨RX7, "all", "([I)I"⟩
abbrev cX7_isAtWork : ByteArray := prog_9_method_32_code
def yX7_isAtWork : MethodName := ⟨RX7, "isAtWork", "([III)Z"⟩
abbrev cX7_leaves : ByteArray := prog_9_method_33_code
def yX7_leaves : MethodName := ⟨RX7, "leaves", "([II)I"⟩
abbrev cX7_workers : ByteArray := prog_9_method_34_code
def yX7_workers : MethodName := ⟨RX7, "workers", "([II)I"⟩
abbrev cX7_leftBy : ByteArray := prog_9_method_35_code
def yX7_leftBy : MethodName := ⟨RX7, "leftBy", "([II)I"⟩
abbrev cX7_leftOn : ByteArray := prog_9_method_36_code
def yX7_leftOn : MethodName := ⟨RX7, "leftOn", "([II)I"⟩
abbrev cX7_only : ByteArray := prog_9_method_37_code
def yX7_only : MethodName := ⟨RX7, "only", "(I)I"⟩
abbrev cX7_notes : ByteArray := prog_9_method_38_code
def yX7_notes : MethodName := ⟨RX7, "notes", "()V"⟩
abbrev cX7_days : ByteArray := prog_9_method_39_code
def yX7_days : MethodName := ⟨RX7, "days", "(I)I"⟩
abbrev cX7_bribe : ByteArray := prog_9_method_40_code
def yX7_bribe : MethodName := ⟨RX7, "bribe", "(II)I"⟩
abbrev cX7_puts : ByteArray := prog_9_method_41_code
def yX7_puts : MethodName := ⟨RX7, "puts", "(II)I"⟩
abbrev cX7_learn : ByteArray := prog_9_method_42_code
def yX7_learn : MethodName := ⟨RX7, "learn", "(II)I"⟩
abbrev cX7_shift : ByteArray := prog_9_method_43_code
def yX7_shift : MethodName := ⟨RX7, "shift", "(II)I"⟩
abbrev cX7_undo : ByteArray := prog_9_method_44_code
def yX7_undo : MethodName := ⟨RX7, "undo", "()I"⟩
abbrev cX7_clue : ByteArray := prog_9_method_45_code
def yX7_clue : MethodName := ⟨RX7, "clue", "(II)I"⟩
abbrev cX7_ahead : ByteArray := prog_9_method_46_code
def yX7_ahead : MethodName := ⟨RX7, "ahead", "(II)I"⟩
abbrev cX7_first : ByteArray := prog_9_method_47_code
def yX7_first : MethodName := ⟨RX7, "first", "(I)I"⟩
abbrev cX7_sureDays : ByteArray := prog_9_method_48_code
def yX7_sureDays : MethodName := ⟨RX7, "sureDays", "(I)I"⟩
abbrev cX7_counts : ByteArray := prog_9_method_49_code
def yX7_counts : MethodName := ⟨RX7, "counts", "()Z"⟩
abbrev cX7_rota : ByteArray := prog_9_method_50_code
def yX7_rota : MethodName := ⟨RX7, "rota", "(II)I"⟩
abbrev cX7_when : ByteArray := prog_9_method_51_code
def yX7_when : MethodName := ⟨RX7, "when", "(II)I"⟩
abbrev cX7_fewest : ByteArray := prog_9_method_52_code
def yX7_fewest : MethodName := ⟨RX7, "fewest", "(II)I"⟩
abbrev cX7_enough : ByteArray := prog_9_method_53_code
def yX7_enough : MethodName := ⟨RX7, "enough", "(II)I"⟩
abbrev cX7_clash : ByteArray := prog_9_method_54_code
def yX7_clash : MethodName := ⟨RX7, "clash", "(II)I"⟩
abbrev cX7_goesSo : ByteArray := prog_9_method_55_code
def yX7_goesSo : MethodName := ⟨RX7, "goesSo", "(II)Z"⟩
abbrev cX7_bribes : ByteArray := prog_9_method_56_code
def yX7_bribes : MethodName := ⟨RX7, "bribes", "(III)I"⟩
abbrev cX7_fits : ByteArray := prog_9_method_57_code
def yX7_fits : MethodName := ⟨RX7, "fits", "(IIIII)I"⟩
abbrev cX7_strike : ByteArray := prog_9_method_58_code
def yX7_strike : MethodName := ⟨RX7, "strike", "(III)I"⟩
abbrev cX7_drawn : ByteArray := prog_9_method_59_code
def yX7_drawn : MethodName := ⟨RX7, "drawn", "(III)I"⟩
abbrev cX7_image : ByteArray := prog_9_method_60_code
def yX7_image : MethodName := ⟨RX7, "image", "(I)I"⟩
abbrev cX7_restore : ByteArray := prog_9_method_61_code
def yX7_restore : MethodName := ⟨RX7, "restore", "(I)I"⟩
abbrev cX7_kindIn : ByteArray := prog_9_method_62_code
def yX7_kindIn : MethodName := ⟨RX7, "kindIn", "(I)I"⟩
abbrev cX7_kind : ByteArray := prog_9_method_63_code
def yX7_kind : MethodName := ⟨RX7, "kind", "(I)I"⟩
abbrev cX7_as : ByteArray := prog_9_method_64_code
def yX7_as : MethodName := ⟨RX7, "as", "(II)I"⟩
abbrev cX7_begins : ByteArray := prog_9_method_65_code
def yX7_begins : MethodName := ⟨RX7, "begins", "(I)V"⟩
abbrev cX7_threadMark : ByteArray := prog_9_method_66_code
def yX7_threadMark : MethodName := ⟨RX7, "threadMark", "(I)I"⟩
abbrev cX7_stainSize : ByteArray := prog_9_method_67_code
def yX7_stainSize : MethodName := ⟨RX7, "stainSize", "(I)I"⟩
abbrev cX7_threadSize : ByteArray := prog_9_method_68_code
def yX7_threadSize : MethodName := ⟨RX7, "threadSize", "(I)I"⟩
abbrev cX7_stainMark : ByteArray := prog_9_method_69_code
def yX7_stainMark : MethodName := ⟨RX7, "stainMark", "(I)I"⟩
abbrev cX7_ask : ByteArray := prog_9_method_70_code
def yX7_ask : MethodName := ⟨RX7, "ask", "(II)I"⟩
abbrev cX7_trace : ByteArray := prog_9_method_71_code
def yX7_trace : MethodName := ⟨RX7, "trace", "(I)I"⟩
abbrev cX7_count : ByteArray := prog_9_method_72_code
def yX7_count : MethodName := ⟨RX7, "count", "(I)I"⟩
abbrev cX7_status : ByteArray := prog_9_method_73_code
def yX7_status : MethodName := ⟨RX7, "status", "()I"⟩
def RJ6 : String := "java/lang/Integer"
def TJ6 : u_T := fun k => match k with
  | _ => ("", "", "", false)
def tyJ6 : Nat → FieldType := fun k => match k with
  | _ => .int
abbrev wsJ60 : List Cond := u_ws RJ6 TJ6 0
theorem nmJ6 : ∀ a, a < 0 → ∀ b, b < 0 → a ≠ b → (TJ6 a).2.1 ≠ (TJ6 b).2.1 := by decide +kernel
theorem tyJ6_ok : ∀ k, k < 0 → parseFieldDescriptor (TJ6 k).2.2.1 = some (tyJ6 k) := by decide +kernel
abbrev cJ6_numberOfTrailingZeros_0f7a4 : ByteArray := prog_10_method_48_code
def yJ6_numberOfTrailingZeros_0f7a4 : MethodName := ⟨RJ6, "numberOfTrailingZeros", "(I)I"⟩
abbrev cJ6_bitCount_0f7a4 : ByteArray := prog_10_method_49_code
def yJ6_bitCount_0f7a4 : MethodName := ⟨RJ6, "bitCount", "(I)I"⟩
def RJ9 : String := "java/lang/Math"
def TJ9 : u_T := fun k => match k with
  | _ => ("", "", "", false)
def tyJ9 : Nat → FieldType := fun k => match k with
  | _ => .int
abbrev wsJ90 : List Cond := u_ws RJ9 TJ9 0
theorem nmJ9 : ∀ a, a < 0 → ∀ b, b < 0 → a ≠ b → (TJ9 a).2.1 ≠ (TJ9 b).2.1 := by decide +kernel
theorem tyJ9_ok : ∀ k, k < 0 → parseFieldDescriptor (TJ9 k).2.2.1 = some (tyJ9 k) := by decide +kernel
abbrev cJ9_max_7cf53 : ByteArray := prog_11_method_65_code
def yJ9_max_7cf53 : MethodName := ⟨RJ9, "max", "(II)I"⟩
abbrev cJ9_min_7cf53 : ByteArray := prog_11_method_69_code
def yJ9_min_7cf53 : MethodName := ⟨RJ9, "min", "(II)I"⟩
def RJ10 : String := "java/lang/System"
def TJ10 : u_T := fun k => match k with
  | _ => ("", "", "", false)
def tyJ10 : Nat → FieldType := fun k => match k with
  | _ => .int
abbrev wsJ100 : List Cond := u_ws RJ10 TJ10 0
theorem nmJ10 : ∀ a, a < 0 → ∀ b, b < 0 → a ≠ b → (TJ10 a).2.1 ≠ (TJ10 b).2.1 := by decide +kernel
theorem tyJ10_ok : ∀ k, k < 0 → parseFieldDescriptor (TJ10 k).2.2.1 = some (tyJ10 k) := by decide +kernel
def RJ7 : String := "java/util/Arrays"
def TJ7 : u_T := fun k => match k with
  | _ => ("", "", "", false)
def tyJ7 : Nat → FieldType := fun k => match k with
  | _ => .int
abbrev wsJ70 : List Cond := u_ws RJ7 TJ7 0
theorem nmJ7 : ∀ a, a < 0 → ∀ b, b < 0 → a ≠ b → (TJ7 a).2.1 ≠ (TJ7 b).2.1 := by decide +kernel
theorem tyJ7_ok : ∀ k, k < 0 → parseFieldDescriptor (TJ7 k).2.2.1 = some (tyJ7 k) := by decide +kernel
abbrev cJ7_fill_53178 : ByteArray := prog_13_method_103_code
def yJ7_fill_53178 : MethodName := ⟨RJ7, "fill", "([II)V"⟩
def RL : String := "ClueLeaveLaw"
abbrev cL_law : ByteArray := code
def yL_law : MethodName := ⟨RL, "law", "([I)Z"⟩
def wsX0_init : List Cond := .code yX0_init cX0_init 1 none :: ([.methodLink RX0 1 objectInit, .instanceMethod objectInit, .code objectInit ⟨#[0xb1]⟩ 1 none, .arrayClass .int, .fieldLink RX0 9 "ClueLeave$Acts" "sorts" "[I", .fieldLink RX0 13 "ClueLeave$Acts" "clues" "[I", .fieldLink RX0 16 "ClueLeave$Acts" "before" "[I"] ++ wsX00)
def wsX0_kept : List Cond := .code yX0_kept cX0_kept 1 (some .int) :: ([.fieldLink RX0 19 "ClueLeave$Acts" "kept" "I"] ++ wsX00)
def wsX0_forgetAll : List Cond := .code yX0_forgetAll cX0_forgetAll 1 none :: ([.fieldLink RX0 19 "ClueLeave$Acts" "kept" "I"] ++ wsX00)
def wsX0_keep : List Cond := .code yX0_keep cX0_keep 4 none :: ([.fieldLink RX0 9 "ClueLeave$Acts" "sorts" "[I", .fieldLink RX0 23 "ClueLeave$Acts" "next" "I", .fieldLink RX0 13 "ClueLeave$Acts" "clues" "[I", .fieldLink RX0 16 "ClueLeave$Acts" "before" "[I", .fieldLink RX0 19 "ClueLeave$Acts" "kept" "I", .methodLink RX0 26 Lib.Math.min.name, .static Lib.Math.min.name, .initialized "java/lang/Math", .code Lib.Math.min.name Lib.Math.min.code 2 (some .int)] ++ wsX00)
def wsX0_takeBack : List Cond := .code yX0_takeBack cX0_takeBack 2 none :: ([.fieldLink RX0 23 "ClueLeave$Acts" "next" "I", .fieldLink RX0 19 "ClueLeave$Acts" "kept" "I", .fieldLink RX0 9 "ClueLeave$Acts" "sorts" "[I", .fieldLink RX0 16 "ClueLeave$Acts" "before" "[I", .fieldLink RX0 32 "ClueLeave$City" "bribed" "I", .fieldLink RX0 37 "ClueLeave$City" "tells" "[I", .fieldLink RX0 13 "ClueLeave$Acts" "clues" "[I", .fieldLink RX0 40 "ClueLeave$City" "off" "[I", .fieldLink RX0 43 "ClueLeave$City" "day" "I"] ++ wsX00 ++ wsX20)
def wsX1_init : List Cond := .code yX1_init cX1_init 1 none :: ([.methodLink RX1 3 objectInit, .instanceMethod objectInit, .code objectInit ⟨#[0xb1]⟩ 1 none, .arrayClass .int, .fieldLink RX1 11 "ClueLeave$Asks" "trace" "[I"] ++ wsX10)
def wsX1_traceAt : List Cond := .code yX1_traceAt cX1_traceAt 2 (some .int) :: ([.fieldLink RX1 15 "ClueLeave$Asks" "traced" "I", .fieldLink RX1 11 "ClueLeave$Asks" "trace" "[I", .constant RX1 19 (-1000000)] ++ wsX10)
def wsX1_leave : List Cond := .code yX1_leave cX1_leave 2 none :: ([.fieldLink RX1 15 "ClueLeave$Asks" "traced" "I", .fieldLink RX1 11 "ClueLeave$Asks" "trace" "[I"] ++ wsX10)
def wsX1_begin : List Cond := .code yX1_begin cX1_begin 6 (some .int) :: ([.fieldLink RX1 24 "ClueLeave$City" "kinds" "[I", .fieldLink RX1 29 "ClueLeave$Asks" "SIZES" "[I", .fieldLink RX1 32 "ClueLeave$Asks" "MARKS" "[I", .methodLink RX1 35 yX1_give, .instanceMethod yX1_give, .selects RX1 yX1_give yX1_give, .initialized RX1, .code yX1_give cX1_give 6 (some .int), .fieldLink RX1 42 "ClueLeave$City" "tells" "[I", .fieldLink RX1 45 "ClueLeave$City" "off" "[I", .methodLink RX1 38 yX1_leave, .instanceMethod yX1_leave, .selects RX1 yX1_leave yX1_leave, .code yX1_leave cX1_leave 2 none, .fieldLink RX1 15 "ClueLeave$Asks" "traced" "I", .fieldLink RX1 11 "ClueLeave$Asks" "trace" "[I", .methodLink RX1 20 yX1_begin, .instanceMethod yX1_begin, .selects RX1 yX1_begin yX1_begin] ++ wsX20 ++ wsX10)
def wsX1_give : List Cond := .code yX1_give cX1_give 6 (some .int) :: ([.fieldLink RX1 42 "ClueLeave$City" "tells" "[I", .fieldLink RX1 45 "ClueLeave$City" "off" "[I", .methodLink RX1 38 yX1_leave, .instanceMethod yX1_leave, .selects RX1 yX1_leave yX1_leave, .initialized RX1, .code yX1_leave cX1_leave 2 none, .fieldLink RX1 15 "ClueLeave$Asks" "traced" "I", .fieldLink RX1 11 "ClueLeave$Asks" "trace" "[I", .methodLink RX1 35 yX1_give, .instanceMethod yX1_give, .selects RX1 yX1_give yX1_give, .methodLink RX1 20 yX1_begin, .instanceMethod yX1_begin, .selects RX1 yX1_begin yX1_begin, .code yX1_begin cX1_begin 6 (some .int), .fieldLink RX1 24 "ClueLeave$City" "kinds" "[I", .fieldLink RX1 29 "ClueLeave$Asks" "SIZES" "[I", .fieldLink RX1 32 "ClueLeave$Asks" "MARKS" "[I"] ++ wsX20 ++ wsX10)
def wsX1_answer : List Cond := .code yX1_answer cX1_answer 4 (some .int) :: ([.fieldLink RX1 15 "ClueLeave$Asks" "traced" "I", .methodLink RX1 20 yX1_begin, .instanceMethod yX1_begin, .selects RX1 yX1_begin yX1_begin, .initialized RX1, .code yX1_begin cX1_begin 6 (some .int), .fieldLink RX1 24 "ClueLeave$City" "kinds" "[I", .fieldLink RX1 29 "ClueLeave$Asks" "SIZES" "[I", .fieldLink RX1 32 "ClueLeave$Asks" "MARKS" "[I", .methodLink RX1 35 yX1_give, .instanceMethod yX1_give, .selects RX1 yX1_give yX1_give, .code yX1_give cX1_give 6 (some .int), .fieldLink RX1 42 "ClueLeave$City" "tells" "[I", .fieldLink RX1 45 "ClueLeave$City" "off" "[I", .methodLink RX1 38 yX1_leave, .instanceMethod yX1_leave, .selects RX1 yX1_leave yX1_leave, .code yX1_leave cX1_leave 2 none, .fieldLink RX1 11 "ClueLeave$Asks" "trace" "[I"] ++ wsX10 ++ wsX20)
def wsX2_init : List Cond := .code yX2_init cX2_init 1 none :: ([.methodLink RX2 3 objectInit, .instanceMethod objectInit, .code objectInit ⟨#[0xb1]⟩ 1 none, .arrayClass .int, .fieldLink RX2 9 "ClueLeave$City" "kinds" "[I", .fieldLink RX2 15 "ClueLeave$City" "tells" "[I", .fieldLink RX2 18 "ClueLeave$City" "every" "[I", .fieldLink RX2 21 "ClueLeave$City" "off" "[I"] ++ wsX20)
def wsX2_stands : List Cond := .code yX2_stands cX2_stands 1 (some .boolean) :: ([.fieldLink RX2 24 "ClueLeave$City" "suspects" "I"] ++ wsX20)
def wsX2_has : List Cond := .code yX2_has cX2_has 2 (some .boolean) :: ([.fieldLink RX2 28 "ClueLeave$City" "clues" "I"] ++ wsX20)
def wsX2_clear : List Cond := .code yX2_clear cX2_clear 1 none :: ([.fieldLink RX2 24 "ClueLeave$City" "suspects" "I", .fieldLink RX2 31 "ClueLeave$City" "sunday" "I", .fieldLink RX2 34 "ClueLeave$City" "day" "I", .fieldLink RX2 28 "ClueLeave$City" "clues" "I", .fieldLink RX2 37 "ClueLeave$City" "bribed" "I"] ++ wsX20)
def wsX2_add : List Cond := .code yX2_add cX2_add 5 none :: ([.fieldLink RX2 9 "ClueLeave$City" "kinds" "[I", .fieldLink RX2 28 "ClueLeave$City" "clues" "I", .fieldLink RX2 15 "ClueLeave$City" "tells" "[I", .fieldLink RX2 18 "ClueLeave$City" "every" "[I", .fieldLink RX2 21 "ClueLeave$City" "off" "[I"] ++ wsX20)
def wsX2_become : List Cond := .code yX2_become cX2_become 2 none :: ([.fieldLink RX2 24 "ClueLeave$City" "suspects" "I", .fieldLink RX2 31 "ClueLeave$City" "sunday" "I", .fieldLink RX2 34 "ClueLeave$City" "day" "I", .fieldLink RX2 28 "ClueLeave$City" "clues" "I", .fieldLink RX2 37 "ClueLeave$City" "bribed" "I", .fieldLink RX2 9 "ClueLeave$City" "kinds" "[I", .methodLink RX2 40 arraycopyName, .native arraycopyName, .static arraycopyName, .initialized "java/lang/System", .fieldLink RX2 15 "ClueLeave$City" "tells" "[I", .fieldLink RX2 18 "ClueLeave$City" "every" "[I", .fieldLink RX2 21 "ClueLeave$City" "off" "[I"] ++ wsX20)
def wsX2_everyone : List Cond := .code yX2_everyone cX2_everyone 1 (some .int) :: ([.fieldLink RX2 24 "ClueLeave$City" "suspects" "I"] ++ wsX20)
def wsX6_isIn : List Cond := .code yX6_isIn cX6_isIn 2 (some .boolean) :: ([])
def wsX2_isBribed : List Cond := .code yX2_isBribed cX2_isBribed 2 (some .boolean) :: ([.fieldLink RX2 37 "ClueLeave$City" "bribed" "I", .static yX6_isIn, .initialized RX6, .code yX6_isIn cX6_isIn 2 (some .boolean)] ++ wsX20)
def wsX2_worksOn : List Cond := .code yX2_worksOn cX2_worksOn 3 (some .boolean) :: ([.fieldLink RX2 9 "ClueLeave$City" "kinds" "[I", .fieldLink RX2 31 "ClueLeave$City" "sunday" "I", .fieldLink RX2 18 "ClueLeave$City" "every" "[I", .fieldLink RX2 21 "ClueLeave$City" "off" "[I"] ++ wsX20)
def wsX2_workersOn : List Cond := .code yX2_workersOn cX2_workersOn 4 (some .int) :: ([.fieldLink RX2 28 "ClueLeave$City" "clues" "I", .methodLink RX2 50 yX2_worksOn, .instanceMethod yX2_worksOn, .selects RX2 yX2_worksOn yX2_worksOn, .initialized RX2, .code yX2_worksOn cX2_worksOn 3 (some .boolean), .fieldLink RX2 9 "ClueLeave$City" "kinds" "[I", .fieldLink RX2 31 "ClueLeave$City" "sunday" "I", .fieldLink RX2 18 "ClueLeave$City" "every" "[I", .fieldLink RX2 21 "ClueLeave$City" "off" "[I"] ++ wsX20)
def wsX2_leftByOne : List Cond := .code yX2_leftByOne cX2_leftByOne 4 (some .int) :: ([.fieldLink RX2 15 "ClueLeave$City" "tells" "[I", .fieldLink RX2 9 "ClueLeave$City" "kinds" "[I", .methodLink RX2 53 yX2_isBribed, .instanceMethod yX2_isBribed, .selects RX2 yX2_isBribed yX2_isBribed, .initialized RX2, .code yX2_isBribed cX2_isBribed 2 (some .boolean), .fieldLink RX2 37 "ClueLeave$City" "bribed" "I", .static yX6_isIn, .initialized RX6, .code yX6_isIn cX6_isIn 2 (some .boolean), .methodLink RX2 57 yX2_everyone, .instanceMethod yX2_everyone, .selects RX2 yX2_everyone yX2_everyone, .code yX2_everyone cX2_everyone 1 (some .int), .fieldLink RX2 24 "ClueLeave$City" "suspects" "I"] ++ wsX20)
def wsX2_leftBy : List Cond := .code yX2_leftBy cX2_leftBy 4 (some .int) :: ([.fieldLink RX2 28 "ClueLeave$City" "clues" "I", .methodLink RX2 57 yX2_everyone, .instanceMethod yX2_everyone, .selects RX2 yX2_everyone yX2_everyone, .initialized RX2, .code yX2_everyone cX2_everyone 1 (some .int), .fieldLink RX2 24 "ClueLeave$City" "suspects" "I", .static yX6_isIn, .initialized RX6, .code yX6_isIn cX6_isIn 2 (some .boolean), .methodLink RX2 61 yX2_leftByOne, .instanceMethod yX2_leftByOne, .selects RX2 yX2_leftByOne yX2_leftByOne, .code yX2_leftByOne cX2_leftByOne 4 (some .int), .fieldLink RX2 15 "ClueLeave$City" "tells" "[I", .fieldLink RX2 9 "ClueLeave$City" "kinds" "[I", .methodLink RX2 53 yX2_isBribed, .instanceMethod yX2_isBribed, .selects RX2 yX2_isBribed yX2_isBribed, .code yX2_isBribed cX2_isBribed 2 (some .boolean), .fieldLink RX2 37 "ClueLeave$City" "bribed" "I"] ++ wsX20)
def wsX2_leftOn_r1 : List Cond := [Cond.methodLink RX2 65 yX2_workersOn, Cond.instanceMethod yX2_workersOn, Cond.selects RX2 yX2_workersOn yX2_workersOn, Cond.initialized RX2, Cond.code yX2_workersOn cX2_workersOn 4 (some .int), Cond.fieldLink RX2 28 "ClueLeave$City" "clues" "I", Cond.methodLink RX2 50 yX2_worksOn, Cond.instanceMethod yX2_worksOn, Cond.selects RX2 yX2_worksOn yX2_worksOn, Cond.code yX2_worksOn cX2_worksOn 3 (some .boolean), Cond.fieldLink RX2 9 "ClueLeave$City" "kinds" "[I", Cond.fieldLink RX2 31 "ClueLeave$City" "sunday" "I", Cond.fieldLink RX2 18 "ClueLeave$City" "every" "[I", Cond.fieldLink RX2 21 "ClueLeave$City" "off" "[I", Cond.methodLink RX2 68 yX2_leftBy, Cond.instanceMethod yX2_leftBy, Cond.selects RX2 yX2_leftBy yX2_leftBy, Cond.code yX2_leftBy cX2_leftBy 4 (some .int), Cond.methodLink RX2 57 yX2_everyone, Cond.instanceMethod yX2_everyone, Cond.selects RX2 yX2_everyone yX2_everyone, Cond.code yX2_everyone cX2_everyone 1 (some .int), Cond.fieldLink RX2 24 "ClueLeave$City" "suspects" "I", Cond.static yX6_isIn]
def wsX2_leftOn_r2 : List Cond := [Cond.initialized RX6, Cond.code yX6_isIn cX6_isIn 2 (some .boolean), Cond.methodLink RX2 61 yX2_leftByOne, Cond.instanceMethod yX2_leftByOne, Cond.selects RX2 yX2_leftByOne yX2_leftByOne, Cond.code yX2_leftByOne cX2_leftByOne 4 (some .int), Cond.fieldLink RX2 15 "ClueLeave$City" "tells" "[I", Cond.methodLink RX2 53 yX2_isBribed, Cond.instanceMethod yX2_isBribed, Cond.selects RX2 yX2_isBribed yX2_isBribed, Cond.code yX2_isBribed cX2_isBribed 2 (some .boolean), Cond.fieldLink RX2 37 "ClueLeave$City" "bribed" "I"]
def wsX2_leftOn : List Cond := .code yX2_leftOn cX2_leftOn 2 (some .int) :: ((wsX2_leftOn_r1 ++ wsX2_leftOn_r2) ++ wsX20)
def wsJ6_bitCount_0f7a4 : List Cond := .code yJ6_bitCount_0f7a4 cJ6_bitCount_0f7a4 1 (some .int) :: ([.constant RJ6 265 (1431655765), .constant RJ6 266 (858993459), .constant RJ6 267 (252645135)])
def wsX2_fewestThatLeave_r1 : List Cond := [Cond.constant RX2 71 (-1000000), Cond.methodLink RX2 72 yJ6_bitCount_0f7a4, Cond.static yJ6_bitCount_0f7a4, Cond.initialized RJ6, Cond.code yJ6_bitCount_0f7a4 cJ6_bitCount_0f7a4 1 (some .int), Cond.constant RJ6 265 (1431655765), Cond.constant RJ6 266 (858993459), Cond.constant RJ6 267 (252645135), Cond.methodLink RX2 68 yX2_leftBy, Cond.instanceMethod yX2_leftBy, Cond.selects RX2 yX2_leftBy yX2_leftBy, Cond.initialized RX2, Cond.code yX2_leftBy cX2_leftBy 4 (some .int), Cond.fieldLink RX2 28 "ClueLeave$City" "clues" "I", Cond.methodLink RX2 57 yX2_everyone, Cond.instanceMethod yX2_everyone, Cond.selects RX2 yX2_everyone yX2_everyone, Cond.code yX2_everyone cX2_everyone 1 (some .int), Cond.fieldLink RX2 24 "ClueLeave$City" "suspects" "I", Cond.static yX6_isIn, Cond.initialized RX6, Cond.code yX6_isIn cX6_isIn 2 (some .boolean), Cond.methodLink RX2 61 yX2_leftByOne, Cond.instanceMethod yX2_leftByOne]
def wsX2_fewestThatLeave_r2 : List Cond := [Cond.selects RX2 yX2_leftByOne yX2_leftByOne, Cond.code yX2_leftByOne cX2_leftByOne 4 (some .int), Cond.fieldLink RX2 15 "ClueLeave$City" "tells" "[I", Cond.fieldLink RX2 9 "ClueLeave$City" "kinds" "[I", Cond.methodLink RX2 53 yX2_isBribed, Cond.instanceMethod yX2_isBribed, Cond.selects RX2 yX2_isBribed yX2_isBribed, Cond.code yX2_isBribed cX2_isBribed 2 (some .boolean), Cond.fieldLink RX2 37 "ClueLeave$City" "bribed" "I"]
def wsX2_fewestThatLeave : List Cond := .code yX2_fewestThatLeave cX2_fewestThatLeave 6 (some .int) :: ((wsX2_fewestThatLeave_r1 ++ wsX2_fewestThatLeave_r2) ++ wsX20)
def wsJ6_numberOfTrailingZeros_0f7a4 : List Cond := .code yJ6_numberOfTrailingZeros_0f7a4 cJ6_numberOfTrailingZeros_0f7a4 2 (some .int) :: ([.constant RJ6 264 (65536)])
def wsX6_onlyOne : List Cond := .code yX6_onlyOne cX6_onlyOne 1 (some .int) :: ([.constant RX6 185 (-1000000), .methodLink RX6 180 yJ6_bitCount_0f7a4, .static yJ6_bitCount_0f7a4, .initialized RJ6, .code yJ6_bitCount_0f7a4 cJ6_bitCount_0f7a4 1 (some .int), .constant RJ6 265 (1431655765), .constant RJ6 266 (858993459), .constant RJ6 267 (252645135), .methodLink RX6 264 yJ6_numberOfTrailingZeros_0f7a4, .static yJ6_numberOfTrailingZeros_0f7a4, .code yJ6_numberOfTrailingZeros_0f7a4 cJ6_numberOfTrailingZeros_0f7a4 2 (some .int), .constant RJ6 264 (65536)])
def wsX6_power : List Cond := .code yX6_power cX6_power 4 (some .int) :: ([])
def wsX2_tenthsSure_r1 : List Cond := [Cond.constant RX2 71 (-1000000), Cond.methodLink RX2 68 yX2_leftBy, Cond.instanceMethod yX2_leftBy, Cond.selects RX2 yX2_leftBy yX2_leftBy, Cond.initialized RX2, Cond.code yX2_leftBy cX2_leftBy 4 (some .int), Cond.fieldLink RX2 28 "ClueLeave$City" "clues" "I", Cond.methodLink RX2 57 yX2_everyone, Cond.instanceMethod yX2_everyone, Cond.selects RX2 yX2_everyone yX2_everyone, Cond.code yX2_everyone cX2_everyone 1 (some .int), Cond.fieldLink RX2 24 "ClueLeave$City" "suspects" "I", Cond.static yX6_isIn, Cond.initialized RX6, Cond.code yX6_isIn cX6_isIn 2 (some .boolean), Cond.methodLink RX2 61 yX2_leftByOne, Cond.instanceMethod yX2_leftByOne, Cond.selects RX2 yX2_leftByOne yX2_leftByOne, Cond.code yX2_leftByOne cX2_leftByOne 4 (some .int), Cond.fieldLink RX2 15 "ClueLeave$City" "tells" "[I", Cond.fieldLink RX2 9 "ClueLeave$City" "kinds" "[I", Cond.methodLink RX2 53 yX2_isBribed, Cond.instanceMethod yX2_isBribed, Cond.selects RX2 yX2_isBribed yX2_isBribed]
def wsX2_tenthsSure_r2 : List Cond := [Cond.code yX2_isBribed cX2_isBribed 2 (some .boolean), Cond.fieldLink RX2 37 "ClueLeave$City" "bribed" "I", Cond.static yX6_onlyOne, Cond.code yX6_onlyOne cX6_onlyOne 1 (some .int), Cond.constant RX6 185 (-1000000), Cond.methodLink RX6 180 yJ6_bitCount_0f7a4, Cond.static yJ6_bitCount_0f7a4, Cond.initialized RJ6, Cond.code yJ6_bitCount_0f7a4 cJ6_bitCount_0f7a4 1 (some .int), Cond.constant RJ6 265 (1431655765), Cond.constant RJ6 266 (858993459), Cond.constant RJ6 267 (252645135), Cond.methodLink RX6 264 yJ6_numberOfTrailingZeros_0f7a4, Cond.static yJ6_numberOfTrailingZeros_0f7a4, Cond.code yJ6_numberOfTrailingZeros_0f7a4 cJ6_numberOfTrailingZeros_0f7a4 2 (some .int), Cond.constant RJ6 264 (65536), Cond.methodLink RX2 72 yJ6_bitCount_0f7a4, Cond.static yX6_power, Cond.code yX6_power cX6_power 4 (some .int)]
def wsX2_tenthsSure : List Cond := .code yX2_tenthsSure cX2_tenthsSure 6 (some .int) :: ((wsX2_tenthsSure_r1 ++ wsX2_tenthsSure_r2) ++ wsX20)
def wsX3_init : List Cond := .code yX3_init cX3_init 1 none :: ([.methodLink RX3 3 objectInit, .instanceMethod objectInit, .code objectInit ⟨#[0xb1]⟩ 1 none, .classLink RX3 9 "[[I", .arrayClass .int, .fieldLink RX3 11 "ClueLeave$RotaSearch" "spares" "[[I", .fieldLink RX3 16 "ClueLeave$RotaSearch" "left" "[[I", .fieldLink RX3 19 "ClueLeave$RotaSearch" "best" "[I"] ++ wsX30)
def wsX3_mostSure : List Cond := .code yX3_mostSure cX3_mostSure 1 (some .int) :: ([.fieldLink RX3 23 "ClueLeave$RotaSearch" "most" "I"] ++ wsX30)
def wsX3_bestOff : List Cond := .code yX3_bestOff cX3_bestOff 2 (some .int) :: ([.fieldLink RX3 19 "ClueLeave$RotaSearch" "best" "[I"] ++ wsX30)
def wsX3_daysOff : List Cond := .code yX3_daysOff cX3_daysOff 5 (some .int) :: ([.fieldLink RX3 79 "ClueLeave$City" "day" "I", .methodLink RX3 82 yX2_worksOn, .instanceMethod yX2_worksOn, .selects RX2 yX2_worksOn yX2_worksOn, .initialized RX2, .code yX2_worksOn cX2_worksOn 3 (some .boolean), .fieldLink RX2 9 "ClueLeave$City" "kinds" "[I", .fieldLink RX2 31 "ClueLeave$City" "sunday" "I", .fieldLink RX2 18 "ClueLeave$City" "every" "[I", .fieldLink RX2 21 "ClueLeave$City" "off" "[I"] ++ wsX20)
def wsX3_fillSpares_r1 : List Cond := [Cond.fieldLink RX3 58 "ClueLeave$City" "clues" "I", Cond.fieldLink RX3 61 "ClueLeave$City" "every" "[I", Cond.fieldLink RX3 31 "ClueLeave$City" "off" "[I", Cond.fieldLink RX3 68 "ClueLeave$City" "suspects" "I", Cond.fieldLink RX3 11 "ClueLeave$RotaSearch" "spares" "[[I", Cond.methodLink RX3 64 yX3_daysOff, Cond.static yX3_daysOff, Cond.initialized RX3, Cond.code yX3_daysOff cX3_daysOff 5 (some .int), Cond.fieldLink RX3 79 "ClueLeave$City" "day" "I", Cond.methodLink RX3 82 yX2_worksOn, Cond.instanceMethod yX2_worksOn, Cond.selects RX2 yX2_worksOn yX2_worksOn, Cond.initialized RX2, Cond.code yX2_worksOn cX2_worksOn 3 (some .boolean), Cond.fieldLink RX2 9 "ClueLeave$City" "kinds" "[I", Cond.fieldLink RX2 31 "ClueLeave$City" "sunday" "I", Cond.fieldLink RX2 18 "ClueLeave$City" "every" "[I", Cond.fieldLink RX2 21 "ClueLeave$City" "off" "[I", Cond.methodLink RX3 71 yX2_leftByOne, Cond.instanceMethod yX2_leftByOne, Cond.selects RX2 yX2_leftByOne yX2_leftByOne, Cond.code yX2_leftByOne cX2_leftByOne 4 (some .int), Cond.fieldLink RX2 15 "ClueLeave$City" "tells" "[I"]
def wsX3_fillSpares_r2 : List Cond := [Cond.methodLink RX2 53 yX2_isBribed, Cond.instanceMethod yX2_isBribed, Cond.selects RX2 yX2_isBribed yX2_isBribed, Cond.code yX2_isBribed cX2_isBribed 2 (some .boolean), Cond.fieldLink RX2 37 "ClueLeave$City" "bribed" "I", Cond.static yX6_isIn, Cond.initialized RX6, Cond.code yX6_isIn cX6_isIn 2 (some .boolean), Cond.methodLink RX2 57 yX2_everyone, Cond.instanceMethod yX2_everyone, Cond.selects RX2 yX2_everyone yX2_everyone, Cond.code yX2_everyone cX2_everyone 1 (some .int), Cond.fieldLink RX2 24 "ClueLeave$City" "suspects" "I"]
def wsX3_fillSpares : List Cond := .code yX3_fillSpares cX3_fillSpares 8 none :: ((wsX3_fillSpares_r1 ++ wsX3_fillSpares_r2) ++ wsX20 ++ wsX30)
def wsJ7_fill_53178 : List Cond := .code yJ7_fill_53178 cJ7_fill_53178 4 none :: ([])
def wsX3_narrow : List Cond := .code yX3_narrow cX3_narrow 6 none :: ([.fieldLink RX3 58 "ClueLeave$City" "clues" "I", .fieldLink RX3 11 "ClueLeave$RotaSearch" "spares" "[[I", .fieldLink RX3 31 "ClueLeave$City" "off" "[I", .fieldLink RX3 68 "ClueLeave$City" "suspects" "I", .fieldLink RX3 16 "ClueLeave$RotaSearch" "left" "[[I"] ++ wsX20 ++ wsX30)
def wsX3_sureDays : List Cond := .code yX3_sureDays cX3_sureDays 6 (some .int) :: ([.fieldLink RX3 68 "ClueLeave$City" "suspects" "I", .fieldLink RX3 16 "ClueLeave$RotaSearch" "left" "[[I", .fieldLink RX3 58 "ClueLeave$City" "clues" "I", .methodLink RX3 85 yJ6_bitCount_0f7a4, .static yJ6_bitCount_0f7a4, .initialized RJ6, .code yJ6_bitCount_0f7a4 cJ6_bitCount_0f7a4 1 (some .int), .constant RJ6 265 (1431655765), .constant RJ6 266 (858993459), .constant RJ6 267 (252645135)] ++ wsX20 ++ wsX30)
def wsX3_turn : List Cond := .code yX3_turn cX3_turn 2 (some .int) :: ([.fieldLink RX3 58 "ClueLeave$City" "clues" "I", .fieldLink RX3 31 "ClueLeave$City" "off" "[I", .fieldLink RX3 61 "ClueLeave$City" "every" "[I"] ++ wsX20)
def wsX3_run_r1 : List Cond := [Cond.fieldLink RX3 31 "ClueLeave$City" "off" "[I", Cond.fieldLink RX3 16 "ClueLeave$RotaSearch" "left" "[[I", Cond.fieldLink RX3 23 "ClueLeave$RotaSearch" "most" "I", Cond.fieldLink RX3 19 "ClueLeave$RotaSearch" "best" "[I", Cond.methodLink RX3 49 arraycopyName, Cond.native arraycopyName, Cond.static arraycopyName, Cond.initialized "java/lang/System", Cond.methodLink RX3 27 yX3_fillSpares, Cond.instanceMethod yX3_fillSpares, Cond.selects RX3 yX3_fillSpares yX3_fillSpares, Cond.initialized RX3, Cond.code yX3_fillSpares cX3_fillSpares 8 none, Cond.fieldLink RX3 58 "ClueLeave$City" "clues" "I", Cond.fieldLink RX3 61 "ClueLeave$City" "every" "[I", Cond.fieldLink RX3 68 "ClueLeave$City" "suspects" "I", Cond.fieldLink RX3 11 "ClueLeave$RotaSearch" "spares" "[[I", Cond.methodLink RX3 64 yX3_daysOff, Cond.static yX3_daysOff, Cond.code yX3_daysOff cX3_daysOff 5 (some .int), Cond.fieldLink RX3 79 "ClueLeave$City" "day" "I", Cond.methodLink RX3 82 yX2_worksOn, Cond.instanceMethod yX2_worksOn, Cond.selects RX2 yX2_worksOn yX2_worksOn]
def wsX3_run_r2 : List Cond := [Cond.initialized RX2, Cond.code yX2_worksOn cX2_worksOn 3 (some .boolean), Cond.fieldLink RX2 9 "ClueLeave$City" "kinds" "[I", Cond.fieldLink RX2 31 "ClueLeave$City" "sunday" "I", Cond.fieldLink RX2 18 "ClueLeave$City" "every" "[I", Cond.fieldLink RX2 21 "ClueLeave$City" "off" "[I", Cond.methodLink RX3 71 yX2_leftByOne, Cond.instanceMethod yX2_leftByOne, Cond.selects RX2 yX2_leftByOne yX2_leftByOne, Cond.code yX2_leftByOne cX2_leftByOne 4 (some .int), Cond.fieldLink RX2 15 "ClueLeave$City" "tells" "[I", Cond.methodLink RX2 53 yX2_isBribed, Cond.instanceMethod yX2_isBribed, Cond.selects RX2 yX2_isBribed yX2_isBribed, Cond.code yX2_isBribed cX2_isBribed 2 (some .boolean), Cond.fieldLink RX2 37 "ClueLeave$City" "bribed" "I", Cond.static yX6_isIn, Cond.initialized RX6, Cond.code yX6_isIn cX6_isIn 2 (some .boolean), Cond.methodLink RX2 57 yX2_everyone, Cond.instanceMethod yX2_everyone, Cond.selects RX2 yX2_everyone yX2_everyone, Cond.code yX2_everyone cX2_everyone 1 (some .int), Cond.fieldLink RX2 24 "ClueLeave$City" "suspects" "I"]
def wsX3_run_r3 : List Cond := [Cond.methodLink RX3 36 yJ7_fill_53178, Cond.static yJ7_fill_53178, Cond.initialized RJ7, Cond.code yJ7_fill_53178 cJ7_fill_53178 4 none, Cond.methodLink RX3 42 yX3_narrow, Cond.instanceMethod yX3_narrow, Cond.selects RX3 yX3_narrow yX3_narrow, Cond.code yX3_narrow cX3_narrow 6 none, Cond.methodLink RX3 45 yX3_sureDays, Cond.instanceMethod yX3_sureDays, Cond.selects RX3 yX3_sureDays yX3_sureDays, Cond.code yX3_sureDays cX3_sureDays 6 (some .int), Cond.methodLink RX3 85 yJ6_bitCount_0f7a4, Cond.static yJ6_bitCount_0f7a4, Cond.initialized RJ6, Cond.code yJ6_bitCount_0f7a4 cJ6_bitCount_0f7a4 1 (some .int), Cond.constant RJ6 265 (1431655765), Cond.constant RJ6 266 (858993459), Cond.constant RJ6 267 (252645135), Cond.methodLink RX3 55 yX3_turn, Cond.static yX3_turn, Cond.code yX3_turn cX3_turn 2 (some .int)]
def wsX3_run : List Cond := .code yX3_run cX3_run 6 none :: ((wsX3_run_r1 ++ (wsX3_run_r2 ++ wsX3_run_r3)) ++ wsX20 ++ wsX30)
def wsX4_init : List Cond := .code yX4_init cX4_init 1 none :: ([.methodLink RX4 1 objectInit, .instanceMethod objectInit, .code objectInit ⟨#[0xb1]⟩ 1 none, .arrayClass .int, .fieldLink RX4 9 "ClueLeave$Rows" "lanes" "[I", .fieldLink RX4 13 "ClueLeave$Rows" "sizes" "[I", .classLink RX4 16 "[[I", .fieldLink RX4 18 "ClueLeave$Rows" "items" "[[I", .methodLink RX4 21 yJ7_fill_53178, .static yJ7_fill_53178, .initialized RJ7, .code yJ7_fill_53178 cJ7_fill_53178 4 none] ++ wsX40)
def wsX4_isRow : List Cond := .code yX4_isRow cX4_isRow 2 (some .boolean) :: ([])
def wsX4_isMissing : List Cond := .code yX4_isMissing cX4_isMissing 2 (some .boolean) :: ([.fieldLink RX4 9 "ClueLeave$Rows" "lanes" "[I"] ++ wsX40)
def wsX4_laneOf : List Cond := .code yX4_laneOf cX4_laneOf 2 (some .int) :: ([.fieldLink RX4 9 "ClueLeave$Rows" "lanes" "[I"] ++ wsX40)
def wsX4_hasPlaces : List Cond := .code yX4_hasPlaces cX4_hasPlaces 4 (some .boolean) :: ([.fieldLink RX4 13 "ClueLeave$Rows" "sizes" "[I"] ++ wsX40)
def wsX4_make : List Cond := .code yX4_make cX4_make 4 none :: ([.fieldLink RX4 9 "ClueLeave$Rows" "lanes" "[I", .fieldLink RX4 13 "ClueLeave$Rows" "sizes" "[I", .fieldLink RX4 18 "ClueLeave$Rows" "items" "[[I", .methodLink RX4 21 yJ7_fill_53178, .static yJ7_fill_53178, .initialized RJ7, .code yJ7_fill_53178 cJ7_fill_53178 4 none] ++ wsX40)
def wsX4_lowestBits : List Cond := .code yX4_lowestBits cX4_lowestBits 2 (some .int) :: ([])
def wsX4_put : List Cond := .code yX4_put cX4_put 4 (some .int) :: ([.fieldLink RX4 18 "ClueLeave$Rows" "items" "[[I", .fieldLink RX4 9 "ClueLeave$Rows" "lanes" "[I", .methodLink RX4 27 yX4_lowestBits, .static yX4_lowestBits, .initialized RX4, .code yX4_lowestBits cX4_lowestBits 2 (some .int)] ++ wsX40)
def wsX4_itemAt : List Cond := .code yX4_itemAt cX4_itemAt 3 (some .int) :: ([.fieldLink RX4 18 "ClueLeave$Rows" "items" "[[I"] ++ wsX40)
def wsX4_move : List Cond := .code yX4_move cX4_move 6 none :: ([.fieldLink RX4 18 "ClueLeave$Rows" "items" "[[I", .methodLink RX4 31 arraycopyName, .native arraycopyName, .static arraycopyName, .initialized "java/lang/System"] ++ wsX40)
def wsX4_takeAway : List Cond := .code yX4_takeAway cX4_takeAway 2 (some .int) :: ([.fieldLink RX4 9 "ClueLeave$Rows" "lanes" "[I", .fieldLink RX4 13 "ClueLeave$Rows" "sizes" "[I"] ++ wsX40)
def wsX4_present : List Cond := .code yX4_present cX4_present 3 (some .int) :: ([.methodLink RX4 37 yX4_isMissing, .instanceMethod yX4_isMissing, .selects RX4 yX4_isMissing yX4_isMissing, .initialized RX4, .code yX4_isMissing cX4_isMissing 2 (some .boolean), .fieldLink RX4 9 "ClueLeave$Rows" "lanes" "[I"] ++ wsX40)
def wsX5_init : List Cond := .code yX5_init cX5_init 1 none :: ([.methodLink RX5 3 objectInit, .instanceMethod objectInit, .code objectInit ⟨#[0xb1]⟩ 1 none, .arrayClass .int, .fieldLink RX5 11 "ClueLeave$Tape" "bytes" "[I", .fieldLink RX5 15 "ClueLeave$Tape" "faultPlace" "I"] ++ wsX50)
def wsX5_isFull : List Cond := .code yX5_isFull cX5_isFull 1 (some .boolean) :: ([.fieldLink RX5 19 "ClueLeave$Tape" "size" "I"] ++ wsX50)
def wsX5_size : List Cond := .code yX5_size cX5_size 1 (some .int) :: ([.fieldLink RX5 19 "ClueLeave$Tape" "size" "I"] ++ wsX50)
def wsX5_latestFault : List Cond := .code yX5_latestFault cX5_latestFault 1 (some .int) :: ([.fieldLink RX5 22 "ClueLeave$Tape" "fault" "I"] ++ wsX50)
def wsX5_add : List Cond := .code yX5_add cX5_add 2 (some .int) :: ([.fieldLink RX5 11 "ClueLeave$Tape" "bytes" "[I", .fieldLink RX5 19 "ClueLeave$Tape" "size" "I"] ++ wsX50)
def wsX5_blame : List Cond := .code yX5_blame cX5_blame 2 (some .boolean) :: ([.fieldLink RX5 22 "ClueLeave$Tape" "fault" "I", .fieldLink RX5 25 "ClueLeave$Tape" "at" "I", .fieldLink RX5 15 "ClueLeave$Tape" "faultPlace" "I"] ++ wsX50)
def wsX5_take : List Cond := .code yX5_take cX5_take 2 (some .boolean) :: ([.fieldLink RX5 25 "ClueLeave$Tape" "at" "I", .fieldLink RX5 19 "ClueLeave$Tape" "size" "I", .fieldLink RX5 11 "ClueLeave$Tape" "bytes" "[I", .methodLink RX5 62 yX5_blame, .instanceMethod yX5_blame, .selects RX5 yX5_blame yX5_blame, .initialized RX5, .code yX5_blame cX5_blame 2 (some .boolean), .fieldLink RX5 22 "ClueLeave$Tape" "fault" "I", .fieldLink RX5 15 "ClueLeave$Tape" "faultPlace" "I"] ++ wsX50)
def wsX6_isWithin : List Cond := .code yX6_isWithin cX6_isWithin 3 (some .boolean) :: ([])
def wsX5_takeNumber : List Cond := .code yX5_takeNumber cX5_takeNumber 5 (some .int) :: ([.fieldLink RX5 25 "ClueLeave$Tape" "at" "I", .fieldLink RX5 19 "ClueLeave$Tape" "size" "I", .fieldLink RX5 11 "ClueLeave$Tape" "bytes" "[I", .static yX6_isWithin, .initialized RX6, .code yX6_isWithin cX6_isWithin 3 (some .boolean), .methodLink RX5 62 yX5_blame, .instanceMethod yX5_blame, .selects RX5 yX5_blame yX5_blame, .initialized RX5, .code yX5_blame cX5_blame 2 (some .boolean), .fieldLink RX5 22 "ClueLeave$Tape" "fault" "I", .fieldLink RX5 15 "ClueLeave$Tape" "faultPlace" "I"] ++ wsX50)
def wsX5_readLaw : List Cond := .code yX5_readLaw cX5_readLaw 2 (some .boolean) :: ([.fieldLink RX5 49 "ClueLeave$City" "suspects" "I", .fieldLink RX5 52 "ClueLeave$City" "sunday" "I", .methodLink RX5 41 yX5_take, .instanceMethod yX5_take, .selects RX5 yX5_take yX5_take, .initialized RX5, .code yX5_take cX5_take 2 (some .boolean), .fieldLink RX5 25 "ClueLeave$Tape" "at" "I", .fieldLink RX5 19 "ClueLeave$Tape" "size" "I", .fieldLink RX5 11 "ClueLeave$Tape" "bytes" "[I", .methodLink RX5 62 yX5_blame, .instanceMethod yX5_blame, .selects RX5 yX5_blame yX5_blame, .code yX5_blame cX5_blame 2 (some .boolean), .fieldLink RX5 22 "ClueLeave$Tape" "fault" "I", .fieldLink RX5 15 "ClueLeave$Tape" "faultPlace" "I", .methodLink RX5 45 yX5_takeNumber, .instanceMethod yX5_takeNumber, .selects RX5 yX5_takeNumber yX5_takeNumber, .code yX5_takeNumber cX5_takeNumber 5 (some .int), .static yX6_isWithin, .initialized RX6, .code yX6_isWithin cX6_isWithin 3 (some .boolean)] ++ wsX20 ++ wsX50)
def wsX5_kindBy : List Cond := .code yX5_kindBy cX5_kindBy 1 (some .int) :: ([])
def wsX5_readClue_r1 : List Cond := [Cond.fieldLink RX5 11 "ClueLeave$Tape" "bytes" "[I", Cond.fieldLink RX5 25 "ClueLeave$Tape" "at" "I", Cond.fieldLink RX5 65 "ClueLeave$City" "clues" "I", Cond.methodLink RX5 58 yX5_kindBy, Cond.static yX5_kindBy, Cond.initialized RX5, Cond.code yX5_kindBy cX5_kindBy 1 (some .int), Cond.methodLink RX5 62 yX5_blame, Cond.instanceMethod yX5_blame, Cond.selects RX5 yX5_blame yX5_blame, Cond.code yX5_blame cX5_blame 2 (some .boolean), Cond.fieldLink RX5 22 "ClueLeave$Tape" "fault" "I", Cond.fieldLink RX5 15 "ClueLeave$Tape" "faultPlace" "I", Cond.methodLink RX5 68 yX2_everyone, Cond.instanceMethod yX2_everyone, Cond.selects RX2 yX2_everyone yX2_everyone, Cond.initialized RX2, Cond.code yX2_everyone cX2_everyone 1 (some .int), Cond.fieldLink RX2 24 "ClueLeave$City" "suspects" "I", Cond.methodLink RX5 45 yX5_takeNumber, Cond.instanceMethod yX5_takeNumber, Cond.selects RX5 yX5_takeNumber yX5_takeNumber, Cond.code yX5_takeNumber cX5_takeNumber 5 (some .int), Cond.fieldLink RX5 19 "ClueLeave$Tape" "size" "I"]
def wsX5_readClue_r2 : List Cond := [Cond.static yX6_isWithin, Cond.initialized RX6, Cond.code yX6_isWithin cX6_isWithin 3 (some .boolean), Cond.methodLink RX5 41 yX5_take, Cond.instanceMethod yX5_take, Cond.selects RX5 yX5_take yX5_take, Cond.code yX5_take cX5_take 2 (some .boolean), Cond.methodLink RX5 72 yX2_add, Cond.instanceMethod yX2_add, Cond.selects RX2 yX2_add yX2_add, Cond.code yX2_add cX2_add 5 none, Cond.fieldLink RX2 9 "ClueLeave$City" "kinds" "[I", Cond.fieldLink RX2 28 "ClueLeave$City" "clues" "I", Cond.fieldLink RX2 15 "ClueLeave$City" "tells" "[I", Cond.fieldLink RX2 18 "ClueLeave$City" "every" "[I", Cond.fieldLink RX2 21 "ClueLeave$City" "off" "[I"]
def wsX5_readClue : List Cond := .code yX5_readClue cX5_readClue 6 (some .boolean) :: ((wsX5_readClue_r1 ++ wsX5_readClue_r2) ++ wsX50 ++ wsX20)
def wsX5_readClues_r1 : List Cond := [Cond.fieldLink RX5 25 "ClueLeave$Tape" "at" "I", Cond.fieldLink RX5 19 "ClueLeave$Tape" "size" "I", Cond.methodLink RX5 55 yX5_readClue, Cond.instanceMethod yX5_readClue, Cond.selects RX5 yX5_readClue yX5_readClue, Cond.initialized RX5, Cond.code yX5_readClue cX5_readClue 6 (some .boolean), Cond.fieldLink RX5 11 "ClueLeave$Tape" "bytes" "[I", Cond.fieldLink RX5 65 "ClueLeave$City" "clues" "I", Cond.methodLink RX5 58 yX5_kindBy, Cond.static yX5_kindBy, Cond.code yX5_kindBy cX5_kindBy 1 (some .int), Cond.methodLink RX5 62 yX5_blame, Cond.instanceMethod yX5_blame, Cond.selects RX5 yX5_blame yX5_blame, Cond.code yX5_blame cX5_blame 2 (some .boolean), Cond.fieldLink RX5 22 "ClueLeave$Tape" "fault" "I", Cond.fieldLink RX5 15 "ClueLeave$Tape" "faultPlace" "I", Cond.methodLink RX5 68 yX2_everyone, Cond.instanceMethod yX2_everyone, Cond.selects RX2 yX2_everyone yX2_everyone, Cond.initialized RX2, Cond.code yX2_everyone cX2_everyone 1 (some .int), Cond.fieldLink RX2 24 "ClueLeave$City" "suspects" "I"]
def wsX5_readClues_r2 : List Cond := [Cond.methodLink RX5 45 yX5_takeNumber, Cond.instanceMethod yX5_takeNumber, Cond.selects RX5 yX5_takeNumber yX5_takeNumber, Cond.code yX5_takeNumber cX5_takeNumber 5 (some .int), Cond.static yX6_isWithin, Cond.initialized RX6, Cond.code yX6_isWithin cX6_isWithin 3 (some .boolean), Cond.methodLink RX5 41 yX5_take, Cond.instanceMethod yX5_take, Cond.selects RX5 yX5_take yX5_take, Cond.code yX5_take cX5_take 2 (some .boolean), Cond.methodLink RX5 72 yX2_add, Cond.instanceMethod yX2_add, Cond.selects RX2 yX2_add yX2_add, Cond.code yX2_add cX2_add 5 none, Cond.fieldLink RX2 9 "ClueLeave$City" "kinds" "[I", Cond.fieldLink RX2 28 "ClueLeave$City" "clues" "I", Cond.fieldLink RX2 15 "ClueLeave$City" "tells" "[I", Cond.fieldLink RX2 18 "ClueLeave$City" "every" "[I", Cond.fieldLink RX2 21 "ClueLeave$City" "off" "[I"]
def wsX5_readClues : List Cond := .code yX5_readClues cX5_readClues 3 none :: ((wsX5_readClues_r1 ++ wsX5_readClues_r2) ++ wsX50 ++ wsX20)
def wsX5_readInto_r1 : List Cond := [Cond.fieldLink RX5 25 "ClueLeave$Tape" "at" "I", Cond.fieldLink RX5 15 "ClueLeave$Tape" "faultPlace" "I", Cond.fieldLink RX5 19 "ClueLeave$Tape" "size" "I", Cond.methodLink RX5 28 yX2_clear, Cond.instanceMethod yX2_clear, Cond.selects RX2 yX2_clear yX2_clear, Cond.initialized RX2, Cond.code yX2_clear cX2_clear 1 none, Cond.fieldLink RX2 24 "ClueLeave$City" "suspects" "I", Cond.fieldLink RX2 31 "ClueLeave$City" "sunday" "I", Cond.fieldLink RX2 34 "ClueLeave$City" "day" "I", Cond.fieldLink RX2 28 "ClueLeave$City" "clues" "I", Cond.fieldLink RX2 37 "ClueLeave$City" "bribed" "I", Cond.methodLink RX5 33 yX5_readLaw, Cond.instanceMethod yX5_readLaw, Cond.selects RX5 yX5_readLaw yX5_readLaw, Cond.initialized RX5, Cond.code yX5_readLaw cX5_readLaw 2 (some .boolean), Cond.fieldLink RX5 49 "ClueLeave$City" "suspects" "I", Cond.fieldLink RX5 52 "ClueLeave$City" "sunday" "I", Cond.methodLink RX5 41 yX5_take, Cond.instanceMethod yX5_take, Cond.selects RX5 yX5_take yX5_take, Cond.code yX5_take cX5_take 2 (some .boolean)]
def wsX5_readInto_r2 : List Cond := [Cond.fieldLink RX5 11 "ClueLeave$Tape" "bytes" "[I", Cond.methodLink RX5 62 yX5_blame, Cond.instanceMethod yX5_blame, Cond.selects RX5 yX5_blame yX5_blame, Cond.code yX5_blame cX5_blame 2 (some .boolean), Cond.fieldLink RX5 22 "ClueLeave$Tape" "fault" "I", Cond.methodLink RX5 45 yX5_takeNumber, Cond.instanceMethod yX5_takeNumber, Cond.selects RX5 yX5_takeNumber yX5_takeNumber, Cond.code yX5_takeNumber cX5_takeNumber 5 (some .int), Cond.static yX6_isWithin, Cond.initialized RX6, Cond.code yX6_isWithin cX6_isWithin 3 (some .boolean), Cond.methodLink RX5 37 yX5_readClues, Cond.instanceMethod yX5_readClues, Cond.selects RX5 yX5_readClues yX5_readClues, Cond.code yX5_readClues cX5_readClues 3 none, Cond.methodLink RX5 55 yX5_readClue, Cond.instanceMethod yX5_readClue, Cond.selects RX5 yX5_readClue yX5_readClue, Cond.code yX5_readClue cX5_readClue 6 (some .boolean), Cond.fieldLink RX5 65 "ClueLeave$City" "clues" "I", Cond.methodLink RX5 58 yX5_kindBy, Cond.static yX5_kindBy]
def wsX5_readInto_r3 : List Cond := [Cond.code yX5_kindBy cX5_kindBy 1 (some .int), Cond.methodLink RX5 68 yX2_everyone, Cond.instanceMethod yX2_everyone, Cond.selects RX2 yX2_everyone yX2_everyone, Cond.code yX2_everyone cX2_everyone 1 (some .int), Cond.methodLink RX5 72 yX2_add, Cond.instanceMethod yX2_add, Cond.selects RX2 yX2_add yX2_add, Cond.code yX2_add cX2_add 5 none, Cond.fieldLink RX2 9 "ClueLeave$City" "kinds" "[I", Cond.fieldLink RX2 15 "ClueLeave$City" "tells" "[I", Cond.fieldLink RX2 18 "ClueLeave$City" "every" "[I", Cond.fieldLink RX2 21 "ClueLeave$City" "off" "[I"]
def wsX5_readInto : List Cond := .code yX5_readInto cX5_readInto 2 (some .int) :: ((wsX5_readInto_r1 ++ (wsX5_readInto_r2 ++ wsX5_readInto_r3)) ++ wsX50 ++ wsX20)
def wsX6_init_r1 : List Cond := [Cond.methodLink RX6 1 objectInit, Cond.instanceMethod objectInit, Cond.code objectInit ⟨#[0xb1]⟩ 1 none, Cond.classLink RX6 7 RX4, Cond.instantiable RX4 3, Cond.initialized RX4, Cond.fieldLink RX6 10 "ClueLeave" "rows" "LClueLeave$Rows;", Cond.classLink RX6 16 RX5, Cond.instantiable RX5 5, Cond.initialized RX5, Cond.fieldLink RX6 19 "ClueLeave" "tape" "LClueLeave$Tape;", Cond.classLink RX6 23 RX0, Cond.instantiable RX0 5, Cond.initialized RX0, Cond.fieldLink RX6 26 "ClueLeave" "acts" "LClueLeave$Acts;", Cond.classLink RX6 30 RX3, Cond.instantiable RX3 4, Cond.initialized RX3, Cond.fieldLink RX6 33 "ClueLeave" "search" "LClueLeave$RotaSearch;", Cond.classLink RX6 37 RX1, Cond.instantiable RX1 2, Cond.initialized RX1, Cond.fieldLink RX6 40 "ClueLeave" "asks" "LClueLeave$Asks;", Cond.classLink RX6 44 RX2]
def wsX6_init_r2 : List Cond := [Cond.instantiable RX2 9, Cond.initialized RX2, Cond.fieldLink RX6 47 "ClueLeave" "city" "LClueLeave$City;", Cond.fieldLink RX6 51 "ClueLeave" "draft" "LClueLeave$City;", Cond.fieldLink RX6 54 "ClueLeave" "images" "[LClueLeave$City;", Cond.methodLink RX6 9 yX4_init, Cond.instanceMethod yX4_init, Cond.code yX4_init cX4_init 1 none, Cond.methodLink RX4 1 objectInit, Cond.arrayClass .int, Cond.fieldLink RX4 9 "ClueLeave$Rows" "lanes" "[I", Cond.fieldLink RX4 13 "ClueLeave$Rows" "sizes" "[I", Cond.classLink RX4 16 "[[I", Cond.fieldLink RX4 18 "ClueLeave$Rows" "items" "[[I", Cond.methodLink RX4 21 yJ7_fill_53178, Cond.static yJ7_fill_53178, Cond.initialized RJ7, Cond.code yJ7_fill_53178 cJ7_fill_53178 4 none, Cond.instanceMethod yX5_init, Cond.code yX5_init cX5_init 1 none, Cond.methodLink RX5 3 objectInit, Cond.fieldLink RX5 11 "ClueLeave$Tape" "bytes" "[I", Cond.fieldLink RX5 15 "ClueLeave$Tape" "faultPlace" "I", Cond.instanceMethod yX0_init]
def wsX6_init_r3 : List Cond := [Cond.code yX0_init cX0_init 1 none, Cond.methodLink RX0 1 objectInit, Cond.fieldLink RX0 9 "ClueLeave$Acts" "sorts" "[I", Cond.fieldLink RX0 13 "ClueLeave$Acts" "clues" "[I", Cond.fieldLink RX0 16 "ClueLeave$Acts" "before" "[I", Cond.instanceMethod yX3_init, Cond.code yX3_init cX3_init 1 none, Cond.methodLink RX3 3 objectInit, Cond.classLink RX3 9 "[[I", Cond.fieldLink RX3 11 "ClueLeave$RotaSearch" "spares" "[[I", Cond.fieldLink RX3 16 "ClueLeave$RotaSearch" "left" "[[I", Cond.fieldLink RX3 19 "ClueLeave$RotaSearch" "best" "[I", Cond.instanceMethod yX1_init, Cond.code yX1_init cX1_init 1 none, Cond.methodLink RX1 3 objectInit, Cond.fieldLink RX1 11 "ClueLeave$Asks" "trace" "[I", Cond.instanceMethod yX2_init, Cond.code yX2_init cX2_init 1 none, Cond.methodLink RX2 3 objectInit, Cond.fieldLink RX2 9 "ClueLeave$City" "kinds" "[I", Cond.fieldLink RX2 15 "ClueLeave$City" "tells" "[I", Cond.fieldLink RX2 18 "ClueLeave$City" "every" "[I", Cond.fieldLink RX2 21 "ClueLeave$City" "off" "[I"]
def wsX6_init : List Cond := .code yX6_init cX6_init 1 none :: ((wsX6_init_r1 ++ (wsX6_init_r2 ++ wsX6_init_r3)) ++ wsX40 ++ wsX60 ++ wsX50 ++ wsX00 ++ wsX30 ++ wsX10 ++ wsX20)
def wsX6_found : List Cond := .code yX6_found cX6_found 2 (some .int) :: ([.fieldLink RX6 257 "ClueLeave" "finding" "I", .constant RX6 260 (-1000010)] ++ wsX60)
def wsX6_sound : List Cond := .code yX6_sound cX6_sound 2 (some .int) :: ([.fieldLink RX6 257 "ClueLeave" "finding" "I"] ++ wsX60)
def wsX6_row_r1 : List Cond := [Cond.fieldLink RX6 10 "ClueLeave" "rows" "LClueLeave$Rows;", Cond.constant RX6 66 (-1000001), Cond.methodLink RX6 58 yX4_isRow, Cond.instanceMethod yX4_isRow, Cond.selects RX4 yX4_isRow yX4_isRow, Cond.initialized RX4, Cond.code yX4_isRow cX4_isRow 2 (some .boolean), Cond.methodLink RX6 62 yX6_isWithin, Cond.static yX6_isWithin, Cond.initialized RX6, Cond.code yX6_isWithin cX6_isWithin 3 (some .boolean), Cond.methodLink RX6 67 yX6_found, Cond.instanceMethod yX6_found, Cond.selects RX6 yX6_found yX6_found, Cond.code yX6_found cX6_found 2 (some .int), Cond.fieldLink RX6 257 "ClueLeave" "finding" "I", Cond.constant RX6 260 (-1000010), Cond.methodLink RX6 71 yX4_make, Cond.instanceMethod yX4_make, Cond.selects RX4 yX4_make yX4_make, Cond.code yX4_make cX4_make 4 none, Cond.fieldLink RX4 9 "ClueLeave$Rows" "lanes" "[I", Cond.fieldLink RX4 13 "ClueLeave$Rows" "sizes" "[I", Cond.fieldLink RX4 18 "ClueLeave$Rows" "items" "[[I"]
def wsX6_row_r2 : List Cond := [Cond.methodLink RX4 21 yJ7_fill_53178, Cond.static yJ7_fill_53178, Cond.initialized RJ7, Cond.code yJ7_fill_53178 cJ7_fill_53178 4 none, Cond.methodLink RX6 75 yX6_sound, Cond.instanceMethod yX6_sound, Cond.selects RX6 yX6_sound yX6_sound, Cond.code yX6_sound cX6_sound 2 (some .int)]
def wsX6_row : List Cond := .code yX6_row cX6_row 4 (some .int) :: ((wsX6_row_r1 ++ wsX6_row_r2) ++ wsX60 ++ wsX40)
def wsX6_set_r1 : List Cond := [Cond.fieldLink RX6 10 "ClueLeave" "rows" "LClueLeave$Rows;", Cond.constant RX6 66 (-1000001), Cond.methodLink RX6 58 yX4_isRow, Cond.instanceMethod yX4_isRow, Cond.selects RX4 yX4_isRow yX4_isRow, Cond.initialized RX4, Cond.code yX4_isRow cX4_isRow 2 (some .boolean), Cond.methodLink RX6 78 yX4_isMissing, Cond.instanceMethod yX4_isMissing, Cond.selects RX4 yX4_isMissing yX4_isMissing, Cond.code yX4_isMissing cX4_isMissing 2 (some .boolean), Cond.fieldLink RX4 9 "ClueLeave$Rows" "lanes" "[I", Cond.methodLink RX6 67 yX6_found, Cond.instanceMethod yX6_found, Cond.selects RX6 yX6_found yX6_found, Cond.initialized RX6, Cond.code yX6_found cX6_found 2 (some .int), Cond.fieldLink RX6 257 "ClueLeave" "finding" "I", Cond.constant RX6 260 (-1000010), Cond.methodLink RX6 81 yX4_hasPlaces, Cond.instanceMethod yX4_hasPlaces, Cond.selects RX4 yX4_hasPlaces yX4_hasPlaces, Cond.code yX4_hasPlaces cX4_hasPlaces 4 (some .boolean), Cond.fieldLink RX4 13 "ClueLeave$Rows" "sizes" "[I"]
def wsX6_set_r2 : List Cond := [Cond.methodLink RX6 84 yX4_put, Cond.instanceMethod yX4_put, Cond.selects RX4 yX4_put yX4_put, Cond.code yX4_put cX4_put 4 (some .int), Cond.fieldLink RX4 18 "ClueLeave$Rows" "items" "[[I", Cond.methodLink RX4 27 yX4_lowestBits, Cond.static yX4_lowestBits, Cond.code yX4_lowestBits cX4_lowestBits 2 (some .int), Cond.methodLink RX6 75 yX6_sound, Cond.instanceMethod yX6_sound, Cond.selects RX6 yX6_sound yX6_sound, Cond.code yX6_sound cX6_sound 2 (some .int)]
def wsX6_set : List Cond := .code yX6_set cX6_set 4 (some .int) :: ((wsX6_set_r1 ++ wsX6_set_r2) ++ wsX60 ++ wsX40)
def wsX6_copy_r1 : List Cond := [Cond.fieldLink RX6 10 "ClueLeave" "rows" "LClueLeave$Rows;", Cond.constant RX6 66 (-1000001), Cond.methodLink RX6 58 yX4_isRow, Cond.instanceMethod yX4_isRow, Cond.selects RX4 yX4_isRow yX4_isRow, Cond.initialized RX4, Cond.code yX4_isRow cX4_isRow 2 (some .boolean), Cond.methodLink RX6 78 yX4_isMissing, Cond.instanceMethod yX4_isMissing, Cond.selects RX4 yX4_isMissing yX4_isMissing, Cond.code yX4_isMissing cX4_isMissing 2 (some .boolean), Cond.fieldLink RX4 9 "ClueLeave$Rows" "lanes" "[I", Cond.methodLink RX6 67 yX6_found, Cond.instanceMethod yX6_found, Cond.selects RX6 yX6_found yX6_found, Cond.initialized RX6, Cond.code yX6_found cX6_found 2 (some .int), Cond.fieldLink RX6 257 "ClueLeave" "finding" "I", Cond.constant RX6 260 (-1000010), Cond.methodLink RX6 88 yX4_laneOf, Cond.instanceMethod yX4_laneOf, Cond.selects RX4 yX4_laneOf yX4_laneOf, Cond.code yX4_laneOf cX4_laneOf 2 (some .int), Cond.methodLink RX6 81 yX4_hasPlaces]
def wsX6_copy_r2 : List Cond := [Cond.instanceMethod yX4_hasPlaces, Cond.selects RX4 yX4_hasPlaces yX4_hasPlaces, Cond.code yX4_hasPlaces cX4_hasPlaces 4 (some .boolean), Cond.fieldLink RX4 13 "ClueLeave$Rows" "sizes" "[I", Cond.methodLink RX6 91 yX4_move, Cond.instanceMethod yX4_move, Cond.selects RX4 yX4_move yX4_move, Cond.code yX4_move cX4_move 6 none, Cond.fieldLink RX4 18 "ClueLeave$Rows" "items" "[[I", Cond.methodLink RX4 31 arraycopyName, Cond.native arraycopyName, Cond.static arraycopyName, Cond.initialized "java/lang/System", Cond.methodLink RX6 75 yX6_sound, Cond.instanceMethod yX6_sound, Cond.selects RX6 yX6_sound yX6_sound, Cond.code yX6_sound cX6_sound 2 (some .int)]
def wsX6_copy : List Cond := .code yX6_copy cX6_copy 6 (some .int) :: ((wsX6_copy_r1 ++ wsX6_copy_r2) ++ wsX60 ++ wsX40)
def wsX6_drop_r1 : List Cond := [Cond.fieldLink RX6 10 "ClueLeave" "rows" "LClueLeave$Rows;", Cond.constant RX6 66 (-1000001), Cond.methodLink RX6 58 yX4_isRow, Cond.instanceMethod yX4_isRow, Cond.selects RX4 yX4_isRow yX4_isRow, Cond.initialized RX4, Cond.code yX4_isRow cX4_isRow 2 (some .boolean), Cond.methodLink RX6 78 yX4_isMissing, Cond.instanceMethod yX4_isMissing, Cond.selects RX4 yX4_isMissing yX4_isMissing, Cond.code yX4_isMissing cX4_isMissing 2 (some .boolean), Cond.fieldLink RX4 9 "ClueLeave$Rows" "lanes" "[I", Cond.methodLink RX6 67 yX6_found, Cond.instanceMethod yX6_found, Cond.selects RX6 yX6_found yX6_found, Cond.initialized RX6, Cond.code yX6_found cX6_found 2 (some .int), Cond.fieldLink RX6 257 "ClueLeave" "finding" "I", Cond.constant RX6 260 (-1000010), Cond.methodLink RX6 95 yX4_takeAway, Cond.instanceMethod yX4_takeAway, Cond.selects RX4 yX4_takeAway yX4_takeAway, Cond.code yX4_takeAway cX4_takeAway 2 (some .int), Cond.fieldLink RX4 13 "ClueLeave$Rows" "sizes" "[I"]
def wsX6_drop_r2 : List Cond := [Cond.methodLink RX6 75 yX6_sound, Cond.instanceMethod yX6_sound, Cond.selects RX6 yX6_sound yX6_sound, Cond.code yX6_sound cX6_sound 2 (some .int)]
def wsX6_drop : List Cond := .code yX6_drop cX6_drop 2 (some .int) :: ((wsX6_drop_r1 ++ wsX6_drop_r2) ++ wsX60 ++ wsX40)
def wsX6_feed : List Cond := .code yX6_feed cX6_feed 2 (some .int) :: ([.constant RX6 66 (-1000001), .fieldLink RX6 19 "ClueLeave" "tape" "LClueLeave$Tape;", .constant RX6 102 (-1000003), .methodLink RX6 62 yX6_isWithin, .static yX6_isWithin, .initialized RX6, .code yX6_isWithin cX6_isWithin 3 (some .boolean), .methodLink RX6 98 yX5_isFull, .instanceMethod yX5_isFull, .selects RX5 yX5_isFull yX5_isFull, .initialized RX5, .code yX5_isFull cX5_isFull 1 (some .boolean), .fieldLink RX5 19 "ClueLeave$Tape" "size" "I", .methodLink RX6 103 yX5_add, .instanceMethod yX5_add, .selects RX5 yX5_add yX5_add, .code yX5_add cX5_add 2 (some .int), .fieldLink RX5 11 "ClueLeave$Tape" "bytes" "[I"] ++ wsX60 ++ wsX50)
def wsX6_city_r1 : List Cond := [Cond.fieldLink RX6 19 "ClueLeave" "tape" "LClueLeave$Tape;", Cond.fieldLink RX6 51 "ClueLeave" "draft" "LClueLeave$City;", Cond.constant RX6 110 (-1000100), Cond.fieldLink RX6 47 "ClueLeave" "city" "LClueLeave$City;", Cond.fieldLink RX6 26 "ClueLeave" "acts" "LClueLeave$Acts;", Cond.fieldLink RX6 118 "ClueLeave$City" "clues" "I", Cond.methodLink RX6 106 yX5_readInto, Cond.instanceMethod yX5_readInto, Cond.selects RX5 yX5_readInto yX5_readInto, Cond.initialized RX5, Cond.code yX5_readInto cX5_readInto 2 (some .int), Cond.fieldLink RX5 25 "ClueLeave$Tape" "at" "I", Cond.fieldLink RX5 15 "ClueLeave$Tape" "faultPlace" "I", Cond.fieldLink RX5 19 "ClueLeave$Tape" "size" "I", Cond.methodLink RX5 28 yX2_clear, Cond.instanceMethod yX2_clear, Cond.selects RX2 yX2_clear yX2_clear, Cond.initialized RX2, Cond.code yX2_clear cX2_clear 1 none, Cond.fieldLink RX2 24 "ClueLeave$City" "suspects" "I", Cond.fieldLink RX2 31 "ClueLeave$City" "sunday" "I", Cond.fieldLink RX2 34 "ClueLeave$City" "day" "I", Cond.fieldLink RX2 28 "ClueLeave$City" "clues" "I", Cond.fieldLink RX2 37 "ClueLeave$City" "bribed" "I"]
def wsX6_city_r2 : List Cond := [Cond.methodLink RX5 33 yX5_readLaw, Cond.instanceMethod yX5_readLaw, Cond.selects RX5 yX5_readLaw yX5_readLaw, Cond.code yX5_readLaw cX5_readLaw 2 (some .boolean), Cond.fieldLink RX5 49 "ClueLeave$City" "suspects" "I", Cond.fieldLink RX5 52 "ClueLeave$City" "sunday" "I", Cond.methodLink RX5 41 yX5_take, Cond.instanceMethod yX5_take, Cond.selects RX5 yX5_take yX5_take, Cond.code yX5_take cX5_take 2 (some .boolean), Cond.fieldLink RX5 11 "ClueLeave$Tape" "bytes" "[I", Cond.methodLink RX5 62 yX5_blame, Cond.instanceMethod yX5_blame, Cond.selects RX5 yX5_blame yX5_blame, Cond.code yX5_blame cX5_blame 2 (some .boolean), Cond.fieldLink RX5 22 "ClueLeave$Tape" "fault" "I", Cond.methodLink RX5 45 yX5_takeNumber, Cond.instanceMethod yX5_takeNumber, Cond.selects RX5 yX5_takeNumber yX5_takeNumber, Cond.code yX5_takeNumber cX5_takeNumber 5 (some .int), Cond.static yX6_isWithin, Cond.initialized RX6, Cond.code yX6_isWithin cX6_isWithin 3 (some .boolean), Cond.methodLink RX5 37 yX5_readClues]
def wsX6_city_r3 : List Cond := [Cond.instanceMethod yX5_readClues, Cond.selects RX5 yX5_readClues yX5_readClues, Cond.code yX5_readClues cX5_readClues 3 none, Cond.methodLink RX5 55 yX5_readClue, Cond.instanceMethod yX5_readClue, Cond.selects RX5 yX5_readClue yX5_readClue, Cond.code yX5_readClue cX5_readClue 6 (some .boolean), Cond.fieldLink RX5 65 "ClueLeave$City" "clues" "I", Cond.methodLink RX5 58 yX5_kindBy, Cond.static yX5_kindBy, Cond.code yX5_kindBy cX5_kindBy 1 (some .int), Cond.methodLink RX5 68 yX2_everyone, Cond.instanceMethod yX2_everyone, Cond.selects RX2 yX2_everyone yX2_everyone, Cond.code yX2_everyone cX2_everyone 1 (some .int), Cond.methodLink RX5 72 yX2_add, Cond.instanceMethod yX2_add, Cond.selects RX2 yX2_add yX2_add, Cond.code yX2_add cX2_add 5 none, Cond.fieldLink RX2 9 "ClueLeave$City" "kinds" "[I", Cond.fieldLink RX2 15 "ClueLeave$City" "tells" "[I", Cond.fieldLink RX2 18 "ClueLeave$City" "every" "[I", Cond.fieldLink RX2 21 "ClueLeave$City" "off" "[I", Cond.methodLink RX6 111 yX2_become]
def wsX6_city_r4 : List Cond := [Cond.instanceMethod yX2_become, Cond.selects RX2 yX2_become yX2_become, Cond.code yX2_become cX2_become 2 none, Cond.methodLink RX2 40 arraycopyName, Cond.native arraycopyName, Cond.static arraycopyName, Cond.initialized "java/lang/System", Cond.methodLink RX6 115 yX0_forgetAll, Cond.instanceMethod yX0_forgetAll, Cond.selects RX0 yX0_forgetAll yX0_forgetAll, Cond.initialized RX0, Cond.code yX0_forgetAll cX0_forgetAll 1 none, Cond.fieldLink RX0 19 "ClueLeave$Acts" "kept" "I"]
def wsX6_city : List Cond := .code yX6_city cX6_city 2 (some .int) :: ((wsX6_city_r1 ++ (wsX6_city_r2 ++ (wsX6_city_r3 ++ wsX6_city_r4))) ++ wsX60 ++ wsX20 ++ wsX50 ++ wsX00)
def wsX6_fault : List Cond := .code yX6_fault cX6_fault 1 (some .int) :: ([.fieldLink RX6 19 "ClueLeave" "tape" "LClueLeave$Tape;", .methodLink RX6 122 yX5_latestFault, .instanceMethod yX5_latestFault, .selects RX5 yX5_latestFault yX5_latestFault, .initialized RX5, .code yX5_latestFault cX5_latestFault 1 (some .int), .fieldLink RX5 22 "ClueLeave$Tape" "fault" "I"] ++ wsX60 ++ wsX50)
def wsX6_days_r1 : List Cond := [Cond.fieldLink RX6 47 "ClueLeave" "city" "LClueLeave$City;", Cond.constant RX6 129 (-1000002), Cond.constant RX6 66 (-1000001), Cond.fieldLink RX6 130 "ClueLeave$City" "day" "I", Cond.constant RX6 102 (-1000003), Cond.fieldLink RX6 26 "ClueLeave" "acts" "LClueLeave$Acts;", Cond.methodLink RX6 126 yX2_stands, Cond.instanceMethod yX2_stands, Cond.selects RX2 yX2_stands yX2_stands, Cond.initialized RX2, Cond.code yX2_stands cX2_stands 1 (some .boolean), Cond.fieldLink RX2 24 "ClueLeave$City" "suspects" "I", Cond.methodLink RX6 62 yX6_isWithin, Cond.static yX6_isWithin, Cond.initialized RX6, Cond.code yX6_isWithin cX6_isWithin 3 (some .boolean), Cond.methodLink RX6 133 yX0_keep, Cond.instanceMethod yX0_keep, Cond.selects RX0 yX0_keep yX0_keep, Cond.initialized RX0, Cond.code yX0_keep cX0_keep 4 none, Cond.fieldLink RX0 9 "ClueLeave$Acts" "sorts" "[I", Cond.fieldLink RX0 23 "ClueLeave$Acts" "next" "I", Cond.fieldLink RX0 13 "ClueLeave$Acts" "clues" "[I"]
def wsX6_days_r2 : List Cond := [Cond.fieldLink RX0 16 "ClueLeave$Acts" "before" "[I", Cond.fieldLink RX0 19 "ClueLeave$Acts" "kept" "I", Cond.methodLink RX0 26 Lib.Math.min.name, Cond.static Lib.Math.min.name, Cond.initialized "java/lang/Math", Cond.code Lib.Math.min.name Lib.Math.min.code 2 (some .int), Cond.methodLink RX6 136 yX2_leftOn, Cond.instanceMethod yX2_leftOn, Cond.selects RX2 yX2_leftOn yX2_leftOn, Cond.code yX2_leftOn cX2_leftOn 2 (some .int), Cond.methodLink RX2 65 yX2_workersOn, Cond.instanceMethod yX2_workersOn, Cond.selects RX2 yX2_workersOn yX2_workersOn, Cond.code yX2_workersOn cX2_workersOn 4 (some .int), Cond.fieldLink RX2 28 "ClueLeave$City" "clues" "I", Cond.methodLink RX2 50 yX2_worksOn, Cond.instanceMethod yX2_worksOn, Cond.selects RX2 yX2_worksOn yX2_worksOn, Cond.code yX2_worksOn cX2_worksOn 3 (some .boolean), Cond.fieldLink RX2 9 "ClueLeave$City" "kinds" "[I", Cond.fieldLink RX2 31 "ClueLeave$City" "sunday" "I", Cond.fieldLink RX2 18 "ClueLeave$City" "every" "[I", Cond.fieldLink RX2 21 "ClueLeave$City" "off" "[I", Cond.methodLink RX2 68 yX2_leftBy]
def wsX6_days_r3 : List Cond := [Cond.instanceMethod yX2_leftBy, Cond.selects RX2 yX2_leftBy yX2_leftBy, Cond.code yX2_leftBy cX2_leftBy 4 (some .int), Cond.methodLink RX2 57 yX2_everyone, Cond.instanceMethod yX2_everyone, Cond.selects RX2 yX2_everyone yX2_everyone, Cond.code yX2_everyone cX2_everyone 1 (some .int), Cond.static yX6_isIn, Cond.code yX6_isIn cX6_isIn 2 (some .boolean), Cond.methodLink RX2 61 yX2_leftByOne, Cond.instanceMethod yX2_leftByOne, Cond.selects RX2 yX2_leftByOne yX2_leftByOne, Cond.code yX2_leftByOne cX2_leftByOne 4 (some .int), Cond.fieldLink RX2 15 "ClueLeave$City" "tells" "[I", Cond.methodLink RX2 53 yX2_isBribed, Cond.instanceMethod yX2_isBribed, Cond.selects RX2 yX2_isBribed yX2_isBribed, Cond.code yX2_isBribed cX2_isBribed 2 (some .boolean), Cond.fieldLink RX2 37 "ClueLeave$City" "bribed" "I"]
def wsX6_days : List Cond := .code yX6_days cX6_days 3 (some .int) :: ((wsX6_days_r1 ++ (wsX6_days_r2 ++ wsX6_days_r3)) ++ wsX60 ++ wsX20 ++ wsX00)
def wsX6_bribe_r1 : List Cond := [Cond.fieldLink RX6 47 "ClueLeave" "city" "LClueLeave$City;", Cond.constant RX6 66 (-1000001), Cond.constant RX6 129 (-1000002), Cond.fieldLink RX6 26 "ClueLeave" "acts" "LClueLeave$Acts;", Cond.fieldLink RX6 145 "ClueLeave$City" "bribed" "I", Cond.methodLink RX6 139 yX2_has, Cond.instanceMethod yX2_has, Cond.selects RX2 yX2_has yX2_has, Cond.initialized RX2, Cond.code yX2_has cX2_has 2 (some .boolean), Cond.fieldLink RX2 28 "ClueLeave$City" "clues" "I", Cond.methodLink RX6 62 yX6_isWithin, Cond.static yX6_isWithin, Cond.initialized RX6, Cond.code yX6_isWithin cX6_isWithin 3 (some .boolean), Cond.methodLink RX6 142 yX2_isBribed, Cond.instanceMethod yX2_isBribed, Cond.selects RX2 yX2_isBribed yX2_isBribed, Cond.code yX2_isBribed cX2_isBribed 2 (some .boolean), Cond.fieldLink RX2 37 "ClueLeave$City" "bribed" "I", Cond.static yX6_isIn, Cond.code yX6_isIn cX6_isIn 2 (some .boolean), Cond.methodLink RX6 133 yX0_keep, Cond.instanceMethod yX0_keep]
def wsX6_bribe_r2 : List Cond := [Cond.selects RX0 yX0_keep yX0_keep, Cond.initialized RX0, Cond.code yX0_keep cX0_keep 4 none, Cond.fieldLink RX0 9 "ClueLeave$Acts" "sorts" "[I", Cond.fieldLink RX0 23 "ClueLeave$Acts" "next" "I", Cond.fieldLink RX0 13 "ClueLeave$Acts" "clues" "[I", Cond.fieldLink RX0 16 "ClueLeave$Acts" "before" "[I", Cond.fieldLink RX0 19 "ClueLeave$Acts" "kept" "I", Cond.methodLink RX0 26 Lib.Math.min.name, Cond.static Lib.Math.min.name, Cond.initialized "java/lang/Math", Cond.code Lib.Math.min.name Lib.Math.min.code 2 (some .int)]
def wsX6_bribe : List Cond := .code yX6_bribe cX6_bribe 3 (some .int) :: ((wsX6_bribe_r1 ++ wsX6_bribe_r2) ++ wsX60 ++ wsX20 ++ wsX00)
def wsX6_learn_r1 : List Cond := [Cond.fieldLink RX6 47 "ClueLeave" "city" "LClueLeave$City;", Cond.constant RX6 66 (-1000001), Cond.fieldLink RX6 151 "ClueLeave$City" "tells" "[I", Cond.fieldLink RX6 26 "ClueLeave" "acts" "LClueLeave$Acts;", Cond.methodLink RX6 139 yX2_has, Cond.instanceMethod yX2_has, Cond.selects RX2 yX2_has yX2_has, Cond.initialized RX2, Cond.code yX2_has cX2_has 2 (some .boolean), Cond.fieldLink RX2 28 "ClueLeave$City" "clues" "I", Cond.methodLink RX6 148 yX2_everyone, Cond.instanceMethod yX2_everyone, Cond.selects RX2 yX2_everyone yX2_everyone, Cond.code yX2_everyone cX2_everyone 1 (some .int), Cond.fieldLink RX2 24 "ClueLeave$City" "suspects" "I", Cond.methodLink RX6 62 yX6_isWithin, Cond.static yX6_isWithin, Cond.initialized RX6, Cond.code yX6_isWithin cX6_isWithin 3 (some .boolean), Cond.methodLink RX6 133 yX0_keep, Cond.instanceMethod yX0_keep, Cond.selects RX0 yX0_keep yX0_keep, Cond.initialized RX0, Cond.code yX0_keep cX0_keep 4 none]
def wsX6_learn_r2 : List Cond := [Cond.fieldLink RX0 9 "ClueLeave$Acts" "sorts" "[I", Cond.fieldLink RX0 23 "ClueLeave$Acts" "next" "I", Cond.fieldLink RX0 13 "ClueLeave$Acts" "clues" "[I", Cond.fieldLink RX0 16 "ClueLeave$Acts" "before" "[I", Cond.fieldLink RX0 19 "ClueLeave$Acts" "kept" "I", Cond.methodLink RX0 26 Lib.Math.min.name, Cond.static Lib.Math.min.name, Cond.initialized "java/lang/Math", Cond.code Lib.Math.min.name Lib.Math.min.code 2 (some .int)]
def wsX6_learn : List Cond := .code yX6_learn cX6_learn 4 (some .int) :: ((wsX6_learn_r1 ++ wsX6_learn_r2) ++ wsX60 ++ wsX20 ++ wsX00)
def wsX6_shift_r1 : List Cond := [Cond.fieldLink RX6 47 "ClueLeave" "city" "LClueLeave$City;", Cond.fieldLink RX6 155 "ClueLeave$City" "every" "[I", Cond.constant RX6 66 (-1000001), Cond.fieldLink RX6 158 "ClueLeave$City" "off" "[I", Cond.fieldLink RX6 26 "ClueLeave" "acts" "LClueLeave$Acts;", Cond.methodLink RX6 139 yX2_has, Cond.instanceMethod yX2_has, Cond.selects RX2 yX2_has yX2_has, Cond.initialized RX2, Cond.code yX2_has cX2_has 2 (some .boolean), Cond.fieldLink RX2 28 "ClueLeave$City" "clues" "I", Cond.methodLink RX6 62 yX6_isWithin, Cond.static yX6_isWithin, Cond.initialized RX6, Cond.code yX6_isWithin cX6_isWithin 3 (some .boolean), Cond.methodLink RX6 133 yX0_keep, Cond.instanceMethod yX0_keep, Cond.selects RX0 yX0_keep yX0_keep, Cond.initialized RX0, Cond.code yX0_keep cX0_keep 4 none, Cond.fieldLink RX0 9 "ClueLeave$Acts" "sorts" "[I", Cond.fieldLink RX0 23 "ClueLeave$Acts" "next" "I", Cond.fieldLink RX0 13 "ClueLeave$Acts" "clues" "[I", Cond.fieldLink RX0 16 "ClueLeave$Acts" "before" "[I"]
def wsX6_shift_r2 : List Cond := [Cond.fieldLink RX0 19 "ClueLeave$Acts" "kept" "I", Cond.methodLink RX0 26 Lib.Math.min.name, Cond.static Lib.Math.min.name, Cond.initialized "java/lang/Math", Cond.code Lib.Math.min.name Lib.Math.min.code 2 (some .int)]
def wsX6_shift : List Cond := .code yX6_shift cX6_shift 4 (some .int) :: ((wsX6_shift_r1 ++ wsX6_shift_r2) ++ wsX60 ++ wsX20 ++ wsX00)
def wsX6_undo : List Cond := .code yX6_undo cX6_undo 1 (some .int) :: ([.fieldLink RX6 26 "ClueLeave" "acts" "LClueLeave$Acts;", .constant RX6 129 (-1000002), .fieldLink RX6 47 "ClueLeave" "city" "LClueLeave$City;", .methodLink RX6 161 yX0_kept, .instanceMethod yX0_kept, .selects RX0 yX0_kept yX0_kept, .initialized RX0, .code yX0_kept cX0_kept 1 (some .int), .fieldLink RX0 19 "ClueLeave$Acts" "kept" "I", .methodLink RX6 164 yX0_takeBack, .instanceMethod yX0_takeBack, .selects RX0 yX0_takeBack yX0_takeBack, .code yX0_takeBack cX0_takeBack 2 none, .fieldLink RX0 23 "ClueLeave$Acts" "next" "I", .fieldLink RX0 9 "ClueLeave$Acts" "sorts" "[I", .fieldLink RX0 16 "ClueLeave$Acts" "before" "[I", .fieldLink RX0 32 "ClueLeave$City" "bribed" "I", .fieldLink RX0 37 "ClueLeave$City" "tells" "[I", .fieldLink RX0 13 "ClueLeave$Acts" "clues" "[I", .fieldLink RX0 40 "ClueLeave$City" "off" "[I", .fieldLink RX0 43 "ClueLeave$City" "day" "I"] ++ wsX60 ++ wsX00 ++ wsX20)
def wsX6_clue_r1 : List Cond := [Cond.fieldLink RX6 47 "ClueLeave" "city" "LClueLeave$City;", Cond.constant RX6 66 (-1000001), Cond.fieldLink RX6 151 "ClueLeave$City" "tells" "[I", Cond.fieldLink RX6 155 "ClueLeave$City" "every" "[I", Cond.fieldLink RX6 158 "ClueLeave$City" "off" "[I", Cond.fieldLink RX6 130 "ClueLeave$City" "day" "I", Cond.methodLink RX6 139 yX2_has, Cond.instanceMethod yX2_has, Cond.selects RX2 yX2_has yX2_has, Cond.initialized RX2, Cond.code yX2_has cX2_has 2 (some .boolean), Cond.fieldLink RX2 28 "ClueLeave$City" "clues" "I", Cond.methodLink RX6 142 yX2_isBribed, Cond.instanceMethod yX2_isBribed, Cond.selects RX2 yX2_isBribed yX2_isBribed, Cond.code yX2_isBribed cX2_isBribed 2 (some .boolean), Cond.fieldLink RX2 37 "ClueLeave$City" "bribed" "I", Cond.static yX6_isIn, Cond.initialized RX6, Cond.code yX6_isIn cX6_isIn 2 (some .boolean), Cond.methodLink RX6 167 yX2_worksOn, Cond.instanceMethod yX2_worksOn, Cond.selects RX2 yX2_worksOn yX2_worksOn, Cond.code yX2_worksOn cX2_worksOn 3 (some .boolean)]
def wsX6_clue_r2 : List Cond := [Cond.fieldLink RX2 9 "ClueLeave$City" "kinds" "[I", Cond.fieldLink RX2 31 "ClueLeave$City" "sunday" "I", Cond.fieldLink RX2 18 "ClueLeave$City" "every" "[I", Cond.fieldLink RX2 21 "ClueLeave$City" "off" "[I", Cond.methodLink RX6 171 yX2_leftByOne, Cond.instanceMethod yX2_leftByOne, Cond.selects RX2 yX2_leftByOne yX2_leftByOne, Cond.code yX2_leftByOne cX2_leftByOne 4 (some .int), Cond.fieldLink RX2 15 "ClueLeave$City" "tells" "[I", Cond.methodLink RX2 53 yX2_isBribed, Cond.methodLink RX2 57 yX2_everyone, Cond.instanceMethod yX2_everyone, Cond.selects RX2 yX2_everyone yX2_everyone, Cond.code yX2_everyone cX2_everyone 1 (some .int), Cond.fieldLink RX2 24 "ClueLeave$City" "suspects" "I"]
def wsX6_clue : List Cond := .code yX6_clue cX6_clue 3 (some .int) :: ((wsX6_clue_r1 ++ wsX6_clue_r2) ++ wsX60 ++ wsX20)
def wsX6_ahead_r1 : List Cond := [Cond.fieldLink RX6 47 "ClueLeave" "city" "LClueLeave$City;", Cond.constant RX6 129 (-1000002), Cond.constant RX6 66 (-1000001), Cond.fieldLink RX6 130 "ClueLeave$City" "day" "I", Cond.methodLink RX6 126 yX2_stands, Cond.instanceMethod yX2_stands, Cond.selects RX2 yX2_stands yX2_stands, Cond.initialized RX2, Cond.code yX2_stands cX2_stands 1 (some .boolean), Cond.fieldLink RX2 24 "ClueLeave$City" "suspects" "I", Cond.methodLink RX6 62 yX6_isWithin, Cond.static yX6_isWithin, Cond.initialized RX6, Cond.code yX6_isWithin cX6_isWithin 3 (some .boolean), Cond.methodLink RX6 136 yX2_leftOn, Cond.instanceMethod yX2_leftOn, Cond.selects RX2 yX2_leftOn yX2_leftOn, Cond.code yX2_leftOn cX2_leftOn 2 (some .int), Cond.methodLink RX2 65 yX2_workersOn, Cond.instanceMethod yX2_workersOn, Cond.selects RX2 yX2_workersOn yX2_workersOn, Cond.code yX2_workersOn cX2_workersOn 4 (some .int), Cond.fieldLink RX2 28 "ClueLeave$City" "clues" "I", Cond.methodLink RX2 50 yX2_worksOn]
def wsX6_ahead_r2 : List Cond := [Cond.instanceMethod yX2_worksOn, Cond.selects RX2 yX2_worksOn yX2_worksOn, Cond.code yX2_worksOn cX2_worksOn 3 (some .boolean), Cond.fieldLink RX2 9 "ClueLeave$City" "kinds" "[I", Cond.fieldLink RX2 31 "ClueLeave$City" "sunday" "I", Cond.fieldLink RX2 18 "ClueLeave$City" "every" "[I", Cond.fieldLink RX2 21 "ClueLeave$City" "off" "[I", Cond.methodLink RX2 68 yX2_leftBy, Cond.instanceMethod yX2_leftBy, Cond.selects RX2 yX2_leftBy yX2_leftBy, Cond.code yX2_leftBy cX2_leftBy 4 (some .int), Cond.methodLink RX2 57 yX2_everyone, Cond.instanceMethod yX2_everyone, Cond.selects RX2 yX2_everyone yX2_everyone, Cond.code yX2_everyone cX2_everyone 1 (some .int), Cond.static yX6_isIn, Cond.code yX6_isIn cX6_isIn 2 (some .boolean), Cond.methodLink RX2 61 yX2_leftByOne, Cond.instanceMethod yX2_leftByOne, Cond.selects RX2 yX2_leftByOne yX2_leftByOne, Cond.code yX2_leftByOne cX2_leftByOne 4 (some .int), Cond.fieldLink RX2 15 "ClueLeave$City" "tells" "[I", Cond.methodLink RX2 53 yX2_isBribed, Cond.instanceMethod yX2_isBribed]
def wsX6_ahead_r3 : List Cond := [Cond.selects RX2 yX2_isBribed yX2_isBribed, Cond.code yX2_isBribed cX2_isBribed 2 (some .boolean), Cond.fieldLink RX2 37 "ClueLeave$City" "bribed" "I", Cond.methodLink RX6 174 yX2_workersOn, Cond.methodLink RX6 177 yX6_onlyOne, Cond.static yX6_onlyOne, Cond.code yX6_onlyOne cX6_onlyOne 1 (some .int), Cond.constant RX6 185 (-1000000), Cond.methodLink RX6 180 yJ6_bitCount_0f7a4, Cond.static yJ6_bitCount_0f7a4, Cond.initialized RJ6, Cond.code yJ6_bitCount_0f7a4 cJ6_bitCount_0f7a4 1 (some .int), Cond.constant RJ6 265 (1431655765), Cond.constant RJ6 266 (858993459), Cond.constant RJ6 267 (252645135), Cond.methodLink RX6 264 yJ6_numberOfTrailingZeros_0f7a4, Cond.static yJ6_numberOfTrailingZeros_0f7a4, Cond.code yJ6_numberOfTrailingZeros_0f7a4 cJ6_numberOfTrailingZeros_0f7a4 2 (some .int), Cond.constant RJ6 264 (65536)]
def wsX6_ahead : List Cond := .code yX6_ahead cX6_ahead 4 (some .int) :: ((wsX6_ahead_r1 ++ (wsX6_ahead_r2 ++ wsX6_ahead_r3)) ++ wsX60 ++ wsX20)
def wsX6_first_r1 : List Cond := [Cond.fieldLink RX6 47 "ClueLeave" "city" "LClueLeave$City;", Cond.constant RX6 129 (-1000002), Cond.constant RX6 66 (-1000001), Cond.fieldLink RX6 130 "ClueLeave$City" "day" "I", Cond.constant RX6 185 (-1000000), Cond.methodLink RX6 126 yX2_stands, Cond.instanceMethod yX2_stands, Cond.selects RX2 yX2_stands yX2_stands, Cond.initialized RX2, Cond.code yX2_stands cX2_stands 1 (some .boolean), Cond.fieldLink RX2 24 "ClueLeave$City" "suspects" "I", Cond.methodLink RX6 62 yX6_isWithin, Cond.static yX6_isWithin, Cond.initialized RX6, Cond.code yX6_isWithin cX6_isWithin 3 (some .boolean), Cond.methodLink RX6 136 yX2_leftOn, Cond.instanceMethod yX2_leftOn, Cond.selects RX2 yX2_leftOn yX2_leftOn, Cond.code yX2_leftOn cX2_leftOn 2 (some .int), Cond.methodLink RX2 65 yX2_workersOn, Cond.instanceMethod yX2_workersOn, Cond.selects RX2 yX2_workersOn yX2_workersOn, Cond.code yX2_workersOn cX2_workersOn 4 (some .int), Cond.fieldLink RX2 28 "ClueLeave$City" "clues" "I"]
def wsX6_first_r2 : List Cond := [Cond.methodLink RX2 50 yX2_worksOn, Cond.instanceMethod yX2_worksOn, Cond.selects RX2 yX2_worksOn yX2_worksOn, Cond.code yX2_worksOn cX2_worksOn 3 (some .boolean), Cond.fieldLink RX2 9 "ClueLeave$City" "kinds" "[I", Cond.fieldLink RX2 31 "ClueLeave$City" "sunday" "I", Cond.fieldLink RX2 18 "ClueLeave$City" "every" "[I", Cond.fieldLink RX2 21 "ClueLeave$City" "off" "[I", Cond.methodLink RX2 68 yX2_leftBy, Cond.instanceMethod yX2_leftBy, Cond.selects RX2 yX2_leftBy yX2_leftBy, Cond.code yX2_leftBy cX2_leftBy 4 (some .int), Cond.methodLink RX2 57 yX2_everyone, Cond.instanceMethod yX2_everyone, Cond.selects RX2 yX2_everyone yX2_everyone, Cond.code yX2_everyone cX2_everyone 1 (some .int), Cond.static yX6_isIn, Cond.code yX6_isIn cX6_isIn 2 (some .boolean), Cond.methodLink RX2 61 yX2_leftByOne, Cond.instanceMethod yX2_leftByOne, Cond.selects RX2 yX2_leftByOne yX2_leftByOne, Cond.code yX2_leftByOne cX2_leftByOne 4 (some .int), Cond.fieldLink RX2 15 "ClueLeave$City" "tells" "[I", Cond.methodLink RX2 53 yX2_isBribed]
def wsX6_first_r3 : List Cond := [Cond.instanceMethod yX2_isBribed, Cond.selects RX2 yX2_isBribed yX2_isBribed, Cond.code yX2_isBribed cX2_isBribed 2 (some .boolean), Cond.fieldLink RX2 37 "ClueLeave$City" "bribed" "I", Cond.methodLink RX6 180 yJ6_bitCount_0f7a4, Cond.static yJ6_bitCount_0f7a4, Cond.initialized RJ6, Cond.code yJ6_bitCount_0f7a4 cJ6_bitCount_0f7a4 1 (some .int), Cond.constant RJ6 265 (1431655765), Cond.constant RJ6 266 (858993459), Cond.constant RJ6 267 (252645135)]
def wsX6_first : List Cond := .code yX6_first cX6_first 4 (some .int) :: ((wsX6_first_r1 ++ (wsX6_first_r2 ++ wsX6_first_r3)) ++ wsX60 ++ wsX20)
def wsX6_rota_r1 : List Cond := [Cond.fieldLink RX6 47 "ClueLeave" "city" "LClueLeave$City;", Cond.constant RX6 129 (-1000002), Cond.constant RX6 66 (-1000001), Cond.fieldLink RX6 118 "ClueLeave$City" "clues" "I", Cond.constant RX6 185 (-1000000), Cond.fieldLink RX6 51 "ClueLeave" "draft" "LClueLeave$City;", Cond.fieldLink RX6 33 "ClueLeave" "search" "LClueLeave$RotaSearch;", Cond.methodLink RX6 126 yX2_stands, Cond.instanceMethod yX2_stands, Cond.selects RX2 yX2_stands yX2_stands, Cond.initialized RX2, Cond.code yX2_stands cX2_stands 1 (some .boolean), Cond.fieldLink RX2 24 "ClueLeave$City" "suspects" "I", Cond.methodLink RX6 62 yX6_isWithin, Cond.static yX6_isWithin, Cond.initialized RX6, Cond.code yX6_isWithin cX6_isWithin 3 (some .boolean), Cond.methodLink RX6 111 yX2_become, Cond.instanceMethod yX2_become, Cond.selects RX2 yX2_become yX2_become, Cond.code yX2_become cX2_become 2 none, Cond.fieldLink RX2 31 "ClueLeave$City" "sunday" "I", Cond.fieldLink RX2 34 "ClueLeave$City" "day" "I", Cond.fieldLink RX2 28 "ClueLeave$City" "clues" "I"]
def wsX6_rota_r2 : List Cond := [Cond.fieldLink RX2 37 "ClueLeave$City" "bribed" "I", Cond.fieldLink RX2 9 "ClueLeave$City" "kinds" "[I", Cond.methodLink RX2 40 arraycopyName, Cond.native arraycopyName, Cond.static arraycopyName, Cond.initialized "java/lang/System", Cond.fieldLink RX2 15 "ClueLeave$City" "tells" "[I", Cond.fieldLink RX2 18 "ClueLeave$City" "every" "[I", Cond.fieldLink RX2 21 "ClueLeave$City" "off" "[I", Cond.methodLink RX6 186 yX3_run, Cond.instanceMethod yX3_run, Cond.selects RX3 yX3_run yX3_run, Cond.initialized RX3, Cond.code yX3_run cX3_run 6 none, Cond.fieldLink RX3 31 "ClueLeave$City" "off" "[I", Cond.fieldLink RX3 16 "ClueLeave$RotaSearch" "left" "[[I", Cond.fieldLink RX3 23 "ClueLeave$RotaSearch" "most" "I", Cond.fieldLink RX3 19 "ClueLeave$RotaSearch" "best" "[I", Cond.methodLink RX3 49 arraycopyName, Cond.methodLink RX3 27 yX3_fillSpares, Cond.instanceMethod yX3_fillSpares, Cond.selects RX3 yX3_fillSpares yX3_fillSpares, Cond.code yX3_fillSpares cX3_fillSpares 8 none, Cond.fieldLink RX3 58 "ClueLeave$City" "clues" "I"]
def wsX6_rota_r3 : List Cond := [Cond.fieldLink RX3 61 "ClueLeave$City" "every" "[I", Cond.fieldLink RX3 68 "ClueLeave$City" "suspects" "I", Cond.fieldLink RX3 11 "ClueLeave$RotaSearch" "spares" "[[I", Cond.methodLink RX3 64 yX3_daysOff, Cond.static yX3_daysOff, Cond.code yX3_daysOff cX3_daysOff 5 (some .int), Cond.fieldLink RX3 79 "ClueLeave$City" "day" "I", Cond.methodLink RX3 82 yX2_worksOn, Cond.instanceMethod yX2_worksOn, Cond.selects RX2 yX2_worksOn yX2_worksOn, Cond.code yX2_worksOn cX2_worksOn 3 (some .boolean), Cond.methodLink RX3 71 yX2_leftByOne, Cond.instanceMethod yX2_leftByOne, Cond.selects RX2 yX2_leftByOne yX2_leftByOne, Cond.code yX2_leftByOne cX2_leftByOne 4 (some .int), Cond.methodLink RX2 53 yX2_isBribed, Cond.instanceMethod yX2_isBribed, Cond.selects RX2 yX2_isBribed yX2_isBribed, Cond.code yX2_isBribed cX2_isBribed 2 (some .boolean), Cond.static yX6_isIn, Cond.code yX6_isIn cX6_isIn 2 (some .boolean), Cond.methodLink RX2 57 yX2_everyone, Cond.instanceMethod yX2_everyone, Cond.selects RX2 yX2_everyone yX2_everyone]
def wsX6_rota_r4 : List Cond := [Cond.code yX2_everyone cX2_everyone 1 (some .int), Cond.methodLink RX3 36 yJ7_fill_53178, Cond.static yJ7_fill_53178, Cond.initialized RJ7, Cond.code yJ7_fill_53178 cJ7_fill_53178 4 none, Cond.methodLink RX3 42 yX3_narrow, Cond.instanceMethod yX3_narrow, Cond.selects RX3 yX3_narrow yX3_narrow, Cond.code yX3_narrow cX3_narrow 6 none, Cond.methodLink RX3 45 yX3_sureDays, Cond.instanceMethod yX3_sureDays, Cond.selects RX3 yX3_sureDays yX3_sureDays, Cond.code yX3_sureDays cX3_sureDays 6 (some .int), Cond.methodLink RX3 85 yJ6_bitCount_0f7a4, Cond.static yJ6_bitCount_0f7a4, Cond.initialized RJ6, Cond.code yJ6_bitCount_0f7a4 cJ6_bitCount_0f7a4 1 (some .int), Cond.constant RJ6 265 (1431655765), Cond.constant RJ6 266 (858993459), Cond.constant RJ6 267 (252645135), Cond.methodLink RX3 55 yX3_turn, Cond.static yX3_turn, Cond.code yX3_turn cX3_turn 2 (some .int), Cond.methodLink RX6 190 yX3_mostSure]
def wsX6_rota_r5 : List Cond := [Cond.instanceMethod yX3_mostSure, Cond.selects RX3 yX3_mostSure yX3_mostSure, Cond.code yX3_mostSure cX3_mostSure 1 (some .int), Cond.methodLink RX6 193 yX3_bestOff, Cond.instanceMethod yX3_bestOff, Cond.selects RX3 yX3_bestOff yX3_bestOff, Cond.code yX3_bestOff cX3_bestOff 2 (some .int)]
def wsX6_rota : List Cond := .code yX6_rota cX6_rota 3 (some .int) :: ((wsX6_rota_r1 ++ (wsX6_rota_r2 ++ (wsX6_rota_r3 ++ (wsX6_rota_r4 ++ wsX6_rota_r5)))) ++ wsX60 ++ wsX20 ++ wsX30)
def wsX6_when_r1 : List Cond := [Cond.fieldLink RX6 47 "ClueLeave" "city" "LClueLeave$City;", Cond.fieldLink RX6 196 "ClueLeave$City" "suspects" "I", Cond.constant RX6 66 (-1000001), Cond.constant RX6 185 (-1000000), Cond.fieldLink RX6 130 "ClueLeave$City" "day" "I", Cond.methodLink RX6 62 yX6_isWithin, Cond.static yX6_isWithin, Cond.initialized RX6, Cond.code yX6_isWithin cX6_isWithin 3 (some .boolean), Cond.methodLink RX6 136 yX2_leftOn, Cond.instanceMethod yX2_leftOn, Cond.selects RX2 yX2_leftOn yX2_leftOn, Cond.initialized RX2, Cond.code yX2_leftOn cX2_leftOn 2 (some .int), Cond.methodLink RX2 65 yX2_workersOn, Cond.instanceMethod yX2_workersOn, Cond.selects RX2 yX2_workersOn yX2_workersOn, Cond.code yX2_workersOn cX2_workersOn 4 (some .int), Cond.fieldLink RX2 28 "ClueLeave$City" "clues" "I", Cond.methodLink RX2 50 yX2_worksOn, Cond.instanceMethod yX2_worksOn, Cond.selects RX2 yX2_worksOn yX2_worksOn, Cond.code yX2_worksOn cX2_worksOn 3 (some .boolean), Cond.fieldLink RX2 9 "ClueLeave$City" "kinds" "[I"]
def wsX6_when_r2 : List Cond := [Cond.fieldLink RX2 31 "ClueLeave$City" "sunday" "I", Cond.fieldLink RX2 18 "ClueLeave$City" "every" "[I", Cond.fieldLink RX2 21 "ClueLeave$City" "off" "[I", Cond.methodLink RX2 68 yX2_leftBy, Cond.instanceMethod yX2_leftBy, Cond.selects RX2 yX2_leftBy yX2_leftBy, Cond.code yX2_leftBy cX2_leftBy 4 (some .int), Cond.methodLink RX2 57 yX2_everyone, Cond.instanceMethod yX2_everyone, Cond.selects RX2 yX2_everyone yX2_everyone, Cond.code yX2_everyone cX2_everyone 1 (some .int), Cond.fieldLink RX2 24 "ClueLeave$City" "suspects" "I", Cond.static yX6_isIn, Cond.code yX6_isIn cX6_isIn 2 (some .boolean), Cond.methodLink RX2 61 yX2_leftByOne, Cond.instanceMethod yX2_leftByOne, Cond.selects RX2 yX2_leftByOne yX2_leftByOne, Cond.code yX2_leftByOne cX2_leftByOne 4 (some .int), Cond.fieldLink RX2 15 "ClueLeave$City" "tells" "[I", Cond.methodLink RX2 53 yX2_isBribed, Cond.instanceMethod yX2_isBribed, Cond.selects RX2 yX2_isBribed yX2_isBribed, Cond.code yX2_isBribed cX2_isBribed 2 (some .boolean), Cond.fieldLink RX2 37 "ClueLeave$City" "bribed" "I"]
def wsX6_when_r3 : List Cond := [Cond.methodLink RX6 199 yX6_isIn, Cond.methodLink RX6 180 yJ6_bitCount_0f7a4, Cond.static yJ6_bitCount_0f7a4, Cond.initialized RJ6, Cond.code yJ6_bitCount_0f7a4 cJ6_bitCount_0f7a4 1 (some .int), Cond.constant RJ6 265 (1431655765), Cond.constant RJ6 266 (858993459), Cond.constant RJ6 267 (252645135)]
def wsX6_when : List Cond := .code yX6_when cX6_when 7 (some .int) :: ((wsX6_when_r1 ++ (wsX6_when_r2 ++ wsX6_when_r3)) ++ wsX60 ++ wsX20)
def wsX6_tellSet : List Cond := .code yX6_tellSet cX6_tellSet 2 (some .int) :: ([.constant RX6 185 (-1000000), .methodLink RX6 180 yJ6_bitCount_0f7a4, .static yJ6_bitCount_0f7a4, .initialized RJ6, .code yJ6_bitCount_0f7a4 cJ6_bitCount_0f7a4 1 (some .int), .constant RJ6 265 (1431655765), .constant RJ6 266 (858993459), .constant RJ6 267 (252645135)])
def wsX6_enough_r1 : List Cond := [Cond.fieldLink RX6 47 "ClueLeave" "city" "LClueLeave$City;", Cond.constant RX6 129 (-1000002), Cond.constant RX6 66 (-1000001), Cond.fieldLink RX6 130 "ClueLeave$City" "day" "I", Cond.methodLink RX6 126 yX2_stands, Cond.instanceMethod yX2_stands, Cond.selects RX2 yX2_stands yX2_stands, Cond.initialized RX2, Cond.code yX2_stands cX2_stands 1 (some .boolean), Cond.fieldLink RX2 24 "ClueLeave$City" "suspects" "I", Cond.methodLink RX6 62 yX6_isWithin, Cond.static yX6_isWithin, Cond.initialized RX6, Cond.code yX6_isWithin cX6_isWithin 3 (some .boolean), Cond.methodLink RX6 174 yX2_workersOn, Cond.instanceMethod yX2_workersOn, Cond.selects RX2 yX2_workersOn yX2_workersOn, Cond.code yX2_workersOn cX2_workersOn 4 (some .int), Cond.fieldLink RX2 28 "ClueLeave$City" "clues" "I", Cond.methodLink RX2 50 yX2_worksOn, Cond.instanceMethod yX2_worksOn, Cond.selects RX2 yX2_worksOn yX2_worksOn, Cond.code yX2_worksOn cX2_worksOn 3 (some .boolean), Cond.fieldLink RX2 9 "ClueLeave$City" "kinds" "[I"]
def wsX6_enough_r2 : List Cond := [Cond.fieldLink RX2 31 "ClueLeave$City" "sunday" "I", Cond.fieldLink RX2 18 "ClueLeave$City" "every" "[I", Cond.fieldLink RX2 21 "ClueLeave$City" "off" "[I", Cond.methodLink RX6 202 yX2_leftBy, Cond.instanceMethod yX2_leftBy, Cond.selects RX2 yX2_leftBy yX2_leftBy, Cond.code yX2_leftBy cX2_leftBy 4 (some .int), Cond.methodLink RX2 57 yX2_everyone, Cond.instanceMethod yX2_everyone, Cond.selects RX2 yX2_everyone yX2_everyone, Cond.code yX2_everyone cX2_everyone 1 (some .int), Cond.static yX6_isIn, Cond.code yX6_isIn cX6_isIn 2 (some .boolean), Cond.methodLink RX2 61 yX2_leftByOne, Cond.instanceMethod yX2_leftByOne, Cond.selects RX2 yX2_leftByOne yX2_leftByOne, Cond.code yX2_leftByOne cX2_leftByOne 4 (some .int), Cond.fieldLink RX2 15 "ClueLeave$City" "tells" "[I", Cond.methodLink RX2 53 yX2_isBribed, Cond.instanceMethod yX2_isBribed, Cond.selects RX2 yX2_isBribed yX2_isBribed, Cond.code yX2_isBribed cX2_isBribed 2 (some .boolean), Cond.fieldLink RX2 37 "ClueLeave$City" "bribed" "I", Cond.methodLink RX6 205 yX2_fewestThatLeave]
def wsX6_enough_r3 : List Cond := [Cond.instanceMethod yX2_fewestThatLeave, Cond.selects RX2 yX2_fewestThatLeave yX2_fewestThatLeave, Cond.code yX2_fewestThatLeave cX2_fewestThatLeave 6 (some .int), Cond.constant RX2 71 (-1000000), Cond.methodLink RX2 72 yJ6_bitCount_0f7a4, Cond.static yJ6_bitCount_0f7a4, Cond.initialized RJ6, Cond.code yJ6_bitCount_0f7a4 cJ6_bitCount_0f7a4 1 (some .int), Cond.constant RJ6 265 (1431655765), Cond.constant RJ6 266 (858993459), Cond.constant RJ6 267 (252645135), Cond.methodLink RX2 68 yX2_leftBy, Cond.methodLink RX6 209 yX6_tellSet, Cond.static yX6_tellSet, Cond.code yX6_tellSet cX6_tellSet 2 (some .int), Cond.constant RX6 185 (-1000000), Cond.methodLink RX6 180 yJ6_bitCount_0f7a4]
def wsX6_enough : List Cond := .code yX6_enough cX6_enough 4 (some .int) :: ((wsX6_enough_r1 ++ (wsX6_enough_r2 ++ wsX6_enough_r3)) ++ wsX60 ++ wsX20)
def wsX6_clash_r1 : List Cond := [Cond.fieldLink RX6 47 "ClueLeave" "city" "LClueLeave$City;", Cond.constant RX6 129 (-1000002), Cond.constant RX6 66 (-1000001), Cond.fieldLink RX6 130 "ClueLeave$City" "day" "I", Cond.methodLink RX6 126 yX2_stands, Cond.instanceMethod yX2_stands, Cond.selects RX2 yX2_stands yX2_stands, Cond.initialized RX2, Cond.code yX2_stands cX2_stands 1 (some .boolean), Cond.fieldLink RX2 24 "ClueLeave$City" "suspects" "I", Cond.methodLink RX6 62 yX6_isWithin, Cond.static yX6_isWithin, Cond.initialized RX6, Cond.code yX6_isWithin cX6_isWithin 3 (some .boolean), Cond.methodLink RX6 174 yX2_workersOn, Cond.instanceMethod yX2_workersOn, Cond.selects RX2 yX2_workersOn yX2_workersOn, Cond.code yX2_workersOn cX2_workersOn 4 (some .int), Cond.fieldLink RX2 28 "ClueLeave$City" "clues" "I", Cond.methodLink RX2 50 yX2_worksOn, Cond.instanceMethod yX2_worksOn, Cond.selects RX2 yX2_worksOn yX2_worksOn, Cond.code yX2_worksOn cX2_worksOn 3 (some .boolean), Cond.fieldLink RX2 9 "ClueLeave$City" "kinds" "[I"]
def wsX6_clash_r2 : List Cond := [Cond.fieldLink RX2 31 "ClueLeave$City" "sunday" "I", Cond.fieldLink RX2 18 "ClueLeave$City" "every" "[I", Cond.fieldLink RX2 21 "ClueLeave$City" "off" "[I", Cond.methodLink RX6 205 yX2_fewestThatLeave, Cond.instanceMethod yX2_fewestThatLeave, Cond.selects RX2 yX2_fewestThatLeave yX2_fewestThatLeave, Cond.code yX2_fewestThatLeave cX2_fewestThatLeave 6 (some .int), Cond.constant RX2 71 (-1000000), Cond.methodLink RX2 72 yJ6_bitCount_0f7a4, Cond.static yJ6_bitCount_0f7a4, Cond.initialized RJ6, Cond.code yJ6_bitCount_0f7a4 cJ6_bitCount_0f7a4 1 (some .int), Cond.constant RJ6 265 (1431655765), Cond.constant RJ6 266 (858993459), Cond.constant RJ6 267 (252645135), Cond.methodLink RX2 68 yX2_leftBy, Cond.instanceMethod yX2_leftBy, Cond.selects RX2 yX2_leftBy yX2_leftBy, Cond.code yX2_leftBy cX2_leftBy 4 (some .int), Cond.methodLink RX2 57 yX2_everyone, Cond.instanceMethod yX2_everyone, Cond.selects RX2 yX2_everyone yX2_everyone, Cond.code yX2_everyone cX2_everyone 1 (some .int), Cond.static yX6_isIn]
def wsX6_clash_r3 : List Cond := [Cond.code yX6_isIn cX6_isIn 2 (some .boolean), Cond.methodLink RX2 61 yX2_leftByOne, Cond.instanceMethod yX2_leftByOne, Cond.selects RX2 yX2_leftByOne yX2_leftByOne, Cond.code yX2_leftByOne cX2_leftByOne 4 (some .int), Cond.fieldLink RX2 15 "ClueLeave$City" "tells" "[I", Cond.methodLink RX2 53 yX2_isBribed, Cond.instanceMethod yX2_isBribed, Cond.selects RX2 yX2_isBribed yX2_isBribed, Cond.code yX2_isBribed cX2_isBribed 2 (some .boolean), Cond.fieldLink RX2 37 "ClueLeave$City" "bribed" "I", Cond.methodLink RX6 209 yX6_tellSet, Cond.static yX6_tellSet, Cond.code yX6_tellSet cX6_tellSet 2 (some .int), Cond.constant RX6 185 (-1000000), Cond.methodLink RX6 180 yJ6_bitCount_0f7a4]
def wsX6_clash : List Cond := .code yX6_clash cX6_clash 3 (some .int) :: ((wsX6_clash_r1 ++ (wsX6_clash_r2 ++ wsX6_clash_r3)) ++ wsX60 ++ wsX20)
def wsX6_isAsTold_r1 : List Cond := [Cond.fieldLink RX6 130 "ClueLeave$City" "day" "I", Cond.fieldLink RX6 10 "ClueLeave" "rows" "LClueLeave$Rows;", Cond.methodLink RX6 136 yX2_leftOn, Cond.instanceMethod yX2_leftOn, Cond.selects RX2 yX2_leftOn yX2_leftOn, Cond.initialized RX2, Cond.code yX2_leftOn cX2_leftOn 2 (some .int), Cond.methodLink RX2 65 yX2_workersOn, Cond.instanceMethod yX2_workersOn, Cond.selects RX2 yX2_workersOn yX2_workersOn, Cond.code yX2_workersOn cX2_workersOn 4 (some .int), Cond.fieldLink RX2 28 "ClueLeave$City" "clues" "I", Cond.methodLink RX2 50 yX2_worksOn, Cond.instanceMethod yX2_worksOn, Cond.selects RX2 yX2_worksOn yX2_worksOn, Cond.code yX2_worksOn cX2_worksOn 3 (some .boolean), Cond.fieldLink RX2 9 "ClueLeave$City" "kinds" "[I", Cond.fieldLink RX2 31 "ClueLeave$City" "sunday" "I", Cond.fieldLink RX2 18 "ClueLeave$City" "every" "[I", Cond.fieldLink RX2 21 "ClueLeave$City" "off" "[I", Cond.methodLink RX2 68 yX2_leftBy, Cond.instanceMethod yX2_leftBy, Cond.selects RX2 yX2_leftBy yX2_leftBy, Cond.code yX2_leftBy cX2_leftBy 4 (some .int)]
def wsX6_isAsTold_r2 : List Cond := [Cond.methodLink RX2 57 yX2_everyone, Cond.instanceMethod yX2_everyone, Cond.selects RX2 yX2_everyone yX2_everyone, Cond.code yX2_everyone cX2_everyone 1 (some .int), Cond.fieldLink RX2 24 "ClueLeave$City" "suspects" "I", Cond.static yX6_isIn, Cond.initialized RX6, Cond.code yX6_isIn cX6_isIn 2 (some .boolean), Cond.methodLink RX2 61 yX2_leftByOne, Cond.instanceMethod yX2_leftByOne, Cond.selects RX2 yX2_leftByOne yX2_leftByOne, Cond.code yX2_leftByOne cX2_leftByOne 4 (some .int), Cond.fieldLink RX2 15 "ClueLeave$City" "tells" "[I", Cond.methodLink RX2 53 yX2_isBribed, Cond.instanceMethod yX2_isBribed, Cond.selects RX2 yX2_isBribed yX2_isBribed, Cond.code yX2_isBribed cX2_isBribed 2 (some .boolean), Cond.fieldLink RX2 37 "ClueLeave$City" "bribed" "I", Cond.methodLink RX6 261 yX4_itemAt, Cond.instanceMethod yX4_itemAt, Cond.selects RX4 yX4_itemAt yX4_itemAt, Cond.initialized RX4, Cond.code yX4_itemAt cX4_itemAt 3 (some .int), Cond.fieldLink RX4 18 "ClueLeave$Rows" "items" "[[I"]
def wsX6_isAsTold : List Cond := .code yX6_isAsTold cX6_isAsTold 6 (some .boolean) :: ((wsX6_isAsTold_r1 ++ wsX6_isAsTold_r2) ++ wsX20 ++ wsX60 ++ wsX40)
def wsX6_bribes_r1 : List Cond := [Cond.fieldLink RX6 47 "ClueLeave" "city" "LClueLeave$City;", Cond.constant RX6 129 (-1000002), Cond.fieldLink RX6 10 "ClueLeave" "rows" "LClueLeave$Rows;", Cond.constant RX6 66 (-1000001), Cond.fieldLink RX6 118 "ClueLeave$City" "clues" "I", Cond.fieldLink RX6 51 "ClueLeave" "draft" "LClueLeave$City;", Cond.fieldLink RX6 145 "ClueLeave$City" "bribed" "I", Cond.methodLink RX6 126 yX2_stands, Cond.instanceMethod yX2_stands, Cond.selects RX2 yX2_stands yX2_stands, Cond.initialized RX2, Cond.code yX2_stands cX2_stands 1 (some .boolean), Cond.fieldLink RX2 24 "ClueLeave$City" "suspects" "I", Cond.methodLink RX6 58 yX4_isRow, Cond.instanceMethod yX4_isRow, Cond.selects RX4 yX4_isRow yX4_isRow, Cond.initialized RX4, Cond.code yX4_isRow cX4_isRow 2 (some .boolean), Cond.methodLink RX6 62 yX6_isWithin, Cond.static yX6_isWithin, Cond.initialized RX6, Cond.code yX6_isWithin cX6_isWithin 3 (some .boolean), Cond.methodLink RX6 78 yX4_isMissing, Cond.instanceMethod yX4_isMissing]
def wsX6_bribes_r2 : List Cond := [Cond.selects RX4 yX4_isMissing yX4_isMissing, Cond.code yX4_isMissing cX4_isMissing 2 (some .boolean), Cond.fieldLink RX4 9 "ClueLeave$Rows" "lanes" "[I", Cond.methodLink RX6 67 yX6_found, Cond.instanceMethod yX6_found, Cond.selects RX6 yX6_found yX6_found, Cond.code yX6_found cX6_found 2 (some .int), Cond.fieldLink RX6 257 "ClueLeave" "finding" "I", Cond.constant RX6 260 (-1000010), Cond.methodLink RX6 81 yX4_hasPlaces, Cond.instanceMethod yX4_hasPlaces, Cond.selects RX4 yX4_hasPlaces yX4_hasPlaces, Cond.code yX4_hasPlaces cX4_hasPlaces 4 (some .boolean), Cond.fieldLink RX4 13 "ClueLeave$Rows" "sizes" "[I", Cond.methodLink RX6 212 yX6_isAsTold, Cond.instanceMethod yX6_isAsTold, Cond.selects RX6 yX6_isAsTold yX6_isAsTold, Cond.code yX6_isAsTold cX6_isAsTold 6 (some .boolean), Cond.fieldLink RX6 130 "ClueLeave$City" "day" "I", Cond.methodLink RX6 136 yX2_leftOn, Cond.instanceMethod yX2_leftOn, Cond.selects RX2 yX2_leftOn yX2_leftOn, Cond.code yX2_leftOn cX2_leftOn 2 (some .int), Cond.methodLink RX2 65 yX2_workersOn]
def wsX6_bribes_r3 : List Cond := [Cond.instanceMethod yX2_workersOn, Cond.selects RX2 yX2_workersOn yX2_workersOn, Cond.code yX2_workersOn cX2_workersOn 4 (some .int), Cond.fieldLink RX2 28 "ClueLeave$City" "clues" "I", Cond.methodLink RX2 50 yX2_worksOn, Cond.instanceMethod yX2_worksOn, Cond.selects RX2 yX2_worksOn yX2_worksOn, Cond.code yX2_worksOn cX2_worksOn 3 (some .boolean), Cond.fieldLink RX2 9 "ClueLeave$City" "kinds" "[I", Cond.fieldLink RX2 31 "ClueLeave$City" "sunday" "I", Cond.fieldLink RX2 18 "ClueLeave$City" "every" "[I", Cond.fieldLink RX2 21 "ClueLeave$City" "off" "[I", Cond.methodLink RX2 68 yX2_leftBy, Cond.instanceMethod yX2_leftBy, Cond.selects RX2 yX2_leftBy yX2_leftBy, Cond.code yX2_leftBy cX2_leftBy 4 (some .int), Cond.methodLink RX2 57 yX2_everyone, Cond.instanceMethod yX2_everyone, Cond.selects RX2 yX2_everyone yX2_everyone, Cond.code yX2_everyone cX2_everyone 1 (some .int), Cond.static yX6_isIn, Cond.code yX6_isIn cX6_isIn 2 (some .boolean), Cond.methodLink RX2 61 yX2_leftByOne, Cond.instanceMethod yX2_leftByOne]
def wsX6_bribes_r4 : List Cond := [Cond.selects RX2 yX2_leftByOne yX2_leftByOne, Cond.code yX2_leftByOne cX2_leftByOne 4 (some .int), Cond.fieldLink RX2 15 "ClueLeave$City" "tells" "[I", Cond.methodLink RX2 53 yX2_isBribed, Cond.instanceMethod yX2_isBribed, Cond.selects RX2 yX2_isBribed yX2_isBribed, Cond.code yX2_isBribed cX2_isBribed 2 (some .boolean), Cond.fieldLink RX2 37 "ClueLeave$City" "bribed" "I", Cond.methodLink RX6 261 yX4_itemAt, Cond.instanceMethod yX4_itemAt, Cond.selects RX4 yX4_itemAt yX4_itemAt, Cond.code yX4_itemAt cX4_itemAt 3 (some .int), Cond.fieldLink RX4 18 "ClueLeave$Rows" "items" "[[I", Cond.methodLink RX6 111 yX2_become, Cond.instanceMethod yX2_become, Cond.selects RX2 yX2_become yX2_become, Cond.code yX2_become cX2_become 2 none, Cond.fieldLink RX2 34 "ClueLeave$City" "day" "I", Cond.methodLink RX2 40 arraycopyName, Cond.native arraycopyName, Cond.static arraycopyName, Cond.initialized "java/lang/System", Cond.methodLink RX6 75 yX6_sound, Cond.instanceMethod yX6_sound]
def wsX6_bribes_r5 : List Cond := [Cond.selects RX6 yX6_sound yX6_sound, Cond.code yX6_sound cX6_sound 2 (some .int)]
def wsX6_bribes : List Cond := .code yX6_bribes cX6_bribes 6 (some .int) :: ((wsX6_bribes_r1 ++ (wsX6_bribes_r2 ++ (wsX6_bribes_r3 ++ (wsX6_bribes_r4 ++ wsX6_bribes_r5)))) ++ wsX60 ++ wsX20 ++ wsX40)
def wsX6_fits_r1 : List Cond := [Cond.fieldLink RX6 47 "ClueLeave" "city" "LClueLeave$City;", Cond.fieldLink RX6 10 "ClueLeave" "rows" "LClueLeave$Rows;", Cond.constant RX6 66 (-1000001), Cond.fieldLink RX6 51 "ClueLeave" "draft" "LClueLeave$City;", Cond.fieldLink RX6 155 "ClueLeave$City" "every" "[I", Cond.fieldLink RX6 216 "ClueLeave$City" "kinds" "[I", Cond.fieldLink RX6 158 "ClueLeave$City" "off" "[I", Cond.methodLink RX6 139 yX2_has, Cond.instanceMethod yX2_has, Cond.selects RX2 yX2_has yX2_has, Cond.initialized RX2, Cond.code yX2_has cX2_has 2 (some .boolean), Cond.fieldLink RX2 28 "ClueLeave$City" "clues" "I", Cond.methodLink RX6 58 yX4_isRow, Cond.instanceMethod yX4_isRow, Cond.selects RX4 yX4_isRow yX4_isRow, Cond.initialized RX4, Cond.code yX4_isRow cX4_isRow 2 (some .boolean), Cond.methodLink RX6 62 yX6_isWithin, Cond.static yX6_isWithin, Cond.initialized RX6, Cond.code yX6_isWithin cX6_isWithin 3 (some .boolean), Cond.methodLink RX6 78 yX4_isMissing, Cond.instanceMethod yX4_isMissing]
def wsX6_fits_r2 : List Cond := [Cond.selects RX4 yX4_isMissing yX4_isMissing, Cond.code yX4_isMissing cX4_isMissing 2 (some .boolean), Cond.fieldLink RX4 9 "ClueLeave$Rows" "lanes" "[I", Cond.methodLink RX6 67 yX6_found, Cond.instanceMethod yX6_found, Cond.selects RX6 yX6_found yX6_found, Cond.code yX6_found cX6_found 2 (some .int), Cond.fieldLink RX6 257 "ClueLeave" "finding" "I", Cond.constant RX6 260 (-1000010), Cond.methodLink RX6 81 yX4_hasPlaces, Cond.instanceMethod yX4_hasPlaces, Cond.selects RX4 yX4_hasPlaces yX4_hasPlaces, Cond.code yX4_hasPlaces cX4_hasPlaces 4 (some .boolean), Cond.fieldLink RX4 13 "ClueLeave$Rows" "sizes" "[I", Cond.methodLink RX6 111 yX2_become, Cond.instanceMethod yX2_become, Cond.selects RX2 yX2_become yX2_become, Cond.code yX2_become cX2_become 2 none, Cond.fieldLink RX2 24 "ClueLeave$City" "suspects" "I", Cond.fieldLink RX2 31 "ClueLeave$City" "sunday" "I", Cond.fieldLink RX2 34 "ClueLeave$City" "day" "I", Cond.fieldLink RX2 37 "ClueLeave$City" "bribed" "I", Cond.fieldLink RX2 9 "ClueLeave$City" "kinds" "[I", Cond.methodLink RX2 40 arraycopyName]
def wsX6_fits_r3 : List Cond := [Cond.native arraycopyName, Cond.static arraycopyName, Cond.initialized "java/lang/System", Cond.fieldLink RX2 15 "ClueLeave$City" "tells" "[I", Cond.fieldLink RX2 18 "ClueLeave$City" "every" "[I", Cond.fieldLink RX2 21 "ClueLeave$City" "off" "[I", Cond.methodLink RX6 212 yX6_isAsTold, Cond.instanceMethod yX6_isAsTold, Cond.selects RX6 yX6_isAsTold yX6_isAsTold, Cond.code yX6_isAsTold cX6_isAsTold 6 (some .boolean), Cond.fieldLink RX6 130 "ClueLeave$City" "day" "I", Cond.methodLink RX6 136 yX2_leftOn, Cond.instanceMethod yX2_leftOn, Cond.selects RX2 yX2_leftOn yX2_leftOn, Cond.code yX2_leftOn cX2_leftOn 2 (some .int), Cond.methodLink RX2 65 yX2_workersOn, Cond.instanceMethod yX2_workersOn, Cond.selects RX2 yX2_workersOn yX2_workersOn, Cond.code yX2_workersOn cX2_workersOn 4 (some .int), Cond.methodLink RX2 50 yX2_worksOn, Cond.instanceMethod yX2_worksOn, Cond.selects RX2 yX2_worksOn yX2_worksOn, Cond.code yX2_worksOn cX2_worksOn 3 (some .boolean), Cond.methodLink RX2 68 yX2_leftBy]
def wsX6_fits_r4 : List Cond := [Cond.instanceMethod yX2_leftBy, Cond.selects RX2 yX2_leftBy yX2_leftBy, Cond.code yX2_leftBy cX2_leftBy 4 (some .int), Cond.methodLink RX2 57 yX2_everyone, Cond.instanceMethod yX2_everyone, Cond.selects RX2 yX2_everyone yX2_everyone, Cond.code yX2_everyone cX2_everyone 1 (some .int), Cond.static yX6_isIn, Cond.code yX6_isIn cX6_isIn 2 (some .boolean), Cond.methodLink RX2 61 yX2_leftByOne, Cond.instanceMethod yX2_leftByOne, Cond.selects RX2 yX2_leftByOne yX2_leftByOne, Cond.code yX2_leftByOne cX2_leftByOne 4 (some .int), Cond.methodLink RX2 53 yX2_isBribed, Cond.instanceMethod yX2_isBribed, Cond.selects RX2 yX2_isBribed yX2_isBribed, Cond.code yX2_isBribed cX2_isBribed 2 (some .boolean), Cond.methodLink RX6 261 yX4_itemAt, Cond.instanceMethod yX4_itemAt, Cond.selects RX4 yX4_itemAt yX4_itemAt, Cond.code yX4_itemAt cX4_itemAt 3 (some .int), Cond.fieldLink RX4 18 "ClueLeave$Rows" "items" "[[I", Cond.methodLink RX6 75 yX6_sound, Cond.instanceMethod yX6_sound]
def wsX6_fits_r5 : List Cond := [Cond.selects RX6 yX6_sound yX6_sound, Cond.code yX6_sound cX6_sound 2 (some .int)]
def wsX6_fits : List Cond := .code yX6_fits cX6_fits 10 (some .int) :: ((wsX6_fits_r1 ++ (wsX6_fits_r2 ++ (wsX6_fits_r3 ++ (wsX6_fits_r4 ++ wsX6_fits_r5)))) ++ wsX60 ++ wsX20 ++ wsX40)
def wsX6_greatestDivisor : List Cond := .code yX6_greatestDivisor cX6_greatestDivisor 6 (some .int) :: ([])
def wsX6_strike_r1 : List Cond := [Cond.fieldLink RX6 47 "ClueLeave" "city" "LClueLeave$City;", Cond.constant RX6 129 (-1000002), Cond.constant RX6 66 (-1000001), Cond.fieldLink RX6 130 "ClueLeave$City" "day" "I", Cond.methodLink RX6 228 Lib.Math.max.name, Cond.static Lib.Math.max.name, Cond.initialized "java/lang/Math", Cond.code Lib.Math.max.name Lib.Math.max.code 2 (some .int), Cond.methodLink RX6 126 yX2_stands, Cond.instanceMethod yX2_stands, Cond.selects RX2 yX2_stands yX2_stands, Cond.initialized RX2, Cond.code yX2_stands cX2_stands 1 (some .boolean), Cond.fieldLink RX2 24 "ClueLeave$City" "suspects" "I", Cond.methodLink RX6 62 yX6_isWithin, Cond.static yX6_isWithin, Cond.initialized RX6, Cond.code yX6_isWithin cX6_isWithin 3 (some .boolean), Cond.methodLink RX6 174 yX2_workersOn, Cond.instanceMethod yX2_workersOn, Cond.selects RX2 yX2_workersOn yX2_workersOn, Cond.code yX2_workersOn cX2_workersOn 4 (some .int), Cond.fieldLink RX2 28 "ClueLeave$City" "clues" "I", Cond.methodLink RX2 50 yX2_worksOn]
def wsX6_strike_r2 : List Cond := [Cond.instanceMethod yX2_worksOn, Cond.selects RX2 yX2_worksOn yX2_worksOn, Cond.code yX2_worksOn cX2_worksOn 3 (some .boolean), Cond.fieldLink RX2 9 "ClueLeave$City" "kinds" "[I", Cond.fieldLink RX2 31 "ClueLeave$City" "sunday" "I", Cond.fieldLink RX2 18 "ClueLeave$City" "every" "[I", Cond.fieldLink RX2 21 "ClueLeave$City" "off" "[I", Cond.methodLink RX6 219 yX2_tenthsSure, Cond.instanceMethod yX2_tenthsSure, Cond.selects RX2 yX2_tenthsSure yX2_tenthsSure, Cond.code yX2_tenthsSure cX2_tenthsSure 6 (some .int), Cond.constant RX2 71 (-1000000), Cond.methodLink RX2 68 yX2_leftBy, Cond.instanceMethod yX2_leftBy, Cond.selects RX2 yX2_leftBy yX2_leftBy, Cond.code yX2_leftBy cX2_leftBy 4 (some .int), Cond.methodLink RX2 57 yX2_everyone, Cond.instanceMethod yX2_everyone, Cond.selects RX2 yX2_everyone yX2_everyone, Cond.code yX2_everyone cX2_everyone 1 (some .int), Cond.static yX6_isIn, Cond.code yX6_isIn cX6_isIn 2 (some .boolean), Cond.methodLink RX2 61 yX2_leftByOne, Cond.instanceMethod yX2_leftByOne]
def wsX6_strike_r3 : List Cond := [Cond.selects RX2 yX2_leftByOne yX2_leftByOne, Cond.code yX2_leftByOne cX2_leftByOne 4 (some .int), Cond.fieldLink RX2 15 "ClueLeave$City" "tells" "[I", Cond.methodLink RX2 53 yX2_isBribed, Cond.instanceMethod yX2_isBribed, Cond.selects RX2 yX2_isBribed yX2_isBribed, Cond.code yX2_isBribed cX2_isBribed 2 (some .boolean), Cond.fieldLink RX2 37 "ClueLeave$City" "bribed" "I", Cond.static yX6_onlyOne, Cond.code yX6_onlyOne cX6_onlyOne 1 (some .int), Cond.constant RX6 185 (-1000000), Cond.methodLink RX6 180 yJ6_bitCount_0f7a4, Cond.static yJ6_bitCount_0f7a4, Cond.initialized RJ6, Cond.code yJ6_bitCount_0f7a4 cJ6_bitCount_0f7a4 1 (some .int), Cond.constant RJ6 265 (1431655765), Cond.constant RJ6 266 (858993459), Cond.constant RJ6 267 (252645135), Cond.methodLink RX6 264 yJ6_numberOfTrailingZeros_0f7a4, Cond.static yJ6_numberOfTrailingZeros_0f7a4, Cond.code yJ6_numberOfTrailingZeros_0f7a4 cJ6_numberOfTrailingZeros_0f7a4 2 (some .int), Cond.constant RJ6 264 (65536), Cond.methodLink RX2 72 yJ6_bitCount_0f7a4, Cond.static yX6_power]
def wsX6_strike_r4 : List Cond := [Cond.code yX6_power cX6_power 4 (some .int), Cond.methodLink RX6 222 yX6_power, Cond.methodLink RX6 225 yX6_greatestDivisor, Cond.static yX6_greatestDivisor, Cond.code yX6_greatestDivisor cX6_greatestDivisor 6 (some .int)]
def wsX6_strike : List Cond := .code yX6_strike cX6_strike 8 (some .int) :: ((wsX6_strike_r1 ++ (wsX6_strike_r2 ++ (wsX6_strike_r3 ++ wsX6_strike_r4))) ++ wsX60 ++ wsX20)
def wsX6_drawn_r1 : List Cond := [Cond.fieldLink RX6 47 "ClueLeave" "city" "LClueLeave$City;", Cond.constant RX6 129 (-1000002), Cond.constant RX6 233 (999999), Cond.constant RX6 66 (-1000001), Cond.constantLong RX6 234 (16807), Cond.constantLong RX6 236 (2147483647), Cond.fieldLink RX6 196 "ClueLeave$City" "suspects" "I", Cond.methodLink RX6 228 Lib.Math.max.name, Cond.static Lib.Math.max.name, Cond.initialized "java/lang/Math", Cond.code Lib.Math.max.name Lib.Math.max.code 2 (some .int), Cond.fieldLink RX6 130 "ClueLeave$City" "day" "I", Cond.constant RX6 185 (-1000000), Cond.methodLink RX6 126 yX2_stands, Cond.instanceMethod yX2_stands, Cond.selects RX2 yX2_stands yX2_stands, Cond.initialized RX2, Cond.code yX2_stands cX2_stands 1 (some .boolean), Cond.fieldLink RX2 24 "ClueLeave$City" "suspects" "I", Cond.methodLink RX6 62 yX6_isWithin, Cond.static yX6_isWithin, Cond.initialized RX6, Cond.code yX6_isWithin cX6_isWithin 3 (some .boolean), Cond.methodLink RX6 136 yX2_leftOn]
def wsX6_drawn_r2 : List Cond := [Cond.instanceMethod yX2_leftOn, Cond.selects RX2 yX2_leftOn yX2_leftOn, Cond.code yX2_leftOn cX2_leftOn 2 (some .int), Cond.methodLink RX2 65 yX2_workersOn, Cond.instanceMethod yX2_workersOn, Cond.selects RX2 yX2_workersOn yX2_workersOn, Cond.code yX2_workersOn cX2_workersOn 4 (some .int), Cond.fieldLink RX2 28 "ClueLeave$City" "clues" "I", Cond.methodLink RX2 50 yX2_worksOn, Cond.instanceMethod yX2_worksOn, Cond.selects RX2 yX2_worksOn yX2_worksOn, Cond.code yX2_worksOn cX2_worksOn 3 (some .boolean), Cond.fieldLink RX2 9 "ClueLeave$City" "kinds" "[I", Cond.fieldLink RX2 31 "ClueLeave$City" "sunday" "I", Cond.fieldLink RX2 18 "ClueLeave$City" "every" "[I", Cond.fieldLink RX2 21 "ClueLeave$City" "off" "[I", Cond.methodLink RX2 68 yX2_leftBy, Cond.instanceMethod yX2_leftBy, Cond.selects RX2 yX2_leftBy yX2_leftBy, Cond.code yX2_leftBy cX2_leftBy 4 (some .int), Cond.methodLink RX2 57 yX2_everyone, Cond.instanceMethod yX2_everyone, Cond.selects RX2 yX2_everyone yX2_everyone, Cond.code yX2_everyone cX2_everyone 1 (some .int)]
def wsX6_drawn_r3 : List Cond := [Cond.static yX6_isIn, Cond.code yX6_isIn cX6_isIn 2 (some .boolean), Cond.methodLink RX2 61 yX2_leftByOne, Cond.instanceMethod yX2_leftByOne, Cond.selects RX2 yX2_leftByOne yX2_leftByOne, Cond.code yX2_leftByOne cX2_leftByOne 4 (some .int), Cond.fieldLink RX2 15 "ClueLeave$City" "tells" "[I", Cond.methodLink RX2 53 yX2_isBribed, Cond.instanceMethod yX2_isBribed, Cond.selects RX2 yX2_isBribed yX2_isBribed, Cond.code yX2_isBribed cX2_isBribed 2 (some .boolean), Cond.fieldLink RX2 37 "ClueLeave$City" "bribed" "I", Cond.methodLink RX6 177 yX6_onlyOne, Cond.static yX6_onlyOne, Cond.code yX6_onlyOne cX6_onlyOne 1 (some .int), Cond.methodLink RX6 180 yJ6_bitCount_0f7a4, Cond.static yJ6_bitCount_0f7a4, Cond.initialized RJ6, Cond.code yJ6_bitCount_0f7a4 cJ6_bitCount_0f7a4 1 (some .int), Cond.constant RJ6 265 (1431655765), Cond.constant RJ6 266 (858993459), Cond.constant RJ6 267 (252645135), Cond.methodLink RX6 264 yJ6_numberOfTrailingZeros_0f7a4, Cond.static yJ6_numberOfTrailingZeros_0f7a4]
def wsX6_drawn_r4 : List Cond := [Cond.code yJ6_numberOfTrailingZeros_0f7a4 cJ6_numberOfTrailingZeros_0f7a4 2 (some .int), Cond.constant RJ6 264 (65536)]
def wsX6_drawn : List Cond := .code yX6_drawn cX6_drawn 10 (some .int) :: ((wsX6_drawn_r1 ++ (wsX6_drawn_r2 ++ (wsX6_drawn_r3 ++ wsX6_drawn_r4))) ++ wsX60 ++ wsX20)
def wsX6_image_r1 : List Cond := [Cond.fieldLink RX6 54 "ClueLeave" "images" "[LClueLeave$City;", Cond.constant RX6 66 (-1000001), Cond.fieldLink RX6 47 "ClueLeave" "city" "LClueLeave$City;", Cond.constant RX6 129 (-1000002), Cond.methodLink RX6 62 yX6_isWithin, Cond.static yX6_isWithin, Cond.initialized RX6, Cond.code yX6_isWithin cX6_isWithin 3 (some .boolean), Cond.methodLink RX6 126 yX2_stands, Cond.instanceMethod yX2_stands, Cond.selects RX2 yX2_stands yX2_stands, Cond.initialized RX2, Cond.code yX2_stands cX2_stands 1 (some .boolean), Cond.fieldLink RX2 24 "ClueLeave$City" "suspects" "I", Cond.methodLink RX6 111 yX2_become, Cond.instanceMethod yX2_become, Cond.selects RX2 yX2_become yX2_become, Cond.code yX2_become cX2_become 2 none, Cond.fieldLink RX2 31 "ClueLeave$City" "sunday" "I", Cond.fieldLink RX2 34 "ClueLeave$City" "day" "I", Cond.fieldLink RX2 28 "ClueLeave$City" "clues" "I", Cond.fieldLink RX2 37 "ClueLeave$City" "bribed" "I", Cond.fieldLink RX2 9 "ClueLeave$City" "kinds" "[I", Cond.methodLink RX2 40 arraycopyName]
def wsX6_image_r2 : List Cond := [Cond.native arraycopyName, Cond.static arraycopyName, Cond.initialized "java/lang/System", Cond.fieldLink RX2 15 "ClueLeave$City" "tells" "[I", Cond.fieldLink RX2 18 "ClueLeave$City" "every" "[I", Cond.fieldLink RX2 21 "ClueLeave$City" "off" "[I"]
def wsX6_image : List Cond := .code yX6_image cX6_image 2 (some .int) :: ((wsX6_image_r1 ++ wsX6_image_r2) ++ wsX60 ++ wsX20)
def wsX6_restore_r1 : List Cond := [Cond.fieldLink RX6 54 "ClueLeave" "images" "[LClueLeave$City;", Cond.constant RX6 66 (-1000001), Cond.constant RX6 129 (-1000002), Cond.fieldLink RX6 47 "ClueLeave" "city" "LClueLeave$City;", Cond.fieldLink RX6 26 "ClueLeave" "acts" "LClueLeave$Acts;", Cond.methodLink RX6 62 yX6_isWithin, Cond.static yX6_isWithin, Cond.initialized RX6, Cond.code yX6_isWithin cX6_isWithin 3 (some .boolean), Cond.methodLink RX6 126 yX2_stands, Cond.instanceMethod yX2_stands, Cond.selects RX2 yX2_stands yX2_stands, Cond.initialized RX2, Cond.code yX2_stands cX2_stands 1 (some .boolean), Cond.fieldLink RX2 24 "ClueLeave$City" "suspects" "I", Cond.methodLink RX6 111 yX2_become, Cond.instanceMethod yX2_become, Cond.selects RX2 yX2_become yX2_become, Cond.code yX2_become cX2_become 2 none, Cond.fieldLink RX2 31 "ClueLeave$City" "sunday" "I", Cond.fieldLink RX2 34 "ClueLeave$City" "day" "I", Cond.fieldLink RX2 28 "ClueLeave$City" "clues" "I", Cond.fieldLink RX2 37 "ClueLeave$City" "bribed" "I", Cond.fieldLink RX2 9 "ClueLeave$City" "kinds" "[I"]
def wsX6_restore_r2 : List Cond := [Cond.methodLink RX2 40 arraycopyName, Cond.native arraycopyName, Cond.static arraycopyName, Cond.initialized "java/lang/System", Cond.fieldLink RX2 15 "ClueLeave$City" "tells" "[I", Cond.fieldLink RX2 18 "ClueLeave$City" "every" "[I", Cond.fieldLink RX2 21 "ClueLeave$City" "off" "[I", Cond.methodLink RX6 115 yX0_forgetAll, Cond.instanceMethod yX0_forgetAll, Cond.selects RX0 yX0_forgetAll yX0_forgetAll, Cond.initialized RX0, Cond.code yX0_forgetAll cX0_forgetAll 1 none, Cond.fieldLink RX0 19 "ClueLeave$Acts" "kept" "I"]
def wsX6_restore : List Cond := .code yX6_restore cX6_restore 2 (some .int) :: ((wsX6_restore_r1 ++ wsX6_restore_r2) ++ wsX60 ++ wsX20 ++ wsX00)
def wsX6_kind : List Cond := .code yX6_kind cX6_kind 2 (some .int) :: ([.fieldLink RX6 47 "ClueLeave" "city" "LClueLeave$City;", .fieldLink RX6 216 "ClueLeave$City" "kinds" "[I", .constant RX6 66 (-1000001), .methodLink RX6 139 yX2_has, .instanceMethod yX2_has, .selects RX2 yX2_has yX2_has, .initialized RX2, .code yX2_has cX2_has 2 (some .boolean), .fieldLink RX2 28 "ClueLeave$City" "clues" "I"] ++ wsX60 ++ wsX20)
def wsX6_as_r1 : List Cond := [Cond.fieldLink RX6 47 "ClueLeave" "city" "LClueLeave$City;", Cond.constant RX6 66 (-1000001), Cond.fieldLink RX6 238 "ClueLeave" "IS_ALSO" "[I", Cond.fieldLink RX6 216 "ClueLeave$City" "kinds" "[I", Cond.methodLink RX6 139 yX2_has, Cond.instanceMethod yX2_has, Cond.selects RX2 yX2_has yX2_has, Cond.initialized RX2, Cond.code yX2_has cX2_has 2 (some .boolean), Cond.fieldLink RX2 28 "ClueLeave$City" "clues" "I", Cond.methodLink RX6 62 yX6_isWithin, Cond.static yX6_isWithin, Cond.initialized RX6, Cond.code yX6_isWithin cX6_isWithin 3 (some .boolean), Cond.methodLink RX6 199 yX6_isIn, Cond.static yX6_isIn, Cond.code yX6_isIn cX6_isIn 2 (some .boolean), Cond.methodLink RX6 67 yX6_found, Cond.instanceMethod yX6_found, Cond.selects RX6 yX6_found yX6_found, Cond.code yX6_found cX6_found 2 (some .int), Cond.fieldLink RX6 257 "ClueLeave" "finding" "I", Cond.constant RX6 260 (-1000010), Cond.methodLink RX6 75 yX6_sound]
def wsX6_as_r2 : List Cond := [Cond.instanceMethod yX6_sound, Cond.selects RX6 yX6_sound yX6_sound, Cond.code yX6_sound cX6_sound 2 (some .int)]
def wsX6_as : List Cond := .code yX6_as cX6_as 3 (some .int) :: ((wsX6_as_r1 ++ wsX6_as_r2) ++ wsX60 ++ wsX20)
def wsX6_ask_r1 : List Cond := [Cond.fieldLink RX6 47 "ClueLeave" "city" "LClueLeave$City;", Cond.constant RX6 66 (-1000001), Cond.fieldLink RX6 40 "ClueLeave" "asks" "LClueLeave$Asks;", Cond.methodLink RX6 139 yX2_has, Cond.instanceMethod yX2_has, Cond.selects RX2 yX2_has yX2_has, Cond.initialized RX2, Cond.code yX2_has cX2_has 2 (some .boolean), Cond.fieldLink RX2 28 "ClueLeave$City" "clues" "I", Cond.methodLink RX6 62 yX6_isWithin, Cond.static yX6_isWithin, Cond.initialized RX6, Cond.code yX6_isWithin cX6_isWithin 3 (some .boolean), Cond.methodLink RX6 241 yX1_answer, Cond.instanceMethod yX1_answer, Cond.selects RX1 yX1_answer yX1_answer, Cond.initialized RX1, Cond.code yX1_answer cX1_answer 4 (some .int), Cond.fieldLink RX1 15 "ClueLeave$Asks" "traced" "I", Cond.methodLink RX1 20 yX1_begin, Cond.instanceMethod yX1_begin, Cond.selects RX1 yX1_begin yX1_begin, Cond.code yX1_begin cX1_begin 6 (some .int), Cond.fieldLink RX1 24 "ClueLeave$City" "kinds" "[I"]
def wsX6_ask_r2 : List Cond := [Cond.fieldLink RX1 29 "ClueLeave$Asks" "SIZES" "[I", Cond.fieldLink RX1 32 "ClueLeave$Asks" "MARKS" "[I", Cond.methodLink RX1 35 yX1_give, Cond.instanceMethod yX1_give, Cond.selects RX1 yX1_give yX1_give, Cond.code yX1_give cX1_give 6 (some .int), Cond.fieldLink RX1 42 "ClueLeave$City" "tells" "[I", Cond.fieldLink RX1 45 "ClueLeave$City" "off" "[I", Cond.methodLink RX1 38 yX1_leave, Cond.instanceMethod yX1_leave, Cond.selects RX1 yX1_leave yX1_leave, Cond.code yX1_leave cX1_leave 2 none, Cond.fieldLink RX1 11 "ClueLeave$Asks" "trace" "[I"]
def wsX6_ask : List Cond := .code yX6_ask cX6_ask 3 (some .int) :: ((wsX6_ask_r1 ++ wsX6_ask_r2) ++ wsX60 ++ wsX20 ++ wsX10)
def wsX6_trace : List Cond := .code yX6_trace cX6_trace 2 (some .int) :: ([.fieldLink RX6 40 "ClueLeave" "asks" "LClueLeave$Asks;", .methodLink RX6 245 yX1_traceAt, .instanceMethod yX1_traceAt, .selects RX1 yX1_traceAt yX1_traceAt, .initialized RX1, .code yX1_traceAt cX1_traceAt 2 (some .int), .fieldLink RX1 15 "ClueLeave$Asks" "traced" "I", .fieldLink RX1 11 "ClueLeave$Asks" "trace" "[I", .constant RX1 19 (-1000000)] ++ wsX60 ++ wsX10)
def wsX6_count_r1 : List Cond := [Cond.fieldLink RX6 10 "ClueLeave" "rows" "LClueLeave$Rows;", Cond.fieldLink RX6 47 "ClueLeave" "city" "LClueLeave$City;", Cond.fieldLink RX6 118 "ClueLeave$City" "clues" "I", Cond.fieldLink RX6 196 "ClueLeave$City" "suspects" "I", Cond.fieldLink RX6 130 "ClueLeave$City" "day" "I", Cond.fieldLink RX6 251 "ClueLeave$City" "sunday" "I", Cond.fieldLink RX6 145 "ClueLeave$City" "bribed" "I", Cond.fieldLink RX6 26 "ClueLeave" "acts" "LClueLeave$Acts;", Cond.fieldLink RX6 19 "ClueLeave" "tape" "LClueLeave$Tape;", Cond.constant RX6 66 (-1000001), Cond.methodLink RX6 248 yX4_present, Cond.instanceMethod yX4_present, Cond.selects RX4 yX4_present yX4_present, Cond.initialized RX4, Cond.code yX4_present cX4_present 3 (some .int), Cond.methodLink RX4 37 yX4_isMissing, Cond.instanceMethod yX4_isMissing, Cond.selects RX4 yX4_isMissing yX4_isMissing, Cond.code yX4_isMissing cX4_isMissing 2 (some .boolean), Cond.fieldLink RX4 9 "ClueLeave$Rows" "lanes" "[I", Cond.methodLink RX6 161 yX0_kept, Cond.instanceMethod yX0_kept, Cond.selects RX0 yX0_kept yX0_kept, Cond.initialized RX0]
def wsX6_count_r2 : List Cond := [Cond.code yX0_kept cX0_kept 1 (some .int), Cond.fieldLink RX0 19 "ClueLeave$Acts" "kept" "I", Cond.methodLink RX6 254 yX5_size, Cond.instanceMethod yX5_size, Cond.selects RX5 yX5_size yX5_size, Cond.initialized RX5, Cond.code yX5_size cX5_size 1 (some .int), Cond.fieldLink RX5 19 "ClueLeave$Tape" "size" "I"]
def wsX6_count : List Cond := .code yX6_count cX6_count 2 (some .int) :: ((wsX6_count_r1 ++ wsX6_count_r2) ++ wsX60 ++ wsX20 ++ wsX40 ++ wsX00 ++ wsX50)
def wsX6_status : List Cond := .code yX6_status cX6_status 1 (some .int) :: ([.fieldLink RX6 257 "ClueLeave" "finding" "I"] ++ wsX60)
def wsX7_init : List Cond := .code yX7_init cX7_init 2 none :: ([.methodLink RX7 1 objectInit, .instanceMethod objectInit, .code objectInit ⟨#[0xb1]⟩ 1 none, .arrayClass .int, .fieldLink RX7 7 "ClueLeaveModel" "lane" "[I", .fieldLink RX7 13 "ClueLeaveModel" "many" "[I", .fieldLink RX7 16 "ClueLeaveModel" "items" "[I", .fieldLink RX7 19 "ClueLeaveModel" "spare" "[I", .fieldLink RX7 22 "ClueLeaveModel" "tape" "[I", .fieldLink RX7 25 "ClueLeaveModel" "now" "[I", .fieldLink RX7 28 "ClueLeaveModel" "draft" "[I", .fieldLink RX7 31 "ClueLeaveModel" "tried" "[I", .fieldLink RX7 34 "ClueLeaveModel" "past" "[I", .fieldLink RX7 37 "ClueLeaveModel" "images" "[I", .arrayClass .boolean, .fieldLink RX7 40 "ClueLeaveModel" "kept" "[Z", .fieldLink RX7 44 "ClueLeaveModel" "best" "[I", .fieldLink RX7 47 "ClueLeaveModel" "trace" "[I", .constant RX7 50 (-1000000)] ++ wsX70)
def wsX7_in : List Cond := .code yX7_in cX7_in 3 (some .boolean) :: ([])
def wsX7_has : List Cond := .code yX7_has cX7_has 2 (some .boolean) :: ([])
def wsX7_ones : List Cond := .code yX7_ones cX7_ones 3 (some .int) :: ([])
def wsX7_found : List Cond := .code yX7_found cX7_found 2 (some .int) :: ([.fieldLink RX7 51 "ClueLeaveModel" "status" "I", .constant RX7 55 (-1000010)] ++ wsX70)
def wsX7_well : List Cond := .code yX7_well cX7_well 2 (some .int) :: ([.fieldLink RX7 51 "ClueLeaveModel" "status" "I"] ++ wsX70)
def wsX7_copies : List Cond := .code yX7_copies cX7_copies 5 none :: ([])
def wsX7_isRow : List Cond := .code yX7_isRow cX7_isRow 1 (some .boolean) :: ([.methodLink RX7 56 yX7_in, .static yX7_in, .initialized RX7, .code yX7_in cX7_in 3 (some .boolean)])
def wsX7_isMissing : List Cond := .code yX7_isMissing cX7_isMissing 2 (some .boolean) :: ([.fieldLink RX7 7 "ClueLeaveModel" "lane" "[I", .constant RX7 50 (-1000000)] ++ wsX70)
def wsX7_cut : List Cond := .code yX7_cut cX7_cut 2 (some .int) :: ([])
def wsX7_row : List Cond := .code yX7_row cX7_row 5 (some .int) :: ([.constant RX7 64 (-1000001), .fieldLink RX7 7 "ClueLeaveModel" "lane" "[I", .fieldLink RX7 13 "ClueLeaveModel" "many" "[I", .fieldLink RX7 16 "ClueLeaveModel" "items" "[I", .methodLink RX7 60 yX7_isRow, .static yX7_isRow, .initialized RX7, .code yX7_isRow cX7_isRow 1 (some .boolean), .methodLink RX7 56 yX7_in, .static yX7_in, .code yX7_in cX7_in 3 (some .boolean), .methodLink RX7 65 yX7_found, .instanceMethod yX7_found, .selects RX7 yX7_found yX7_found, .code yX7_found cX7_found 2 (some .int), .fieldLink RX7 51 "ClueLeaveModel" "status" "I", .constant RX7 55 (-1000010), .methodLink RX7 69 yX7_well, .instanceMethod yX7_well, .selects RX7 yX7_well yX7_well, .code yX7_well cX7_well 2 (some .int)] ++ wsX70)
def wsX7_set_r1 : List Cond := [Cond.constant RX7 64 (-1000001), Cond.fieldLink RX7 13 "ClueLeaveModel" "many" "[I", Cond.fieldLink RX7 16 "ClueLeaveModel" "items" "[I", Cond.fieldLink RX7 7 "ClueLeaveModel" "lane" "[I", Cond.methodLink RX7 60 yX7_isRow, Cond.static yX7_isRow, Cond.initialized RX7, Cond.code yX7_isRow cX7_isRow 1 (some .boolean), Cond.methodLink RX7 56 yX7_in, Cond.static yX7_in, Cond.code yX7_in cX7_in 3 (some .boolean), Cond.methodLink RX7 72 yX7_isMissing, Cond.instanceMethod yX7_isMissing, Cond.selects RX7 yX7_isMissing yX7_isMissing, Cond.code yX7_isMissing cX7_isMissing 2 (some .boolean), Cond.constant RX7 50 (-1000000), Cond.methodLink RX7 65 yX7_found, Cond.instanceMethod yX7_found, Cond.selects RX7 yX7_found yX7_found, Cond.code yX7_found cX7_found 2 (some .int), Cond.fieldLink RX7 51 "ClueLeaveModel" "status" "I", Cond.constant RX7 55 (-1000010), Cond.methodLink RX7 75 yX7_cut, Cond.static yX7_cut]
def wsX7_set_r2 : List Cond := [Cond.code yX7_cut cX7_cut 2 (some .int), Cond.methodLink RX7 69 yX7_well, Cond.instanceMethod yX7_well, Cond.selects RX7 yX7_well yX7_well, Cond.code yX7_well cX7_well 2 (some .int)]
def wsX7_set : List Cond := .code yX7_set cX7_set 4 (some .int) :: ((wsX7_set_r1 ++ wsX7_set_r2) ++ wsX70)
def wsX7_isPart : List Cond := .code yX7_isPart cX7_isPart 4 (some .boolean) :: ([.fieldLink RX7 13 "ClueLeaveModel" "many" "[I"] ++ wsX70)
def wsX7_copy_r1 : List Cond := [Cond.constant RX7 64 (-1000001), Cond.fieldLink RX7 7 "ClueLeaveModel" "lane" "[I", Cond.fieldLink RX7 19 "ClueLeaveModel" "spare" "[I", Cond.fieldLink RX7 16 "ClueLeaveModel" "items" "[I", Cond.methodLink RX7 60 yX7_isRow, Cond.static yX7_isRow, Cond.initialized RX7, Cond.code yX7_isRow cX7_isRow 1 (some .boolean), Cond.methodLink RX7 56 yX7_in, Cond.static yX7_in, Cond.code yX7_in cX7_in 3 (some .boolean), Cond.methodLink RX7 72 yX7_isMissing, Cond.instanceMethod yX7_isMissing, Cond.selects RX7 yX7_isMissing yX7_isMissing, Cond.code yX7_isMissing cX7_isMissing 2 (some .boolean), Cond.constant RX7 50 (-1000000), Cond.methodLink RX7 65 yX7_found, Cond.instanceMethod yX7_found, Cond.selects RX7 yX7_found yX7_found, Cond.code yX7_found cX7_found 2 (some .int), Cond.fieldLink RX7 51 "ClueLeaveModel" "status" "I", Cond.constant RX7 55 (-1000010), Cond.methodLink RX7 79 yX7_isPart, Cond.instanceMethod yX7_isPart]
def wsX7_copy_r2 : List Cond := [Cond.selects RX7 yX7_isPart yX7_isPart, Cond.code yX7_isPart cX7_isPart 4 (some .boolean), Cond.fieldLink RX7 13 "ClueLeaveModel" "many" "[I", Cond.methodLink RX7 69 yX7_well, Cond.instanceMethod yX7_well, Cond.selects RX7 yX7_well yX7_well, Cond.code yX7_well cX7_well 2 (some .int)]
def wsX7_copy : List Cond := .code yX7_copy cX7_copy 7 (some .int) :: ((wsX7_copy_r1 ++ wsX7_copy_r2) ++ wsX70)
def wsX7_drop_r1 : List Cond := [Cond.constant RX7 64 (-1000001), Cond.fieldLink RX7 7 "ClueLeaveModel" "lane" "[I", Cond.constant RX7 50 (-1000000), Cond.fieldLink RX7 13 "ClueLeaveModel" "many" "[I", Cond.methodLink RX7 60 yX7_isRow, Cond.static yX7_isRow, Cond.initialized RX7, Cond.code yX7_isRow cX7_isRow 1 (some .boolean), Cond.methodLink RX7 56 yX7_in, Cond.static yX7_in, Cond.code yX7_in cX7_in 3 (some .boolean), Cond.methodLink RX7 72 yX7_isMissing, Cond.instanceMethod yX7_isMissing, Cond.selects RX7 yX7_isMissing yX7_isMissing, Cond.code yX7_isMissing cX7_isMissing 2 (some .boolean), Cond.methodLink RX7 65 yX7_found, Cond.instanceMethod yX7_found, Cond.selects RX7 yX7_found yX7_found, Cond.code yX7_found cX7_found 2 (some .int), Cond.fieldLink RX7 51 "ClueLeaveModel" "status" "I", Cond.constant RX7 55 (-1000010), Cond.methodLink RX7 69 yX7_well, Cond.instanceMethod yX7_well, Cond.selects RX7 yX7_well yX7_well]
def wsX7_drop_r2 : List Cond := [Cond.code yX7_well cX7_well 2 (some .int)]
def wsX7_drop : List Cond := .code yX7_drop cX7_drop 2 (some .int) :: ((wsX7_drop_r1 ++ wsX7_drop_r2) ++ wsX70)
def wsX7_feed : List Cond := .code yX7_feed cX7_feed 2 (some .int) :: ([.constant RX7 64 (-1000001), .fieldLink RX7 82 "ClueLeaveModel" "taped" "I", .constant RX7 85 (-1000003), .fieldLink RX7 22 "ClueLeaveModel" "tape" "[I", .methodLink RX7 56 yX7_in, .static yX7_in, .initialized RX7, .code yX7_in cX7_in 3 (some .boolean)] ++ wsX70)
def wsX7_byteAt : List Cond := .code yX7_byteAt cX7_byteAt 2 (some .int) :: ([.fieldLink RX7 82 "ClueLeaveModel" "taped" "I", .fieldLink RX7 22 "ClueLeaveModel" "tape" "[I"] ++ wsX70)
def wsX7_advances : List Cond := .code yX7_advances cX7_advances 2 none :: ([.fieldLink RX7 86 "ClueLeaveModel" "at" "I", .fieldLink RX7 89 "ClueLeaveModel" "start" "I", .fieldLink RX7 95 "ClueLeaveModel" "value" "I", .fieldLink RX7 98 "ClueLeaveModel" "token" "I", .methodLink RX7 92 yX7_byteAt, .instanceMethod yX7_byteAt, .selects RX7 yX7_byteAt yX7_byteAt, .initialized RX7, .code yX7_byteAt cX7_byteAt 2 (some .int), .fieldLink RX7 82 "ClueLeaveModel" "taped" "I", .fieldLink RX7 22 "ClueLeaveModel" "tape" "[I", .methodLink RX7 56 yX7_in, .static yX7_in, .code yX7_in cX7_in 3 (some .boolean)] ++ wsX70)
def wsX7_isWell : List Cond := .code yX7_isWell cX7_isWell 1 (some .boolean) :: ([.fieldLink RX7 101 "ClueLeaveModel" "faultPlace" "I"] ++ wsX70)
def wsX7_takes : List Cond := .code yX7_takes cX7_takes 4 (some .int) :: ([.fieldLink RX7 89 "ClueLeaveModel" "start" "I", .fieldLink RX7 101 "ClueLeaveModel" "faultPlace" "I", .fieldLink RX7 108 "ClueLeaveModel" "faultKind" "I", .fieldLink RX7 95 "ClueLeaveModel" "value" "I", .methodLink RX7 104 yX7_isWell, .instanceMethod yX7_isWell, .selects RX7 yX7_isWell yX7_isWell, .initialized RX7, .code yX7_isWell cX7_isWell 1 (some .boolean), .methodLink RX7 111 yX7_advances, .instanceMethod yX7_advances, .selects RX7 yX7_advances yX7_advances, .code yX7_advances cX7_advances 2 none, .fieldLink RX7 86 "ClueLeaveModel" "at" "I", .fieldLink RX7 98 "ClueLeaveModel" "token" "I", .methodLink RX7 92 yX7_byteAt, .instanceMethod yX7_byteAt, .selects RX7 yX7_byteAt yX7_byteAt, .code yX7_byteAt cX7_byteAt 2 (some .int), .fieldLink RX7 82 "ClueLeaveModel" "taped" "I", .fieldLink RX7 22 "ClueLeaveModel" "tape" "[I", .methodLink RX7 56 yX7_in, .static yX7_in, .code yX7_in cX7_in 3 (some .boolean)] ++ wsX70)
def wsX7_figure_r1 : List Cond := [Cond.fieldLink RX7 98 "ClueLeaveModel" "token" "I", Cond.fieldLink RX7 95 "ClueLeaveModel" "value" "I", Cond.methodLink RX7 104 yX7_isWell, Cond.instanceMethod yX7_isWell, Cond.selects RX7 yX7_isWell yX7_isWell, Cond.initialized RX7, Cond.code yX7_isWell cX7_isWell 1 (some .boolean), Cond.fieldLink RX7 101 "ClueLeaveModel" "faultPlace" "I", Cond.methodLink RX7 114 yX7_takes, Cond.instanceMethod yX7_takes, Cond.selects RX7 yX7_takes yX7_takes, Cond.code yX7_takes cX7_takes 4 (some .int), Cond.fieldLink RX7 89 "ClueLeaveModel" "start" "I", Cond.fieldLink RX7 108 "ClueLeaveModel" "faultKind" "I", Cond.methodLink RX7 111 yX7_advances, Cond.instanceMethod yX7_advances, Cond.selects RX7 yX7_advances yX7_advances, Cond.code yX7_advances cX7_advances 2 none, Cond.fieldLink RX7 86 "ClueLeaveModel" "at" "I", Cond.methodLink RX7 92 yX7_byteAt, Cond.instanceMethod yX7_byteAt, Cond.selects RX7 yX7_byteAt yX7_byteAt, Cond.code yX7_byteAt cX7_byteAt 2 (some .int), Cond.fieldLink RX7 82 "ClueLeaveModel" "taped" "I"]
def wsX7_figure_r2 : List Cond := [Cond.fieldLink RX7 22 "ClueLeaveModel" "tape" "[I", Cond.methodLink RX7 56 yX7_in, Cond.static yX7_in, Cond.code yX7_in cX7_in 3 (some .boolean)]
def wsX7_figure : List Cond := .code yX7_figure cX7_figure 3 (some .int) :: ((wsX7_figure_r1 ++ wsX7_figure_r2) ++ wsX70)
def wsX7_kindOf : List Cond := .code yX7_kindOf cX7_kindOf 1 (some .int) :: ([])
def wsX7_next_r1 : List Cond := [Cond.fieldLink RX7 98 "ClueLeaveModel" "token" "I", Cond.methodLink RX7 114 yX7_takes, Cond.instanceMethod yX7_takes, Cond.selects RX7 yX7_takes yX7_takes, Cond.initialized RX7, Cond.code yX7_takes cX7_takes 4 (some .int), Cond.fieldLink RX7 89 "ClueLeaveModel" "start" "I", Cond.fieldLink RX7 101 "ClueLeaveModel" "faultPlace" "I", Cond.fieldLink RX7 108 "ClueLeaveModel" "faultKind" "I", Cond.fieldLink RX7 95 "ClueLeaveModel" "value" "I", Cond.methodLink RX7 104 yX7_isWell, Cond.instanceMethod yX7_isWell, Cond.selects RX7 yX7_isWell yX7_isWell, Cond.code yX7_isWell cX7_isWell 1 (some .boolean), Cond.methodLink RX7 111 yX7_advances, Cond.instanceMethod yX7_advances, Cond.selects RX7 yX7_advances yX7_advances, Cond.code yX7_advances cX7_advances 2 none, Cond.fieldLink RX7 86 "ClueLeaveModel" "at" "I", Cond.methodLink RX7 92 yX7_byteAt, Cond.instanceMethod yX7_byteAt, Cond.selects RX7 yX7_byteAt yX7_byteAt, Cond.code yX7_byteAt cX7_byteAt 2 (some .int), Cond.fieldLink RX7 82 "ClueLeaveModel" "taped" "I"]
def wsX7_next_r2 : List Cond := [Cond.fieldLink RX7 22 "ClueLeaveModel" "tape" "[I", Cond.methodLink RX7 56 yX7_in, Cond.static yX7_in, Cond.code yX7_in cX7_in 3 (some .boolean), Cond.methodLink RX7 118 yX7_figure, Cond.instanceMethod yX7_figure, Cond.selects RX7 yX7_figure yX7_figure, Cond.code yX7_figure cX7_figure 3 (some .int)]
def wsX7_next : List Cond := .code yX7_next cX7_next 3 (some .int) :: ((wsX7_next_r1 ++ wsX7_next_r2) ++ wsX70)
def wsX7_readsClue_r1 : List Cond := [Cond.fieldLink RX7 95 "ClueLeaveModel" "value" "I", Cond.fieldLink RX7 28 "ClueLeaveModel" "draft" "[I", Cond.fieldLink RX7 98 "ClueLeaveModel" "token" "I", Cond.methodLink RX7 121 yX7_kindOf, Cond.static yX7_kindOf, Cond.initialized RX7, Cond.code yX7_kindOf cX7_kindOf 1 (some .int), Cond.methodLink RX7 114 yX7_takes, Cond.instanceMethod yX7_takes, Cond.selects RX7 yX7_takes yX7_takes, Cond.code yX7_takes cX7_takes 4 (some .int), Cond.fieldLink RX7 89 "ClueLeaveModel" "start" "I", Cond.fieldLink RX7 101 "ClueLeaveModel" "faultPlace" "I", Cond.fieldLink RX7 108 "ClueLeaveModel" "faultKind" "I", Cond.methodLink RX7 104 yX7_isWell, Cond.instanceMethod yX7_isWell, Cond.selects RX7 yX7_isWell yX7_isWell, Cond.code yX7_isWell cX7_isWell 1 (some .boolean), Cond.methodLink RX7 111 yX7_advances, Cond.instanceMethod yX7_advances, Cond.selects RX7 yX7_advances yX7_advances, Cond.code yX7_advances cX7_advances 2 none, Cond.fieldLink RX7 86 "ClueLeaveModel" "at" "I", Cond.methodLink RX7 92 yX7_byteAt]
def wsX7_readsClue_r2 : List Cond := [Cond.instanceMethod yX7_byteAt, Cond.selects RX7 yX7_byteAt yX7_byteAt, Cond.code yX7_byteAt cX7_byteAt 2 (some .int), Cond.fieldLink RX7 82 "ClueLeaveModel" "taped" "I", Cond.fieldLink RX7 22 "ClueLeaveModel" "tape" "[I", Cond.methodLink RX7 56 yX7_in, Cond.static yX7_in, Cond.code yX7_in cX7_in 3 (some .boolean), Cond.methodLink RX7 118 yX7_figure, Cond.instanceMethod yX7_figure, Cond.selects RX7 yX7_figure yX7_figure, Cond.code yX7_figure cX7_figure 3 (some .int), Cond.methodLink RX7 124 yX7_next, Cond.instanceMethod yX7_next, Cond.selects RX7 yX7_next yX7_next, Cond.code yX7_next cX7_next 3 (some .int)]
def wsX7_readsClue : List Cond := .code yX7_readsClue cX7_readsClue 6 none :: ((wsX7_readsClue_r1 ++ wsX7_readsClue_r2) ++ wsX70)
def wsX7_city_r1 : List Cond := [Cond.fieldLink RX7 28 "ClueLeaveModel" "draft" "[I", Cond.fieldLink RX7 86 "ClueLeaveModel" "at" "I", Cond.fieldLink RX7 101 "ClueLeaveModel" "faultPlace" "I", Cond.fieldLink RX7 98 "ClueLeaveModel" "token" "I", Cond.fieldLink RX7 95 "ClueLeaveModel" "value" "I", Cond.fieldLink RX7 82 "ClueLeaveModel" "taped" "I", Cond.constant RX7 130 (-1000100), Cond.fieldLink RX7 25 "ClueLeaveModel" "now" "[I", Cond.fieldLink RX7 135 "ClueLeaveModel" "acts" "I", Cond.methodLink RX7 111 yX7_advances, Cond.instanceMethod yX7_advances, Cond.selects RX7 yX7_advances yX7_advances, Cond.initialized RX7, Cond.code yX7_advances cX7_advances 2 none, Cond.fieldLink RX7 89 "ClueLeaveModel" "start" "I", Cond.methodLink RX7 92 yX7_byteAt, Cond.instanceMethod yX7_byteAt, Cond.selects RX7 yX7_byteAt yX7_byteAt, Cond.code yX7_byteAt cX7_byteAt 2 (some .int), Cond.fieldLink RX7 22 "ClueLeaveModel" "tape" "[I", Cond.methodLink RX7 56 yX7_in, Cond.static yX7_in, Cond.code yX7_in cX7_in 3 (some .boolean), Cond.methodLink RX7 114 yX7_takes]
def wsX7_city_r2 : List Cond := [Cond.instanceMethod yX7_takes, Cond.selects RX7 yX7_takes yX7_takes, Cond.code yX7_takes cX7_takes 4 (some .int), Cond.fieldLink RX7 108 "ClueLeaveModel" "faultKind" "I", Cond.methodLink RX7 104 yX7_isWell, Cond.instanceMethod yX7_isWell, Cond.selects RX7 yX7_isWell yX7_isWell, Cond.code yX7_isWell cX7_isWell 1 (some .boolean), Cond.methodLink RX7 118 yX7_figure, Cond.instanceMethod yX7_figure, Cond.selects RX7 yX7_figure yX7_figure, Cond.code yX7_figure cX7_figure 3 (some .int), Cond.methodLink RX7 124 yX7_next, Cond.instanceMethod yX7_next, Cond.selects RX7 yX7_next yX7_next, Cond.code yX7_next cX7_next 3 (some .int), Cond.methodLink RX7 121 yX7_kindOf, Cond.static yX7_kindOf, Cond.code yX7_kindOf cX7_kindOf 1 (some .int), Cond.methodLink RX7 127 yX7_readsClue, Cond.instanceMethod yX7_readsClue, Cond.selects RX7 yX7_readsClue yX7_readsClue, Cond.code yX7_readsClue cX7_readsClue 6 none, Cond.methodLink RX7 131 yX7_copies]
def wsX7_city_r3 : List Cond := [Cond.static yX7_copies, Cond.code yX7_copies cX7_copies 5 none]
def wsX7_city : List Cond := .code yX7_city cX7_city 2 (some .int) :: ((wsX7_city_r1 ++ (wsX7_city_r2 ++ wsX7_city_r3)) ++ wsX70)
def wsX7_fault : List Cond := .code yX7_fault cX7_fault 1 (some .int) :: ([.fieldLink RX7 108 "ClueLeaveModel" "faultKind" "I"] ++ wsX70)
def wsX7_isCity : List Cond := .code yX7_isCity cX7_isCity 1 (some .boolean) :: ([.fieldLink RX7 25 "ClueLeaveModel" "now" "[I"] ++ wsX70)
def wsX7_isClue : List Cond := .code yX7_isClue cX7_isClue 2 (some .boolean) :: ([.fieldLink RX7 25 "ClueLeaveModel" "now" "[I", .methodLink RX7 56 yX7_in, .static yX7_in, .initialized RX7, .code yX7_in cX7_in 3 (some .boolean)] ++ wsX70)
def wsX7_isFar : List Cond := .code yX7_isFar cX7_isFar 1 (some .boolean) :: ([.methodLink RX7 56 yX7_in, .static yX7_in, .initialized RX7, .code yX7_in cX7_in 3 (some .boolean)])
def wsX7_all : List Cond := .code yX7_all cX7_all 1 (some .int) :: ([])
def wsX7_isAtWork : List Cond := .code yX7_isAtWork cX7_isAtWork 5 (some .boolean) :: ([])
def wsX7_leaves : List Cond := .code yX7_leaves cX7_leaves 5 (some .int) :: ([.methodLink RX7 138 yX7_has, .static yX7_has, .initialized RX7, .code yX7_has cX7_has 2 (some .boolean), .methodLink RX7 142 yX7_all, .static yX7_all, .code yX7_all cX7_all 1 (some .int)])
def wsX7_workers : List Cond := .code yX7_workers cX7_workers 4 (some .int) :: ([.methodLink RX7 146 yX7_isAtWork, .static yX7_isAtWork, .initialized RX7, .code yX7_isAtWork cX7_isAtWork 5 (some .boolean)])
def wsX7_leftBy : List Cond := .code yX7_leftBy cX7_leftBy 4 (some .int) :: ([.methodLink RX7 142 yX7_all, .static yX7_all, .initialized RX7, .code yX7_all cX7_all 1 (some .int), .methodLink RX7 138 yX7_has, .static yX7_has, .code yX7_has cX7_has 2 (some .boolean), .methodLink RX7 150 yX7_leaves, .static yX7_leaves, .code yX7_leaves cX7_leaves 5 (some .int)])
def wsX7_leftOn : List Cond := .code yX7_leftOn cX7_leftOn 2 (some .int) :: ([.methodLink RX7 154 yX7_workers, .static yX7_workers, .initialized RX7, .code yX7_workers cX7_workers 4 (some .int), .methodLink RX7 146 yX7_isAtWork, .static yX7_isAtWork, .code yX7_isAtWork cX7_isAtWork 5 (some .boolean), .methodLink RX7 157 yX7_leftBy, .static yX7_leftBy, .code yX7_leftBy cX7_leftBy 4 (some .int), .methodLink RX7 142 yX7_all, .static yX7_all, .code yX7_all cX7_all 1 (some .int), .methodLink RX7 138 yX7_has, .static yX7_has, .code yX7_has cX7_has 2 (some .boolean), .methodLink RX7 150 yX7_leaves, .static yX7_leaves, .code yX7_leaves cX7_leaves 5 (some .int)])
def wsX7_only : List Cond := .code yX7_only cX7_only 2 (some .int) :: ([.constant RX7 50 (-1000000)])
def wsX7_notes : List Cond := .code yX7_notes cX7_notes 2 none :: ([.fieldLink RX7 135 "ClueLeaveModel" "acts" "I", .fieldLink RX7 34 "ClueLeaveModel" "past" "[I", .fieldLink RX7 25 "ClueLeaveModel" "now" "[I", .methodLink RX7 131 yX7_copies, .static yX7_copies, .initialized RX7, .code yX7_copies cX7_copies 5 none] ++ wsX70)
def wsX7_days_r1 : List Cond := [Cond.constant RX7 163 (-1000002), Cond.constant RX7 64 (-1000001), Cond.fieldLink RX7 25 "ClueLeaveModel" "now" "[I", Cond.constant RX7 85 (-1000003), Cond.methodLink RX7 160 yX7_isCity, Cond.instanceMethod yX7_isCity, Cond.selects RX7 yX7_isCity yX7_isCity, Cond.initialized RX7, Cond.code yX7_isCity cX7_isCity 1 (some .boolean), Cond.methodLink RX7 56 yX7_in, Cond.static yX7_in, Cond.code yX7_in cX7_in 3 (some .boolean), Cond.methodLink RX7 164 yX7_notes, Cond.instanceMethod yX7_notes, Cond.selects RX7 yX7_notes yX7_notes, Cond.code yX7_notes cX7_notes 2 none, Cond.fieldLink RX7 135 "ClueLeaveModel" "acts" "I", Cond.fieldLink RX7 34 "ClueLeaveModel" "past" "[I", Cond.methodLink RX7 131 yX7_copies, Cond.static yX7_copies, Cond.code yX7_copies cX7_copies 5 none, Cond.methodLink RX7 167 yX7_leftOn, Cond.static yX7_leftOn, Cond.code yX7_leftOn cX7_leftOn 2 (some .int)]
def wsX7_days_r2 : List Cond := [Cond.methodLink RX7 154 yX7_workers, Cond.static yX7_workers, Cond.code yX7_workers cX7_workers 4 (some .int), Cond.methodLink RX7 146 yX7_isAtWork, Cond.static yX7_isAtWork, Cond.code yX7_isAtWork cX7_isAtWork 5 (some .boolean), Cond.methodLink RX7 157 yX7_leftBy, Cond.static yX7_leftBy, Cond.code yX7_leftBy cX7_leftBy 4 (some .int), Cond.methodLink RX7 142 yX7_all, Cond.static yX7_all, Cond.code yX7_all cX7_all 1 (some .int), Cond.methodLink RX7 138 yX7_has, Cond.static yX7_has, Cond.code yX7_has cX7_has 2 (some .boolean), Cond.methodLink RX7 150 yX7_leaves, Cond.static yX7_leaves, Cond.code yX7_leaves cX7_leaves 5 (some .int)]
def wsX7_days : List Cond := .code yX7_days cX7_days 3 (some .int) :: ((wsX7_days_r1 ++ wsX7_days_r2) ++ wsX70)
def wsX7_bribe : List Cond := .code yX7_bribe cX7_bribe 3 (some .int) :: ([.constant RX7 64 (-1000001), .fieldLink RX7 25 "ClueLeaveModel" "now" "[I", .constant RX7 163 (-1000002), .methodLink RX7 170 yX7_isClue, .instanceMethod yX7_isClue, .selects RX7 yX7_isClue yX7_isClue, .initialized RX7, .code yX7_isClue cX7_isClue 2 (some .boolean), .methodLink RX7 56 yX7_in, .static yX7_in, .code yX7_in cX7_in 3 (some .boolean), .methodLink RX7 164 yX7_notes, .instanceMethod yX7_notes, .selects RX7 yX7_notes yX7_notes, .code yX7_notes cX7_notes 2 none, .fieldLink RX7 135 "ClueLeaveModel" "acts" "I", .fieldLink RX7 34 "ClueLeaveModel" "past" "[I", .methodLink RX7 131 yX7_copies, .static yX7_copies, .code yX7_copies cX7_copies 5 none] ++ wsX70)
def wsX7_puts : List Cond := .code yX7_puts cX7_puts 4 (some .int) :: ([.fieldLink RX7 25 "ClueLeaveModel" "now" "[I", .methodLink RX7 164 yX7_notes, .instanceMethod yX7_notes, .selects RX7 yX7_notes yX7_notes, .initialized RX7, .code yX7_notes cX7_notes 2 none, .fieldLink RX7 135 "ClueLeaveModel" "acts" "I", .fieldLink RX7 34 "ClueLeaveModel" "past" "[I", .methodLink RX7 131 yX7_copies, .static yX7_copies, .code yX7_copies cX7_copies 5 none] ++ wsX70)
def wsX7_learn_r1 : List Cond := [Cond.fieldLink RX7 25 "ClueLeaveModel" "now" "[I", Cond.constant RX7 64 (-1000001), Cond.methodLink RX7 170 yX7_isClue, Cond.instanceMethod yX7_isClue, Cond.selects RX7 yX7_isClue yX7_isClue, Cond.initialized RX7, Cond.code yX7_isClue cX7_isClue 2 (some .boolean), Cond.methodLink RX7 56 yX7_in, Cond.static yX7_in, Cond.code yX7_in cX7_in 3 (some .boolean), Cond.methodLink RX7 142 yX7_all, Cond.static yX7_all, Cond.code yX7_all cX7_all 1 (some .int), Cond.methodLink RX7 173 yX7_puts, Cond.instanceMethod yX7_puts, Cond.selects RX7 yX7_puts yX7_puts, Cond.code yX7_puts cX7_puts 4 (some .int), Cond.methodLink RX7 164 yX7_notes, Cond.instanceMethod yX7_notes, Cond.selects RX7 yX7_notes yX7_notes, Cond.code yX7_notes cX7_notes 2 none, Cond.fieldLink RX7 135 "ClueLeaveModel" "acts" "I", Cond.fieldLink RX7 34 "ClueLeaveModel" "past" "[I", Cond.methodLink RX7 131 yX7_copies]
def wsX7_learn_r2 : List Cond := [Cond.static yX7_copies, Cond.code yX7_copies cX7_copies 5 none]
def wsX7_learn : List Cond := .code yX7_learn cX7_learn 3 (some .int) :: ((wsX7_learn_r1 ++ wsX7_learn_r2) ++ wsX70)
def wsX7_shift : List Cond := .code yX7_shift cX7_shift 3 (some .int) :: ([.fieldLink RX7 25 "ClueLeaveModel" "now" "[I", .constant RX7 64 (-1000001), .methodLink RX7 170 yX7_isClue, .instanceMethod yX7_isClue, .selects RX7 yX7_isClue yX7_isClue, .initialized RX7, .code yX7_isClue cX7_isClue 2 (some .boolean), .methodLink RX7 56 yX7_in, .static yX7_in, .code yX7_in cX7_in 3 (some .boolean), .methodLink RX7 173 yX7_puts, .instanceMethod yX7_puts, .selects RX7 yX7_puts yX7_puts, .code yX7_puts cX7_puts 4 (some .int), .methodLink RX7 164 yX7_notes, .instanceMethod yX7_notes, .selects RX7 yX7_notes yX7_notes, .code yX7_notes cX7_notes 2 none, .fieldLink RX7 135 "ClueLeaveModel" "acts" "I", .fieldLink RX7 34 "ClueLeaveModel" "past" "[I", .methodLink RX7 131 yX7_copies, .static yX7_copies, .code yX7_copies cX7_copies 5 none] ++ wsX70)
def wsX7_undo : List Cond := .code yX7_undo cX7_undo 1 (some .int) :: ([.fieldLink RX7 135 "ClueLeaveModel" "acts" "I", .constant RX7 163 (-1000002), .fieldLink RX7 34 "ClueLeaveModel" "past" "[I", .fieldLink RX7 25 "ClueLeaveModel" "now" "[I", .methodLink RX7 131 yX7_copies, .static yX7_copies, .initialized RX7, .code yX7_copies cX7_copies 5 none] ++ wsX70)
def wsX7_clue : List Cond := .code yX7_clue cX7_clue 3 (some .int) :: ([.constant RX7 64 (-1000001), .fieldLink RX7 25 "ClueLeaveModel" "now" "[I", .methodLink RX7 170 yX7_isClue, .instanceMethod yX7_isClue, .selects RX7 yX7_isClue yX7_isClue, .initialized RX7, .code yX7_isClue cX7_isClue 2 (some .boolean), .methodLink RX7 56 yX7_in, .static yX7_in, .code yX7_in cX7_in 3 (some .boolean), .methodLink RX7 146 yX7_isAtWork, .static yX7_isAtWork, .code yX7_isAtWork cX7_isAtWork 5 (some .boolean), .methodLink RX7 150 yX7_leaves, .static yX7_leaves, .code yX7_leaves cX7_leaves 5 (some .int), .methodLink RX7 138 yX7_has, .static yX7_has, .code yX7_has cX7_has 2 (some .boolean), .methodLink RX7 142 yX7_all, .static yX7_all, .code yX7_all cX7_all 1 (some .int)] ++ wsX70)
def wsX7_ahead_r1 : List Cond := [Cond.constant RX7 163 (-1000002), Cond.constant RX7 64 (-1000001), Cond.fieldLink RX7 25 "ClueLeaveModel" "now" "[I", Cond.methodLink RX7 160 yX7_isCity, Cond.instanceMethod yX7_isCity, Cond.selects RX7 yX7_isCity yX7_isCity, Cond.initialized RX7, Cond.code yX7_isCity cX7_isCity 1 (some .boolean), Cond.methodLink RX7 176 yX7_isFar, Cond.static yX7_isFar, Cond.code yX7_isFar cX7_isFar 1 (some .boolean), Cond.methodLink RX7 56 yX7_in, Cond.static yX7_in, Cond.code yX7_in cX7_in 3 (some .boolean), Cond.methodLink RX7 167 yX7_leftOn, Cond.static yX7_leftOn, Cond.code yX7_leftOn cX7_leftOn 2 (some .int), Cond.methodLink RX7 154 yX7_workers, Cond.static yX7_workers, Cond.code yX7_workers cX7_workers 4 (some .int), Cond.methodLink RX7 146 yX7_isAtWork, Cond.static yX7_isAtWork, Cond.code yX7_isAtWork cX7_isAtWork 5 (some .boolean), Cond.methodLink RX7 157 yX7_leftBy]
def wsX7_ahead_r2 : List Cond := [Cond.static yX7_leftBy, Cond.code yX7_leftBy cX7_leftBy 4 (some .int), Cond.methodLink RX7 142 yX7_all, Cond.static yX7_all, Cond.code yX7_all cX7_all 1 (some .int), Cond.methodLink RX7 138 yX7_has, Cond.static yX7_has, Cond.code yX7_has cX7_has 2 (some .boolean), Cond.methodLink RX7 150 yX7_leaves, Cond.static yX7_leaves, Cond.code yX7_leaves cX7_leaves 5 (some .int), Cond.methodLink RX7 179 yX7_only, Cond.static yX7_only, Cond.code yX7_only cX7_only 2 (some .int), Cond.constant RX7 50 (-1000000)]
def wsX7_ahead : List Cond := .code yX7_ahead cX7_ahead 4 (some .int) :: ((wsX7_ahead_r1 ++ wsX7_ahead_r2) ++ wsX70)
def wsX7_first_r1 : List Cond := [Cond.constant RX7 163 (-1000002), Cond.constant RX7 64 (-1000001), Cond.fieldLink RX7 25 "ClueLeaveModel" "now" "[I", Cond.constant RX7 50 (-1000000), Cond.methodLink RX7 160 yX7_isCity, Cond.instanceMethod yX7_isCity, Cond.selects RX7 yX7_isCity yX7_isCity, Cond.initialized RX7, Cond.code yX7_isCity cX7_isCity 1 (some .boolean), Cond.methodLink RX7 56 yX7_in, Cond.static yX7_in, Cond.code yX7_in cX7_in 3 (some .boolean), Cond.methodLink RX7 167 yX7_leftOn, Cond.static yX7_leftOn, Cond.code yX7_leftOn cX7_leftOn 2 (some .int), Cond.methodLink RX7 154 yX7_workers, Cond.static yX7_workers, Cond.code yX7_workers cX7_workers 4 (some .int), Cond.methodLink RX7 146 yX7_isAtWork, Cond.static yX7_isAtWork, Cond.code yX7_isAtWork cX7_isAtWork 5 (some .boolean), Cond.methodLink RX7 157 yX7_leftBy, Cond.static yX7_leftBy, Cond.code yX7_leftBy cX7_leftBy 4 (some .int)]
def wsX7_first_r2 : List Cond := [Cond.methodLink RX7 142 yX7_all, Cond.static yX7_all, Cond.code yX7_all cX7_all 1 (some .int), Cond.methodLink RX7 138 yX7_has, Cond.static yX7_has, Cond.code yX7_has cX7_has 2 (some .boolean), Cond.methodLink RX7 150 yX7_leaves, Cond.static yX7_leaves, Cond.code yX7_leaves cX7_leaves 5 (some .int), Cond.methodLink RX7 182 yX7_ones, Cond.static yX7_ones, Cond.code yX7_ones cX7_ones 3 (some .int)]
def wsX7_first : List Cond := .code yX7_first cX7_first 3 (some .int) :: ((wsX7_first_r1 ++ wsX7_first_r2) ++ wsX70)
def wsX7_sureDays_r1 : List Cond := [Cond.fieldLink RX7 31 "ClueLeaveModel" "tried" "[I", Cond.methodLink RX7 167 yX7_leftOn, Cond.static yX7_leftOn, Cond.initialized RX7, Cond.code yX7_leftOn cX7_leftOn 2 (some .int), Cond.methodLink RX7 154 yX7_workers, Cond.static yX7_workers, Cond.code yX7_workers cX7_workers 4 (some .int), Cond.methodLink RX7 146 yX7_isAtWork, Cond.static yX7_isAtWork, Cond.code yX7_isAtWork cX7_isAtWork 5 (some .boolean), Cond.methodLink RX7 157 yX7_leftBy, Cond.static yX7_leftBy, Cond.code yX7_leftBy cX7_leftBy 4 (some .int), Cond.methodLink RX7 142 yX7_all, Cond.static yX7_all, Cond.code yX7_all cX7_all 1 (some .int), Cond.methodLink RX7 138 yX7_has, Cond.static yX7_has, Cond.code yX7_has cX7_has 2 (some .boolean), Cond.methodLink RX7 150 yX7_leaves, Cond.static yX7_leaves, Cond.code yX7_leaves cX7_leaves 5 (some .int), Cond.methodLink RX7 182 yX7_ones]
def wsX7_sureDays_r2 : List Cond := [Cond.static yX7_ones, Cond.code yX7_ones cX7_ones 3 (some .int)]
def wsX7_sureDays : List Cond := .code yX7_sureDays cX7_sureDays 4 (some .int) :: ((wsX7_sureDays_r1 ++ wsX7_sureDays_r2) ++ wsX70)
def wsX7_counts : List Cond := .code yX7_counts cX7_counts 3 (some .boolean) :: ([.fieldLink RX7 31 "ClueLeaveModel" "tried" "[I"] ++ wsX70)
def wsX7_rota_r1 : List Cond := [Cond.constant RX7 163 (-1000002), Cond.constant RX7 64 (-1000001), Cond.fieldLink RX7 25 "ClueLeaveModel" "now" "[I", Cond.fieldLink RX7 31 "ClueLeaveModel" "tried" "[I", Cond.constant RX7 50 (-1000000), Cond.fieldLink RX7 44 "ClueLeaveModel" "best" "[I", Cond.methodLink RX7 160 yX7_isCity, Cond.instanceMethod yX7_isCity, Cond.selects RX7 yX7_isCity yX7_isCity, Cond.initialized RX7, Cond.code yX7_isCity cX7_isCity 1 (some .boolean), Cond.methodLink RX7 56 yX7_in, Cond.static yX7_in, Cond.code yX7_in cX7_in 3 (some .boolean), Cond.methodLink RX7 131 yX7_copies, Cond.static yX7_copies, Cond.code yX7_copies cX7_copies 5 none, Cond.methodLink RX7 185 yX7_sureDays, Cond.instanceMethod yX7_sureDays, Cond.selects RX7 yX7_sureDays yX7_sureDays, Cond.code yX7_sureDays cX7_sureDays 4 (some .int), Cond.methodLink RX7 167 yX7_leftOn, Cond.static yX7_leftOn, Cond.code yX7_leftOn cX7_leftOn 2 (some .int)]
def wsX7_rota_r2 : List Cond := [Cond.methodLink RX7 154 yX7_workers, Cond.static yX7_workers, Cond.code yX7_workers cX7_workers 4 (some .int), Cond.methodLink RX7 146 yX7_isAtWork, Cond.static yX7_isAtWork, Cond.code yX7_isAtWork cX7_isAtWork 5 (some .boolean), Cond.methodLink RX7 157 yX7_leftBy, Cond.static yX7_leftBy, Cond.code yX7_leftBy cX7_leftBy 4 (some .int), Cond.methodLink RX7 142 yX7_all, Cond.static yX7_all, Cond.code yX7_all cX7_all 1 (some .int), Cond.methodLink RX7 138 yX7_has, Cond.static yX7_has, Cond.code yX7_has cX7_has 2 (some .boolean), Cond.methodLink RX7 150 yX7_leaves, Cond.static yX7_leaves, Cond.code yX7_leaves cX7_leaves 5 (some .int), Cond.methodLink RX7 182 yX7_ones, Cond.static yX7_ones, Cond.code yX7_ones cX7_ones 3 (some .int), Cond.methodLink RX7 188 yX7_counts, Cond.instanceMethod yX7_counts, Cond.selects RX7 yX7_counts yX7_counts]
def wsX7_rota_r3 : List Cond := [Cond.code yX7_counts cX7_counts 3 (some .boolean), Cond.methodLink RX7 170 yX7_isClue, Cond.instanceMethod yX7_isClue, Cond.selects RX7 yX7_isClue yX7_isClue, Cond.code yX7_isClue cX7_isClue 2 (some .boolean)]
def wsX7_rota : List Cond := .code yX7_rota cX7_rota 7 (some .int) :: ((wsX7_rota_r1 ++ (wsX7_rota_r2 ++ wsX7_rota_r3)) ++ wsX70)
def wsX7_when_r1 : List Cond := [Cond.fieldLink RX7 25 "ClueLeaveModel" "now" "[I", Cond.constant RX7 64 (-1000001), Cond.constant RX7 50 (-1000000), Cond.methodLink RX7 56 yX7_in, Cond.static yX7_in, Cond.initialized RX7, Cond.code yX7_in cX7_in 3 (some .boolean), Cond.methodLink RX7 167 yX7_leftOn, Cond.static yX7_leftOn, Cond.code yX7_leftOn cX7_leftOn 2 (some .int), Cond.methodLink RX7 154 yX7_workers, Cond.static yX7_workers, Cond.code yX7_workers cX7_workers 4 (some .int), Cond.methodLink RX7 146 yX7_isAtWork, Cond.static yX7_isAtWork, Cond.code yX7_isAtWork cX7_isAtWork 5 (some .boolean), Cond.methodLink RX7 157 yX7_leftBy, Cond.static yX7_leftBy, Cond.code yX7_leftBy cX7_leftBy 4 (some .int), Cond.methodLink RX7 142 yX7_all, Cond.static yX7_all, Cond.code yX7_all cX7_all 1 (some .int), Cond.methodLink RX7 138 yX7_has, Cond.static yX7_has]
def wsX7_when_r2 : List Cond := [Cond.code yX7_has cX7_has 2 (some .boolean), Cond.methodLink RX7 150 yX7_leaves, Cond.static yX7_leaves, Cond.code yX7_leaves cX7_leaves 5 (some .int), Cond.methodLink RX7 182 yX7_ones, Cond.static yX7_ones, Cond.code yX7_ones cX7_ones 3 (some .int)]
def wsX7_when : List Cond := .code yX7_when cX7_when 8 (some .int) :: ((wsX7_when_r1 ++ wsX7_when_r2) ++ wsX70)
def wsX7_fewest : List Cond := .code yX7_fewest cX7_fewest 6 (some .int) :: ([.constant RX7 50 (-1000000), .fieldLink RX7 25 "ClueLeaveModel" "now" "[I", .methodLink RX7 157 yX7_leftBy, .static yX7_leftBy, .initialized RX7, .code yX7_leftBy cX7_leftBy 4 (some .int), .methodLink RX7 142 yX7_all, .static yX7_all, .code yX7_all cX7_all 1 (some .int), .methodLink RX7 138 yX7_has, .static yX7_has, .code yX7_has cX7_has 2 (some .boolean), .methodLink RX7 150 yX7_leaves, .static yX7_leaves, .code yX7_leaves cX7_leaves 5 (some .int), .methodLink RX7 182 yX7_ones, .static yX7_ones, .code yX7_ones cX7_ones 3 (some .int)] ++ wsX70)
def wsX7_enough_r1 : List Cond := [Cond.constant RX7 163 (-1000002), Cond.constant RX7 64 (-1000001), Cond.fieldLink RX7 25 "ClueLeaveModel" "now" "[I", Cond.methodLink RX7 160 yX7_isCity, Cond.instanceMethod yX7_isCity, Cond.selects RX7 yX7_isCity yX7_isCity, Cond.initialized RX7, Cond.code yX7_isCity cX7_isCity 1 (some .boolean), Cond.methodLink RX7 176 yX7_isFar, Cond.static yX7_isFar, Cond.code yX7_isFar cX7_isFar 1 (some .boolean), Cond.methodLink RX7 56 yX7_in, Cond.static yX7_in, Cond.code yX7_in cX7_in 3 (some .boolean), Cond.methodLink RX7 154 yX7_workers, Cond.static yX7_workers, Cond.code yX7_workers cX7_workers 4 (some .int), Cond.methodLink RX7 146 yX7_isAtWork, Cond.static yX7_isAtWork, Cond.code yX7_isAtWork cX7_isAtWork 5 (some .boolean), Cond.methodLink RX7 167 yX7_leftOn, Cond.static yX7_leftOn, Cond.code yX7_leftOn cX7_leftOn 2 (some .int), Cond.methodLink RX7 157 yX7_leftBy]
def wsX7_enough_r2 : List Cond := [Cond.static yX7_leftBy, Cond.code yX7_leftBy cX7_leftBy 4 (some .int), Cond.methodLink RX7 142 yX7_all, Cond.static yX7_all, Cond.code yX7_all cX7_all 1 (some .int), Cond.methodLink RX7 138 yX7_has, Cond.static yX7_has, Cond.code yX7_has cX7_has 2 (some .boolean), Cond.methodLink RX7 150 yX7_leaves, Cond.static yX7_leaves, Cond.code yX7_leaves cX7_leaves 5 (some .int), Cond.methodLink RX7 191 yX7_fewest, Cond.instanceMethod yX7_fewest, Cond.selects RX7 yX7_fewest yX7_fewest, Cond.code yX7_fewest cX7_fewest 6 (some .int), Cond.constant RX7 50 (-1000000), Cond.methodLink RX7 182 yX7_ones, Cond.static yX7_ones, Cond.code yX7_ones cX7_ones 3 (some .int)]
def wsX7_enough : List Cond := .code yX7_enough cX7_enough 4 (some .int) :: ((wsX7_enough_r1 ++ wsX7_enough_r2) ++ wsX70)
def wsX7_clash_r1 : List Cond := [Cond.constant RX7 163 (-1000002), Cond.constant RX7 64 (-1000001), Cond.fieldLink RX7 25 "ClueLeaveModel" "now" "[I", Cond.constant RX7 50 (-1000000), Cond.methodLink RX7 160 yX7_isCity, Cond.instanceMethod yX7_isCity, Cond.selects RX7 yX7_isCity yX7_isCity, Cond.initialized RX7, Cond.code yX7_isCity cX7_isCity 1 (some .boolean), Cond.methodLink RX7 176 yX7_isFar, Cond.static yX7_isFar, Cond.code yX7_isFar cX7_isFar 1 (some .boolean), Cond.methodLink RX7 56 yX7_in, Cond.static yX7_in, Cond.code yX7_in cX7_in 3 (some .boolean), Cond.methodLink RX7 154 yX7_workers, Cond.static yX7_workers, Cond.code yX7_workers cX7_workers 4 (some .int), Cond.methodLink RX7 146 yX7_isAtWork, Cond.static yX7_isAtWork, Cond.code yX7_isAtWork cX7_isAtWork 5 (some .boolean), Cond.methodLink RX7 191 yX7_fewest, Cond.instanceMethod yX7_fewest, Cond.selects RX7 yX7_fewest yX7_fewest]
def wsX7_clash_r2 : List Cond := [Cond.code yX7_fewest cX7_fewest 6 (some .int), Cond.methodLink RX7 157 yX7_leftBy, Cond.static yX7_leftBy, Cond.code yX7_leftBy cX7_leftBy 4 (some .int), Cond.methodLink RX7 142 yX7_all, Cond.static yX7_all, Cond.code yX7_all cX7_all 1 (some .int), Cond.methodLink RX7 138 yX7_has, Cond.static yX7_has, Cond.code yX7_has cX7_has 2 (some .boolean), Cond.methodLink RX7 150 yX7_leaves, Cond.static yX7_leaves, Cond.code yX7_leaves cX7_leaves 5 (some .int), Cond.methodLink RX7 182 yX7_ones, Cond.static yX7_ones, Cond.code yX7_ones cX7_ones 3 (some .int)]
def wsX7_clash : List Cond := .code yX7_clash cX7_clash 4 (some .int) :: ((wsX7_clash_r1 ++ wsX7_clash_r2) ++ wsX70)
def wsX7_goesSo : List Cond := .code yX7_goesSo cX7_goesSo 5 (some .boolean) :: ([.fieldLink RX7 31 "ClueLeaveModel" "tried" "[I", .fieldLink RX7 16 "ClueLeaveModel" "items" "[I", .methodLink RX7 167 yX7_leftOn, .static yX7_leftOn, .initialized RX7, .code yX7_leftOn cX7_leftOn 2 (some .int), .methodLink RX7 154 yX7_workers, .static yX7_workers, .code yX7_workers cX7_workers 4 (some .int), .methodLink RX7 146 yX7_isAtWork, .static yX7_isAtWork, .code yX7_isAtWork cX7_isAtWork 5 (some .boolean), .methodLink RX7 157 yX7_leftBy, .static yX7_leftBy, .code yX7_leftBy cX7_leftBy 4 (some .int), .methodLink RX7 142 yX7_all, .static yX7_all, .code yX7_all cX7_all 1 (some .int), .methodLink RX7 138 yX7_has, .static yX7_has, .code yX7_has cX7_has 2 (some .boolean), .methodLink RX7 150 yX7_leaves, .static yX7_leaves, .code yX7_leaves cX7_leaves 5 (some .int)] ++ wsX70)
def wsX7_bribes_r1 : List Cond := [Cond.constant RX7 163 (-1000002), Cond.constant RX7 64 (-1000001), Cond.fieldLink RX7 25 "ClueLeaveModel" "now" "[I", Cond.fieldLink RX7 31 "ClueLeaveModel" "tried" "[I", Cond.methodLink RX7 160 yX7_isCity, Cond.instanceMethod yX7_isCity, Cond.selects RX7 yX7_isCity yX7_isCity, Cond.initialized RX7, Cond.code yX7_isCity cX7_isCity 1 (some .boolean), Cond.methodLink RX7 60 yX7_isRow, Cond.static yX7_isRow, Cond.code yX7_isRow cX7_isRow 1 (some .boolean), Cond.methodLink RX7 56 yX7_in, Cond.static yX7_in, Cond.code yX7_in cX7_in 3 (some .boolean), Cond.methodLink RX7 72 yX7_isMissing, Cond.instanceMethod yX7_isMissing, Cond.selects RX7 yX7_isMissing yX7_isMissing, Cond.code yX7_isMissing cX7_isMissing 2 (some .boolean), Cond.fieldLink RX7 7 "ClueLeaveModel" "lane" "[I", Cond.constant RX7 50 (-1000000), Cond.methodLink RX7 65 yX7_found, Cond.instanceMethod yX7_found, Cond.selects RX7 yX7_found yX7_found]
def wsX7_bribes_r2 : List Cond := [Cond.code yX7_found cX7_found 2 (some .int), Cond.fieldLink RX7 51 "ClueLeaveModel" "status" "I", Cond.constant RX7 55 (-1000010), Cond.methodLink RX7 79 yX7_isPart, Cond.instanceMethod yX7_isPart, Cond.selects RX7 yX7_isPart yX7_isPart, Cond.code yX7_isPart cX7_isPart 4 (some .boolean), Cond.fieldLink RX7 13 "ClueLeaveModel" "many" "[I", Cond.methodLink RX7 131 yX7_copies, Cond.static yX7_copies, Cond.code yX7_copies cX7_copies 5 none, Cond.methodLink RX7 194 yX7_goesSo, Cond.instanceMethod yX7_goesSo, Cond.selects RX7 yX7_goesSo yX7_goesSo, Cond.code yX7_goesSo cX7_goesSo 5 (some .boolean), Cond.fieldLink RX7 16 "ClueLeaveModel" "items" "[I", Cond.methodLink RX7 167 yX7_leftOn, Cond.static yX7_leftOn, Cond.code yX7_leftOn cX7_leftOn 2 (some .int), Cond.methodLink RX7 154 yX7_workers, Cond.static yX7_workers, Cond.code yX7_workers cX7_workers 4 (some .int), Cond.methodLink RX7 146 yX7_isAtWork, Cond.static yX7_isAtWork]
def wsX7_bribes_r3 : List Cond := [Cond.code yX7_isAtWork cX7_isAtWork 5 (some .boolean), Cond.methodLink RX7 157 yX7_leftBy, Cond.static yX7_leftBy, Cond.code yX7_leftBy cX7_leftBy 4 (some .int), Cond.methodLink RX7 142 yX7_all, Cond.static yX7_all, Cond.code yX7_all cX7_all 1 (some .int), Cond.methodLink RX7 138 yX7_has, Cond.static yX7_has, Cond.code yX7_has cX7_has 2 (some .boolean), Cond.methodLink RX7 150 yX7_leaves, Cond.static yX7_leaves, Cond.code yX7_leaves cX7_leaves 5 (some .int), Cond.methodLink RX7 69 yX7_well, Cond.instanceMethod yX7_well, Cond.selects RX7 yX7_well yX7_well, Cond.code yX7_well cX7_well 2 (some .int)]
def wsX7_bribes : List Cond := .code yX7_bribes cX7_bribes 6 (some .int) :: ((wsX7_bribes_r1 ++ (wsX7_bribes_r2 ++ wsX7_bribes_r3)) ++ wsX70)
def wsX7_fits_r1 : List Cond := [Cond.constant RX7 64 (-1000001), Cond.fieldLink RX7 25 "ClueLeaveModel" "now" "[I", Cond.fieldLink RX7 31 "ClueLeaveModel" "tried" "[I", Cond.methodLink RX7 170 yX7_isClue, Cond.instanceMethod yX7_isClue, Cond.selects RX7 yX7_isClue yX7_isClue, Cond.initialized RX7, Cond.code yX7_isClue cX7_isClue 2 (some .boolean), Cond.methodLink RX7 56 yX7_in, Cond.static yX7_in, Cond.code yX7_in cX7_in 3 (some .boolean), Cond.methodLink RX7 60 yX7_isRow, Cond.static yX7_isRow, Cond.code yX7_isRow cX7_isRow 1 (some .boolean), Cond.methodLink RX7 72 yX7_isMissing, Cond.instanceMethod yX7_isMissing, Cond.selects RX7 yX7_isMissing yX7_isMissing, Cond.code yX7_isMissing cX7_isMissing 2 (some .boolean), Cond.fieldLink RX7 7 "ClueLeaveModel" "lane" "[I", Cond.constant RX7 50 (-1000000), Cond.methodLink RX7 65 yX7_found, Cond.instanceMethod yX7_found, Cond.selects RX7 yX7_found yX7_found, Cond.code yX7_found cX7_found 2 (some .int)]
def wsX7_fits_r2 : List Cond := [Cond.fieldLink RX7 51 "ClueLeaveModel" "status" "I", Cond.constant RX7 55 (-1000010), Cond.methodLink RX7 79 yX7_isPart, Cond.instanceMethod yX7_isPart, Cond.selects RX7 yX7_isPart yX7_isPart, Cond.code yX7_isPart cX7_isPart 4 (some .boolean), Cond.fieldLink RX7 13 "ClueLeaveModel" "many" "[I", Cond.methodLink RX7 131 yX7_copies, Cond.static yX7_copies, Cond.code yX7_copies cX7_copies 5 none, Cond.methodLink RX7 194 yX7_goesSo, Cond.instanceMethod yX7_goesSo, Cond.selects RX7 yX7_goesSo yX7_goesSo, Cond.code yX7_goesSo cX7_goesSo 5 (some .boolean), Cond.fieldLink RX7 16 "ClueLeaveModel" "items" "[I", Cond.methodLink RX7 167 yX7_leftOn, Cond.static yX7_leftOn, Cond.code yX7_leftOn cX7_leftOn 2 (some .int), Cond.methodLink RX7 154 yX7_workers, Cond.static yX7_workers, Cond.code yX7_workers cX7_workers 4 (some .int), Cond.methodLink RX7 146 yX7_isAtWork, Cond.static yX7_isAtWork, Cond.code yX7_isAtWork cX7_isAtWork 5 (some .boolean)]
def wsX7_fits_r3 : List Cond := [Cond.methodLink RX7 157 yX7_leftBy, Cond.static yX7_leftBy, Cond.code yX7_leftBy cX7_leftBy 4 (some .int), Cond.methodLink RX7 142 yX7_all, Cond.static yX7_all, Cond.code yX7_all cX7_all 1 (some .int), Cond.methodLink RX7 138 yX7_has, Cond.static yX7_has, Cond.code yX7_has cX7_has 2 (some .boolean), Cond.methodLink RX7 150 yX7_leaves, Cond.static yX7_leaves, Cond.code yX7_leaves cX7_leaves 5 (some .int), Cond.methodLink RX7 69 yX7_well, Cond.instanceMethod yX7_well, Cond.selects RX7 yX7_well yX7_well, Cond.code yX7_well cX7_well 2 (some .int)]
def wsX7_fits : List Cond := .code yX7_fits cX7_fits 11 (some .int) :: ((wsX7_fits_r1 ++ (wsX7_fits_r2 ++ wsX7_fits_r3)) ++ wsX70)
def wsX7_strike_r1 : List Cond := [Cond.constant RX7 163 (-1000002), Cond.constant RX7 64 (-1000001), Cond.fieldLink RX7 25 "ClueLeaveModel" "now" "[I", Cond.methodLink RX7 160 yX7_isCity, Cond.instanceMethod yX7_isCity, Cond.selects RX7 yX7_isCity yX7_isCity, Cond.initialized RX7, Cond.code yX7_isCity cX7_isCity 1 (some .boolean), Cond.methodLink RX7 176 yX7_isFar, Cond.static yX7_isFar, Cond.code yX7_isFar cX7_isFar 1 (some .boolean), Cond.methodLink RX7 56 yX7_in, Cond.static yX7_in, Cond.code yX7_in cX7_in 3 (some .boolean), Cond.methodLink RX7 154 yX7_workers, Cond.static yX7_workers, Cond.code yX7_workers cX7_workers 4 (some .int), Cond.methodLink RX7 146 yX7_isAtWork, Cond.static yX7_isAtWork, Cond.code yX7_isAtWork cX7_isAtWork 5 (some .boolean), Cond.methodLink RX7 138 yX7_has, Cond.static yX7_has, Cond.code yX7_has cX7_has 2 (some .boolean), Cond.methodLink RX7 157 yX7_leftBy]
def wsX7_strike_r2 : List Cond := [Cond.static yX7_leftBy, Cond.code yX7_leftBy cX7_leftBy 4 (some .int), Cond.methodLink RX7 142 yX7_all, Cond.static yX7_all, Cond.code yX7_all cX7_all 1 (some .int), Cond.methodLink RX7 150 yX7_leaves, Cond.static yX7_leaves, Cond.code yX7_leaves cX7_leaves 5 (some .int), Cond.methodLink RX7 182 yX7_ones, Cond.static yX7_ones, Cond.code yX7_ones cX7_ones 3 (some .int)]
def wsX7_strike : List Cond := .code yX7_strike cX7_strike 10 (some .int) :: ((wsX7_strike_r1 ++ wsX7_strike_r2) ++ wsX70)
def wsX7_drawn_r1 : List Cond := [Cond.constant RX7 163 (-1000002), Cond.constant RX7 197 (999999), Cond.constant RX7 64 (-1000001), Cond.constantLong RX7 198 (16807), Cond.constantLong RX7 200 (2147483647), Cond.fieldLink RX7 25 "ClueLeaveModel" "now" "[I", Cond.constant RX7 50 (-1000000), Cond.methodLink RX7 160 yX7_isCity, Cond.instanceMethod yX7_isCity, Cond.selects RX7 yX7_isCity yX7_isCity, Cond.initialized RX7, Cond.code yX7_isCity cX7_isCity 1 (some .boolean), Cond.methodLink RX7 56 yX7_in, Cond.static yX7_in, Cond.code yX7_in cX7_in 3 (some .boolean), Cond.methodLink RX7 167 yX7_leftOn, Cond.static yX7_leftOn, Cond.code yX7_leftOn cX7_leftOn 2 (some .int), Cond.methodLink RX7 154 yX7_workers, Cond.static yX7_workers, Cond.code yX7_workers cX7_workers 4 (some .int), Cond.methodLink RX7 146 yX7_isAtWork, Cond.static yX7_isAtWork, Cond.code yX7_isAtWork cX7_isAtWork 5 (some .boolean)]
def wsX7_drawn_r2 : List Cond := [Cond.methodLink RX7 157 yX7_leftBy, Cond.static yX7_leftBy, Cond.code yX7_leftBy cX7_leftBy 4 (some .int), Cond.methodLink RX7 142 yX7_all, Cond.static yX7_all, Cond.code yX7_all cX7_all 1 (some .int), Cond.methodLink RX7 138 yX7_has, Cond.static yX7_has, Cond.code yX7_has cX7_has 2 (some .boolean), Cond.methodLink RX7 150 yX7_leaves, Cond.static yX7_leaves, Cond.code yX7_leaves cX7_leaves 5 (some .int), Cond.methodLink RX7 179 yX7_only, Cond.static yX7_only, Cond.code yX7_only cX7_only 2 (some .int)]
def wsX7_drawn : List Cond := .code yX7_drawn cX7_drawn 10 (some .int) :: ((wsX7_drawn_r1 ++ wsX7_drawn_r2) ++ wsX70)
def wsX7_image : List Cond := .code yX7_image cX7_image 2 (some .int) :: ([.constant RX7 64 (-1000001), .constant RX7 163 (-1000002), .fieldLink RX7 25 "ClueLeaveModel" "now" "[I", .fieldLink RX7 37 "ClueLeaveModel" "images" "[I", .fieldLink RX7 40 "ClueLeaveModel" "kept" "[Z", .methodLink RX7 56 yX7_in, .static yX7_in, .initialized RX7, .code yX7_in cX7_in 3 (some .boolean), .methodLink RX7 160 yX7_isCity, .instanceMethod yX7_isCity, .selects RX7 yX7_isCity yX7_isCity, .code yX7_isCity cX7_isCity 1 (some .boolean), .methodLink RX7 131 yX7_copies, .static yX7_copies, .code yX7_copies cX7_copies 5 none] ++ wsX70)
def wsX7_restore : List Cond := .code yX7_restore cX7_restore 2 (some .int) :: ([.constant RX7 64 (-1000001), .fieldLink RX7 40 "ClueLeaveModel" "kept" "[Z", .constant RX7 163 (-1000002), .fieldLink RX7 37 "ClueLeaveModel" "images" "[I", .fieldLink RX7 25 "ClueLeaveModel" "now" "[I", .fieldLink RX7 135 "ClueLeaveModel" "acts" "I", .methodLink RX7 56 yX7_in, .static yX7_in, .initialized RX7, .code yX7_in cX7_in 3 (some .boolean), .methodLink RX7 131 yX7_copies, .static yX7_copies, .code yX7_copies cX7_copies 5 none] ++ wsX70)
def wsX7_kindIn : List Cond := .code yX7_kindIn cX7_kindIn 2 (some .int) :: ([.fieldLink RX7 25 "ClueLeaveModel" "now" "[I"] ++ wsX70)
def wsX7_kind : List Cond := .code yX7_kind cX7_kind 2 (some .int) :: ([.constant RX7 64 (-1000001), .methodLink RX7 170 yX7_isClue, .instanceMethod yX7_isClue, .selects RX7 yX7_isClue yX7_isClue, .initialized RX7, .code yX7_isClue cX7_isClue 2 (some .boolean), .fieldLink RX7 25 "ClueLeaveModel" "now" "[I", .methodLink RX7 56 yX7_in, .static yX7_in, .code yX7_in cX7_in 3 (some .boolean), .methodLink RX7 202 yX7_kindIn, .instanceMethod yX7_kindIn, .selects RX7 yX7_kindIn yX7_kindIn, .code yX7_kindIn cX7_kindIn 2 (some .int)] ++ wsX70)
def wsX7_as : List Cond := .code yX7_as cX7_as 5 (some .int) :: ([.constant RX7 64 (-1000001), .methodLink RX7 170 yX7_isClue, .instanceMethod yX7_isClue, .selects RX7 yX7_isClue yX7_isClue, .initialized RX7, .code yX7_isClue cX7_isClue 2 (some .boolean), .fieldLink RX7 25 "ClueLeaveModel" "now" "[I", .methodLink RX7 56 yX7_in, .static yX7_in, .code yX7_in cX7_in 3 (some .boolean), .methodLink RX7 202 yX7_kindIn, .instanceMethod yX7_kindIn, .selects RX7 yX7_kindIn yX7_kindIn, .code yX7_kindIn cX7_kindIn 2 (some .int), .methodLink RX7 69 yX7_well, .instanceMethod yX7_well, .selects RX7 yX7_well yX7_well, .code yX7_well cX7_well 2 (some .int), .fieldLink RX7 51 "ClueLeaveModel" "status" "I", .methodLink RX7 65 yX7_found, .instanceMethod yX7_found, .selects RX7 yX7_found yX7_found, .code yX7_found cX7_found 2 (some .int), .constant RX7 55 (-1000010)] ++ wsX70)
def wsX7_begins : List Cond := .code yX7_begins cX7_begins 2 none :: ([.fieldLink RX7 205 "ClueLeaveModel" "traced" "I", .fieldLink RX7 47 "ClueLeaveModel" "trace" "[I"] ++ wsX70)
def wsX7_threadMark : List Cond := .code yX7_threadMark cX7_threadMark 4 (some .int) :: ([.fieldLink RX7 25 "ClueLeaveModel" "now" "[I", .methodLink RX7 202 yX7_kindIn, .instanceMethod yX7_kindIn, .selects RX7 yX7_kindIn yX7_kindIn, .initialized RX7, .code yX7_kindIn cX7_kindIn 2 (some .int), .methodLink RX7 208 yX7_begins, .instanceMethod yX7_begins, .selects RX7 yX7_begins yX7_begins, .code yX7_begins cX7_begins 2 none, .fieldLink RX7 205 "ClueLeaveModel" "traced" "I", .fieldLink RX7 47 "ClueLeaveModel" "trace" "[I"] ++ wsX70)
def wsX7_stainSize : List Cond := .code yX7_stainSize cX7_stainSize 4 (some .int) :: ([.fieldLink RX7 25 "ClueLeaveModel" "now" "[I", .methodLink RX7 202 yX7_kindIn, .instanceMethod yX7_kindIn, .selects RX7 yX7_kindIn yX7_kindIn, .initialized RX7, .code yX7_kindIn cX7_kindIn 2 (some .int), .methodLink RX7 208 yX7_begins, .instanceMethod yX7_begins, .selects RX7 yX7_begins yX7_begins, .code yX7_begins cX7_begins 2 none, .fieldLink RX7 205 "ClueLeaveModel" "traced" "I", .fieldLink RX7 47 "ClueLeaveModel" "trace" "[I"] ++ wsX70)
def wsX7_threadSize : List Cond := .code yX7_threadSize cX7_threadSize 4 (some .int) :: ([.fieldLink RX7 25 "ClueLeaveModel" "now" "[I", .methodLink RX7 202 yX7_kindIn, .instanceMethod yX7_kindIn, .selects RX7 yX7_kindIn yX7_kindIn, .initialized RX7, .code yX7_kindIn cX7_kindIn 2 (some .int), .methodLink RX7 208 yX7_begins, .instanceMethod yX7_begins, .selects RX7 yX7_begins yX7_begins, .code yX7_begins cX7_begins 2 none, .fieldLink RX7 205 "ClueLeaveModel" "traced" "I", .fieldLink RX7 47 "ClueLeaveModel" "trace" "[I", .methodLink RX7 212 yX7_threadMark, .instanceMethod yX7_threadMark, .selects RX7 yX7_threadMark yX7_threadMark, .code yX7_threadMark cX7_threadMark 4 (some .int)] ++ wsX70)
def wsX7_stainMark : List Cond := .code yX7_stainMark cX7_stainMark 2 (some .int) :: ([.methodLink RX7 208 yX7_begins, .instanceMethod yX7_begins, .selects RX7 yX7_begins yX7_begins, .initialized RX7, .code yX7_begins cX7_begins 2 none, .fieldLink RX7 205 "ClueLeaveModel" "traced" "I", .fieldLink RX7 47 "ClueLeaveModel" "trace" "[I", .methodLink RX7 215 yX7_stainSize, .instanceMethod yX7_stainSize, .selects RX7 yX7_stainSize yX7_stainSize, .code yX7_stainSize cX7_stainSize 4 (some .int), .fieldLink RX7 25 "ClueLeaveModel" "now" "[I", .methodLink RX7 202 yX7_kindIn, .instanceMethod yX7_kindIn, .selects RX7 yX7_kindIn yX7_kindIn, .code yX7_kindIn cX7_kindIn 2 (some .int)] ++ wsX70)
def wsX7_ask_r1 : List Cond := [Cond.constant RX7 64 (-1000001), Cond.fieldLink RX7 205 "ClueLeaveModel" "traced" "I", Cond.methodLink RX7 170 yX7_isClue, Cond.instanceMethod yX7_isClue, Cond.selects RX7 yX7_isClue yX7_isClue, Cond.initialized RX7, Cond.code yX7_isClue cX7_isClue 2 (some .boolean), Cond.fieldLink RX7 25 "ClueLeaveModel" "now" "[I", Cond.methodLink RX7 56 yX7_in, Cond.static yX7_in, Cond.code yX7_in cX7_in 3 (some .boolean), Cond.methodLink RX7 202 yX7_kindIn, Cond.instanceMethod yX7_kindIn, Cond.selects RX7 yX7_kindIn yX7_kindIn, Cond.code yX7_kindIn cX7_kindIn 2 (some .int), Cond.methodLink RX7 215 yX7_stainSize, Cond.instanceMethod yX7_stainSize, Cond.selects RX7 yX7_stainSize yX7_stainSize, Cond.code yX7_stainSize cX7_stainSize 4 (some .int), Cond.methodLink RX7 208 yX7_begins, Cond.instanceMethod yX7_begins, Cond.selects RX7 yX7_begins yX7_begins, Cond.code yX7_begins cX7_begins 2 none, Cond.fieldLink RX7 47 "ClueLeaveModel" "trace" "[I"]
def wsX7_ask_r2 : List Cond := [Cond.methodLink RX7 218 yX7_threadSize, Cond.instanceMethod yX7_threadSize, Cond.selects RX7 yX7_threadSize yX7_threadSize, Cond.code yX7_threadSize cX7_threadSize 4 (some .int), Cond.methodLink RX7 212 yX7_threadMark, Cond.instanceMethod yX7_threadMark, Cond.selects RX7 yX7_threadMark yX7_threadMark, Cond.code yX7_threadMark cX7_threadMark 4 (some .int), Cond.methodLink RX7 221 yX7_stainMark, Cond.instanceMethod yX7_stainMark, Cond.selects RX7 yX7_stainMark yX7_stainMark, Cond.code yX7_stainMark cX7_stainMark 2 (some .int)]
def wsX7_ask : List Cond := .code yX7_ask cX7_ask 4 (some .int) :: ((wsX7_ask_r1 ++ wsX7_ask_r2) ++ wsX70)
def wsX7_trace : List Cond := .code yX7_trace cX7_trace 2 (some .int) :: ([.fieldLink RX7 205 "ClueLeaveModel" "traced" "I", .fieldLink RX7 47 "ClueLeaveModel" "trace" "[I", .constant RX7 50 (-1000000), .methodLink RX7 56 yX7_in, .static yX7_in, .initialized RX7, .code yX7_in cX7_in 3 (some .boolean)] ++ wsX70)
def wsX7_count : List Cond := .code yX7_count cX7_count 4 (some .int) :: ([.fieldLink RX7 25 "ClueLeaveModel" "now" "[I", .fieldLink RX7 135 "ClueLeaveModel" "acts" "I", .fieldLink RX7 82 "ClueLeaveModel" "taped" "I", .constant RX7 64 (-1000001), .methodLink RX7 72 yX7_isMissing, .instanceMethod yX7_isMissing, .selects RX7 yX7_isMissing yX7_isMissing, .initialized RX7, .code yX7_isMissing cX7_isMissing 2 (some .boolean), .fieldLink RX7 7 "ClueLeaveModel" "lane" "[I", .constant RX7 50 (-1000000)] ++ wsX70)
def wsX7_status : List Cond := .code yX7_status cX7_status 1 (some .int) :: ([.fieldLink RX7 51 "ClueLeaveModel" "status" "I"] ++ wsX70)
def wsJ9_max_7cf53 : List Cond := .code yJ9_max_7cf53 cJ9_max_7cf53 2 (some .int) :: ([])
def wsJ9_min_7cf53 : List Cond := .code yJ9_min_7cf53 cJ9_min_7cf53 2 (some .int) :: ([])
def wsL_law_r1 : List Cond := [Cond.classLink RL 7 RX6, Cond.instantiable RX6 9, Cond.initialized RX6, Cond.classLink RL 10 RX7, Cond.instantiable RX7 23, Cond.initialized RX7, Cond.methodLink RL 9 yX6_init, Cond.instanceMethod yX6_init, Cond.code yX6_init cX6_init 1 none, Cond.methodLink RX6 1 objectInit, Cond.instanceMethod objectInit, Cond.code objectInit ⟨#[0xb1]⟩ 1 none, Cond.classLink RX6 7 RX4, Cond.instantiable RX4 3, Cond.initialized RX4, Cond.fieldLink RX6 10 "ClueLeave" "rows" "LClueLeave$Rows;", Cond.classLink RX6 16 RX5, Cond.instantiable RX5 5, Cond.initialized RX5, Cond.fieldLink RX6 19 "ClueLeave" "tape" "LClueLeave$Tape;", Cond.classLink RX6 23 RX0, Cond.instantiable RX0 5, Cond.initialized RX0, Cond.fieldLink RX6 26 "ClueLeave" "acts" "LClueLeave$Acts;"]
def wsL_law_r2 : List Cond := [Cond.classLink RX6 30 RX3, Cond.instantiable RX3 4, Cond.initialized RX3, Cond.fieldLink RX6 33 "ClueLeave" "search" "LClueLeave$RotaSearch;", Cond.classLink RX6 37 RX1, Cond.instantiable RX1 2, Cond.initialized RX1, Cond.fieldLink RX6 40 "ClueLeave" "asks" "LClueLeave$Asks;", Cond.classLink RX6 44 RX2, Cond.instantiable RX2 9, Cond.initialized RX2, Cond.fieldLink RX6 47 "ClueLeave" "city" "LClueLeave$City;", Cond.fieldLink RX6 51 "ClueLeave" "draft" "LClueLeave$City;", Cond.fieldLink RX6 54 "ClueLeave" "images" "[LClueLeave$City;", Cond.methodLink RX6 9 yX4_init, Cond.instanceMethod yX4_init, Cond.code yX4_init cX4_init 1 none, Cond.methodLink RX4 1 objectInit, Cond.arrayClass .int, Cond.fieldLink RX4 9 "ClueLeave$Rows" "lanes" "[I", Cond.fieldLink RX4 13 "ClueLeave$Rows" "sizes" "[I", Cond.classLink RX4 16 "[[I", Cond.fieldLink RX4 18 "ClueLeave$Rows" "items" "[[I", Cond.methodLink RX4 21 yJ7_fill_53178]
def wsL_law_r3 : List Cond := [Cond.static yJ7_fill_53178, Cond.initialized RJ7, Cond.code yJ7_fill_53178 cJ7_fill_53178 4 none, Cond.instanceMethod yX5_init, Cond.code yX5_init cX5_init 1 none, Cond.methodLink RX5 3 objectInit, Cond.fieldLink RX5 11 "ClueLeave$Tape" "bytes" "[I", Cond.fieldLink RX5 15 "ClueLeave$Tape" "faultPlace" "I", Cond.instanceMethod yX0_init, Cond.code yX0_init cX0_init 1 none, Cond.methodLink RX0 1 objectInit, Cond.fieldLink RX0 9 "ClueLeave$Acts" "sorts" "[I", Cond.fieldLink RX0 13 "ClueLeave$Acts" "clues" "[I", Cond.fieldLink RX0 16 "ClueLeave$Acts" "before" "[I", Cond.instanceMethod yX3_init, Cond.code yX3_init cX3_init 1 none, Cond.methodLink RX3 3 objectInit, Cond.classLink RX3 9 "[[I", Cond.fieldLink RX3 11 "ClueLeave$RotaSearch" "spares" "[[I", Cond.fieldLink RX3 16 "ClueLeave$RotaSearch" "left" "[[I", Cond.fieldLink RX3 19 "ClueLeave$RotaSearch" "best" "[I", Cond.instanceMethod yX1_init, Cond.code yX1_init cX1_init 1 none, Cond.methodLink RX1 3 objectInit]
def wsL_law_r4 : List Cond := [Cond.fieldLink RX1 11 "ClueLeave$Asks" "trace" "[I", Cond.instanceMethod yX2_init, Cond.code yX2_init cX2_init 1 none, Cond.methodLink RX2 3 objectInit, Cond.fieldLink RX2 9 "ClueLeave$City" "kinds" "[I", Cond.fieldLink RX2 15 "ClueLeave$City" "tells" "[I", Cond.fieldLink RX2 18 "ClueLeave$City" "every" "[I", Cond.fieldLink RX2 21 "ClueLeave$City" "off" "[I", Cond.methodLink RL 12 yX7_init, Cond.instanceMethod yX7_init, Cond.code yX7_init cX7_init 2 none, Cond.methodLink RX7 1 objectInit, Cond.fieldLink RX7 7 "ClueLeaveModel" "lane" "[I", Cond.fieldLink RX7 13 "ClueLeaveModel" "many" "[I", Cond.fieldLink RX7 16 "ClueLeaveModel" "items" "[I", Cond.fieldLink RX7 19 "ClueLeaveModel" "spare" "[I", Cond.fieldLink RX7 22 "ClueLeaveModel" "tape" "[I", Cond.fieldLink RX7 25 "ClueLeaveModel" "now" "[I", Cond.fieldLink RX7 28 "ClueLeaveModel" "draft" "[I", Cond.fieldLink RX7 31 "ClueLeaveModel" "tried" "[I", Cond.fieldLink RX7 34 "ClueLeaveModel" "past" "[I", Cond.fieldLink RX7 37 "ClueLeaveModel" "images" "[I", Cond.arrayClass .boolean, Cond.fieldLink RX7 40 "ClueLeaveModel" "kept" "[Z"]
def wsL_law_r5 : List Cond := [Cond.fieldLink RX7 44 "ClueLeaveModel" "best" "[I", Cond.fieldLink RX7 47 "ClueLeaveModel" "trace" "[I", Cond.constant RX7 50 (-1000000), Cond.methodLink RL 13 yX6_row, Cond.instanceMethod yX6_row, Cond.selects RX6 yX6_row yX6_row, Cond.code yX6_row cX6_row 4 (some .int), Cond.constant RX6 66 (-1000001), Cond.methodLink RX6 58 yX4_isRow, Cond.instanceMethod yX4_isRow, Cond.selects RX4 yX4_isRow yX4_isRow, Cond.code yX4_isRow cX4_isRow 2 (some .boolean), Cond.methodLink RX6 62 yX6_isWithin, Cond.static yX6_isWithin, Cond.code yX6_isWithin cX6_isWithin 3 (some .boolean), Cond.methodLink RX6 67 yX6_found, Cond.instanceMethod yX6_found, Cond.selects RX6 yX6_found yX6_found, Cond.code yX6_found cX6_found 2 (some .int), Cond.fieldLink RX6 257 "ClueLeave" "finding" "I", Cond.constant RX6 260 (-1000010), Cond.methodLink RX6 71 yX4_make, Cond.instanceMethod yX4_make, Cond.selects RX4 yX4_make yX4_make]
def wsL_law_r6 : List Cond := [Cond.code yX4_make cX4_make 4 none, Cond.methodLink RX6 75 yX6_sound, Cond.instanceMethod yX6_sound, Cond.selects RX6 yX6_sound yX6_sound, Cond.code yX6_sound cX6_sound 2 (some .int), Cond.methodLink RL 17 yX7_row, Cond.instanceMethod yX7_row, Cond.selects RX7 yX7_row yX7_row, Cond.code yX7_row cX7_row 5 (some .int), Cond.constant RX7 64 (-1000001), Cond.methodLink RX7 60 yX7_isRow, Cond.static yX7_isRow, Cond.code yX7_isRow cX7_isRow 1 (some .boolean), Cond.methodLink RX7 56 yX7_in, Cond.static yX7_in, Cond.code yX7_in cX7_in 3 (some .boolean), Cond.methodLink RX7 65 yX7_found, Cond.instanceMethod yX7_found, Cond.selects RX7 yX7_found yX7_found, Cond.code yX7_found cX7_found 2 (some .int), Cond.fieldLink RX7 51 "ClueLeaveModel" "status" "I", Cond.constant RX7 55 (-1000010), Cond.methodLink RX7 69 yX7_well, Cond.instanceMethod yX7_well]
def wsL_law_r7 : List Cond := [Cond.selects RX7 yX7_well yX7_well, Cond.code yX7_well cX7_well 2 (some .int), Cond.methodLink RL 18 yX6_set, Cond.instanceMethod yX6_set, Cond.selects RX6 yX6_set yX6_set, Cond.code yX6_set cX6_set 4 (some .int), Cond.methodLink RX6 78 yX4_isMissing, Cond.instanceMethod yX4_isMissing, Cond.selects RX4 yX4_isMissing yX4_isMissing, Cond.code yX4_isMissing cX4_isMissing 2 (some .boolean), Cond.methodLink RX6 81 yX4_hasPlaces, Cond.instanceMethod yX4_hasPlaces, Cond.selects RX4 yX4_hasPlaces yX4_hasPlaces, Cond.code yX4_hasPlaces cX4_hasPlaces 4 (some .boolean), Cond.methodLink RX6 84 yX4_put, Cond.instanceMethod yX4_put, Cond.selects RX4 yX4_put yX4_put, Cond.code yX4_put cX4_put 4 (some .int), Cond.methodLink RX4 27 yX4_lowestBits, Cond.static yX4_lowestBits, Cond.code yX4_lowestBits cX4_lowestBits 2 (some .int), Cond.methodLink RL 21 yX7_set, Cond.instanceMethod yX7_set, Cond.selects RX7 yX7_set yX7_set]
def wsL_law_r8 : List Cond := [Cond.code yX7_set cX7_set 4 (some .int), Cond.methodLink RX7 72 yX7_isMissing, Cond.instanceMethod yX7_isMissing, Cond.selects RX7 yX7_isMissing yX7_isMissing, Cond.code yX7_isMissing cX7_isMissing 2 (some .boolean), Cond.methodLink RX7 75 yX7_cut, Cond.static yX7_cut, Cond.code yX7_cut cX7_cut 2 (some .int), Cond.methodLink RL 22 yX6_copy, Cond.instanceMethod yX6_copy, Cond.selects RX6 yX6_copy yX6_copy, Cond.code yX6_copy cX6_copy 6 (some .int), Cond.methodLink RX6 88 yX4_laneOf, Cond.instanceMethod yX4_laneOf, Cond.selects RX4 yX4_laneOf yX4_laneOf, Cond.code yX4_laneOf cX4_laneOf 2 (some .int), Cond.methodLink RX6 91 yX4_move, Cond.instanceMethod yX4_move, Cond.selects RX4 yX4_move yX4_move, Cond.code yX4_move cX4_move 6 none, Cond.methodLink RX4 31 arraycopyName, Cond.native arraycopyName, Cond.static arraycopyName, Cond.initialized "java/lang/System"]
def wsL_law_r9 : List Cond := [Cond.methodLink RL 26 yX7_copy, Cond.instanceMethod yX7_copy, Cond.selects RX7 yX7_copy yX7_copy, Cond.code yX7_copy cX7_copy 7 (some .int), Cond.methodLink RX7 79 yX7_isPart, Cond.instanceMethod yX7_isPart, Cond.selects RX7 yX7_isPart yX7_isPart, Cond.code yX7_isPart cX7_isPart 4 (some .boolean), Cond.methodLink RL 27 yX6_drop, Cond.instanceMethod yX6_drop, Cond.selects RX6 yX6_drop yX6_drop, Cond.code yX6_drop cX6_drop 2 (some .int), Cond.methodLink RX6 95 yX4_takeAway, Cond.instanceMethod yX4_takeAway, Cond.selects RX4 yX4_takeAway yX4_takeAway, Cond.code yX4_takeAway cX4_takeAway 2 (some .int), Cond.methodLink RL 31 yX7_drop, Cond.instanceMethod yX7_drop, Cond.selects RX7 yX7_drop yX7_drop, Cond.code yX7_drop cX7_drop 2 (some .int), Cond.methodLink RL 32 yX6_feed, Cond.instanceMethod yX6_feed, Cond.selects RX6 yX6_feed yX6_feed, Cond.code yX6_feed cX6_feed 2 (some .int)]
def wsL_law_r10 : List Cond := [Cond.constant RX6 102 (-1000003), Cond.methodLink RX6 98 yX5_isFull, Cond.instanceMethod yX5_isFull, Cond.selects RX5 yX5_isFull yX5_isFull, Cond.code yX5_isFull cX5_isFull 1 (some .boolean), Cond.fieldLink RX5 19 "ClueLeave$Tape" "size" "I", Cond.methodLink RX6 103 yX5_add, Cond.instanceMethod yX5_add, Cond.selects RX5 yX5_add yX5_add, Cond.code yX5_add cX5_add 2 (some .int), Cond.methodLink RL 35 yX7_feed, Cond.instanceMethod yX7_feed, Cond.selects RX7 yX7_feed yX7_feed, Cond.code yX7_feed cX7_feed 2 (some .int), Cond.fieldLink RX7 82 "ClueLeaveModel" "taped" "I", Cond.constant RX7 85 (-1000003), Cond.methodLink RL 36 yX6_city, Cond.instanceMethod yX6_city, Cond.selects RX6 yX6_city yX6_city, Cond.code yX6_city cX6_city 2 (some .int), Cond.constant RX6 110 (-1000100), Cond.fieldLink RX6 118 "ClueLeave$City" "clues" "I", Cond.methodLink RX6 106 yX5_readInto, Cond.instanceMethod yX5_readInto]
def wsL_law_r11 : List Cond := [Cond.selects RX5 yX5_readInto yX5_readInto, Cond.code yX5_readInto cX5_readInto 2 (some .int), Cond.fieldLink RX5 25 "ClueLeave$Tape" "at" "I", Cond.methodLink RX5 28 yX2_clear, Cond.instanceMethod yX2_clear, Cond.selects RX2 yX2_clear yX2_clear, Cond.code yX2_clear cX2_clear 1 none, Cond.fieldLink RX2 24 "ClueLeave$City" "suspects" "I", Cond.fieldLink RX2 31 "ClueLeave$City" "sunday" "I", Cond.fieldLink RX2 34 "ClueLeave$City" "day" "I", Cond.fieldLink RX2 28 "ClueLeave$City" "clues" "I", Cond.fieldLink RX2 37 "ClueLeave$City" "bribed" "I", Cond.methodLink RX5 33 yX5_readLaw, Cond.instanceMethod yX5_readLaw, Cond.selects RX5 yX5_readLaw yX5_readLaw, Cond.code yX5_readLaw cX5_readLaw 2 (some .boolean), Cond.fieldLink RX5 49 "ClueLeave$City" "suspects" "I", Cond.fieldLink RX5 52 "ClueLeave$City" "sunday" "I", Cond.methodLink RX5 41 yX5_take, Cond.instanceMethod yX5_take, Cond.selects RX5 yX5_take yX5_take, Cond.code yX5_take cX5_take 2 (some .boolean), Cond.methodLink RX5 62 yX5_blame, Cond.instanceMethod yX5_blame]
def wsL_law_r12 : List Cond := [Cond.selects RX5 yX5_blame yX5_blame, Cond.code yX5_blame cX5_blame 2 (some .boolean), Cond.fieldLink RX5 22 "ClueLeave$Tape" "fault" "I", Cond.methodLink RX5 45 yX5_takeNumber, Cond.instanceMethod yX5_takeNumber, Cond.selects RX5 yX5_takeNumber yX5_takeNumber, Cond.code yX5_takeNumber cX5_takeNumber 5 (some .int), Cond.methodLink RX5 37 yX5_readClues, Cond.instanceMethod yX5_readClues, Cond.selects RX5 yX5_readClues yX5_readClues, Cond.code yX5_readClues cX5_readClues 3 none, Cond.methodLink RX5 55 yX5_readClue, Cond.instanceMethod yX5_readClue, Cond.selects RX5 yX5_readClue yX5_readClue, Cond.code yX5_readClue cX5_readClue 6 (some .boolean), Cond.fieldLink RX5 65 "ClueLeave$City" "clues" "I", Cond.methodLink RX5 58 yX5_kindBy, Cond.static yX5_kindBy, Cond.code yX5_kindBy cX5_kindBy 1 (some .int), Cond.methodLink RX5 68 yX2_everyone, Cond.instanceMethod yX2_everyone, Cond.selects RX2 yX2_everyone yX2_everyone, Cond.code yX2_everyone cX2_everyone 1 (some .int), Cond.methodLink RX5 72 yX2_add]
def wsL_law_r13 : List Cond := [Cond.instanceMethod yX2_add, Cond.selects RX2 yX2_add yX2_add, Cond.code yX2_add cX2_add 5 none, Cond.methodLink RX6 111 yX2_become, Cond.instanceMethod yX2_become, Cond.selects RX2 yX2_become yX2_become, Cond.code yX2_become cX2_become 2 none, Cond.methodLink RX2 40 arraycopyName, Cond.methodLink RX6 115 yX0_forgetAll, Cond.instanceMethod yX0_forgetAll, Cond.selects RX0 yX0_forgetAll yX0_forgetAll, Cond.code yX0_forgetAll cX0_forgetAll 1 none, Cond.fieldLink RX0 19 "ClueLeave$Acts" "kept" "I", Cond.methodLink RL 40 yX7_city, Cond.instanceMethod yX7_city, Cond.selects RX7 yX7_city yX7_city, Cond.code yX7_city cX7_city 2 (some .int), Cond.fieldLink RX7 86 "ClueLeaveModel" "at" "I", Cond.fieldLink RX7 101 "ClueLeaveModel" "faultPlace" "I", Cond.fieldLink RX7 98 "ClueLeaveModel" "token" "I", Cond.fieldLink RX7 95 "ClueLeaveModel" "value" "I", Cond.constant RX7 130 (-1000100), Cond.fieldLink RX7 135 "ClueLeaveModel" "acts" "I", Cond.methodLink RX7 111 yX7_advances]
def wsL_law_r14 : List Cond := [Cond.instanceMethod yX7_advances, Cond.selects RX7 yX7_advances yX7_advances, Cond.code yX7_advances cX7_advances 2 none, Cond.fieldLink RX7 89 "ClueLeaveModel" "start" "I", Cond.methodLink RX7 92 yX7_byteAt, Cond.instanceMethod yX7_byteAt, Cond.selects RX7 yX7_byteAt yX7_byteAt, Cond.code yX7_byteAt cX7_byteAt 2 (some .int), Cond.methodLink RX7 114 yX7_takes, Cond.instanceMethod yX7_takes, Cond.selects RX7 yX7_takes yX7_takes, Cond.code yX7_takes cX7_takes 4 (some .int), Cond.fieldLink RX7 108 "ClueLeaveModel" "faultKind" "I", Cond.methodLink RX7 104 yX7_isWell, Cond.instanceMethod yX7_isWell, Cond.selects RX7 yX7_isWell yX7_isWell, Cond.code yX7_isWell cX7_isWell 1 (some .boolean), Cond.methodLink RX7 118 yX7_figure, Cond.instanceMethod yX7_figure, Cond.selects RX7 yX7_figure yX7_figure, Cond.code yX7_figure cX7_figure 3 (some .int), Cond.methodLink RX7 124 yX7_next, Cond.instanceMethod yX7_next, Cond.selects RX7 yX7_next yX7_next]
def wsL_law_r15 : List Cond := [Cond.code yX7_next cX7_next 3 (some .int), Cond.methodLink RX7 121 yX7_kindOf, Cond.static yX7_kindOf, Cond.code yX7_kindOf cX7_kindOf 1 (some .int), Cond.methodLink RX7 127 yX7_readsClue, Cond.instanceMethod yX7_readsClue, Cond.selects RX7 yX7_readsClue yX7_readsClue, Cond.code yX7_readsClue cX7_readsClue 6 none, Cond.methodLink RX7 131 yX7_copies, Cond.static yX7_copies, Cond.code yX7_copies cX7_copies 5 none, Cond.methodLink RL 41 yX6_fault, Cond.instanceMethod yX6_fault, Cond.selects RX6 yX6_fault yX6_fault, Cond.code yX6_fault cX6_fault 1 (some .int), Cond.methodLink RX6 122 yX5_latestFault, Cond.instanceMethod yX5_latestFault, Cond.selects RX5 yX5_latestFault yX5_latestFault, Cond.code yX5_latestFault cX5_latestFault 1 (some .int), Cond.methodLink RL 44 yX7_fault, Cond.instanceMethod yX7_fault, Cond.selects RX7 yX7_fault yX7_fault, Cond.code yX7_fault cX7_fault 1 (some .int), Cond.methodLink RL 45 yX6_days]
def wsL_law_r16 : List Cond := [Cond.instanceMethod yX6_days, Cond.selects RX6 yX6_days yX6_days, Cond.code yX6_days cX6_days 3 (some .int), Cond.constant RX6 129 (-1000002), Cond.fieldLink RX6 130 "ClueLeave$City" "day" "I", Cond.methodLink RX6 126 yX2_stands, Cond.instanceMethod yX2_stands, Cond.selects RX2 yX2_stands yX2_stands, Cond.code yX2_stands cX2_stands 1 (some .boolean), Cond.methodLink RX6 133 yX0_keep, Cond.instanceMethod yX0_keep, Cond.selects RX0 yX0_keep yX0_keep, Cond.code yX0_keep cX0_keep 4 none, Cond.fieldLink RX0 23 "ClueLeave$Acts" "next" "I", Cond.methodLink RX0 26 Lib.Math.min.name, Cond.static Lib.Math.min.name, Cond.initialized "java/lang/Math", Cond.code Lib.Math.min.name Lib.Math.min.code 2 (some .int), Cond.methodLink RX6 136 yX2_leftOn, Cond.instanceMethod yX2_leftOn, Cond.selects RX2 yX2_leftOn yX2_leftOn, Cond.code yX2_leftOn cX2_leftOn 2 (some .int), Cond.methodLink RX2 65 yX2_workersOn, Cond.instanceMethod yX2_workersOn]
def wsL_law_r17 : List Cond := [Cond.selects RX2 yX2_workersOn yX2_workersOn, Cond.code yX2_workersOn cX2_workersOn 4 (some .int), Cond.methodLink RX2 50 yX2_worksOn, Cond.instanceMethod yX2_worksOn, Cond.selects RX2 yX2_worksOn yX2_worksOn, Cond.code yX2_worksOn cX2_worksOn 3 (some .boolean), Cond.methodLink RX2 68 yX2_leftBy, Cond.instanceMethod yX2_leftBy, Cond.selects RX2 yX2_leftBy yX2_leftBy, Cond.code yX2_leftBy cX2_leftBy 4 (some .int), Cond.methodLink RX2 57 yX2_everyone, Cond.static yX6_isIn, Cond.code yX6_isIn cX6_isIn 2 (some .boolean), Cond.methodLink RX2 61 yX2_leftByOne, Cond.instanceMethod yX2_leftByOne, Cond.selects RX2 yX2_leftByOne yX2_leftByOne, Cond.code yX2_leftByOne cX2_leftByOne 4 (some .int), Cond.methodLink RX2 53 yX2_isBribed, Cond.instanceMethod yX2_isBribed, Cond.selects RX2 yX2_isBribed yX2_isBribed, Cond.code yX2_isBribed cX2_isBribed 2 (some .boolean), Cond.methodLink RL 48 yX7_days, Cond.instanceMethod yX7_days, Cond.selects RX7 yX7_days yX7_days]
def wsL_law_r18 : List Cond := [Cond.code yX7_days cX7_days 3 (some .int), Cond.constant RX7 163 (-1000002), Cond.methodLink RX7 160 yX7_isCity, Cond.instanceMethod yX7_isCity, Cond.selects RX7 yX7_isCity yX7_isCity, Cond.code yX7_isCity cX7_isCity 1 (some .boolean), Cond.methodLink RX7 164 yX7_notes, Cond.instanceMethod yX7_notes, Cond.selects RX7 yX7_notes yX7_notes, Cond.code yX7_notes cX7_notes 2 none, Cond.methodLink RX7 167 yX7_leftOn, Cond.static yX7_leftOn, Cond.code yX7_leftOn cX7_leftOn 2 (some .int), Cond.methodLink RX7 154 yX7_workers, Cond.static yX7_workers, Cond.code yX7_workers cX7_workers 4 (some .int), Cond.methodLink RX7 146 yX7_isAtWork, Cond.static yX7_isAtWork, Cond.code yX7_isAtWork cX7_isAtWork 5 (some .boolean), Cond.methodLink RX7 157 yX7_leftBy, Cond.static yX7_leftBy, Cond.code yX7_leftBy cX7_leftBy 4 (some .int), Cond.methodLink RX7 142 yX7_all, Cond.static yX7_all]
def wsL_law_r19 : List Cond := [Cond.code yX7_all cX7_all 1 (some .int), Cond.methodLink RX7 138 yX7_has, Cond.static yX7_has, Cond.code yX7_has cX7_has 2 (some .boolean), Cond.methodLink RX7 150 yX7_leaves, Cond.static yX7_leaves, Cond.code yX7_leaves cX7_leaves 5 (some .int), Cond.methodLink RL 49 yX6_bribe, Cond.instanceMethod yX6_bribe, Cond.selects RX6 yX6_bribe yX6_bribe, Cond.code yX6_bribe cX6_bribe 3 (some .int), Cond.fieldLink RX6 145 "ClueLeave$City" "bribed" "I", Cond.methodLink RX6 139 yX2_has, Cond.instanceMethod yX2_has, Cond.selects RX2 yX2_has yX2_has, Cond.code yX2_has cX2_has 2 (some .boolean), Cond.methodLink RX6 142 yX2_isBribed, Cond.methodLink RL 53 yX7_bribe, Cond.instanceMethod yX7_bribe, Cond.selects RX7 yX7_bribe yX7_bribe, Cond.code yX7_bribe cX7_bribe 3 (some .int), Cond.methodLink RX7 170 yX7_isClue, Cond.instanceMethod yX7_isClue, Cond.selects RX7 yX7_isClue yX7_isClue]
def wsL_law_r20 : List Cond := [Cond.code yX7_isClue cX7_isClue 2 (some .boolean), Cond.methodLink RL 54 yX6_learn, Cond.instanceMethod yX6_learn, Cond.selects RX6 yX6_learn yX6_learn, Cond.code yX6_learn cX6_learn 4 (some .int), Cond.fieldLink RX6 151 "ClueLeave$City" "tells" "[I", Cond.methodLink RX6 148 yX2_everyone, Cond.methodLink RL 57 yX7_learn, Cond.instanceMethod yX7_learn, Cond.selects RX7 yX7_learn yX7_learn, Cond.code yX7_learn cX7_learn 3 (some .int), Cond.methodLink RX7 173 yX7_puts, Cond.instanceMethod yX7_puts, Cond.selects RX7 yX7_puts yX7_puts, Cond.code yX7_puts cX7_puts 4 (some .int), Cond.methodLink RL 58 yX6_shift, Cond.instanceMethod yX6_shift, Cond.selects RX6 yX6_shift yX6_shift, Cond.code yX6_shift cX6_shift 4 (some .int), Cond.fieldLink RX6 155 "ClueLeave$City" "every" "[I", Cond.fieldLink RX6 158 "ClueLeave$City" "off" "[I", Cond.methodLink RL 61 yX7_shift, Cond.instanceMethod yX7_shift, Cond.selects RX7 yX7_shift yX7_shift]
def wsL_law_r21 : List Cond := [Cond.code yX7_shift cX7_shift 3 (some .int), Cond.methodLink RL 62 yX6_undo, Cond.instanceMethod yX6_undo, Cond.selects RX6 yX6_undo yX6_undo, Cond.code yX6_undo cX6_undo 1 (some .int), Cond.methodLink RX6 161 yX0_kept, Cond.instanceMethod yX0_kept, Cond.selects RX0 yX0_kept yX0_kept, Cond.code yX0_kept cX0_kept 1 (some .int), Cond.methodLink RX6 164 yX0_takeBack, Cond.instanceMethod yX0_takeBack, Cond.selects RX0 yX0_takeBack yX0_takeBack, Cond.code yX0_takeBack cX0_takeBack 2 none, Cond.fieldLink RX0 32 "ClueLeave$City" "bribed" "I", Cond.fieldLink RX0 37 "ClueLeave$City" "tells" "[I", Cond.fieldLink RX0 40 "ClueLeave$City" "off" "[I", Cond.fieldLink RX0 43 "ClueLeave$City" "day" "I", Cond.methodLink RL 65 yX7_undo, Cond.instanceMethod yX7_undo, Cond.selects RX7 yX7_undo yX7_undo, Cond.code yX7_undo cX7_undo 1 (some .int), Cond.methodLink RL 66 yX6_clue, Cond.instanceMethod yX6_clue, Cond.selects RX6 yX6_clue yX6_clue]
def wsL_law_r22 : List Cond := [Cond.code yX6_clue cX6_clue 3 (some .int), Cond.methodLink RX6 167 yX2_worksOn, Cond.methodLink RX6 171 yX2_leftByOne, Cond.methodLink RL 69 yX7_clue, Cond.instanceMethod yX7_clue, Cond.selects RX7 yX7_clue yX7_clue, Cond.code yX7_clue cX7_clue 3 (some .int), Cond.methodLink RL 70 yX6_ahead, Cond.instanceMethod yX6_ahead, Cond.selects RX6 yX6_ahead yX6_ahead, Cond.code yX6_ahead cX6_ahead 4 (some .int), Cond.methodLink RX6 174 yX2_workersOn, Cond.methodLink RX6 177 yX6_onlyOne, Cond.static yX6_onlyOne, Cond.code yX6_onlyOne cX6_onlyOne 1 (some .int), Cond.constant RX6 185 (-1000000), Cond.methodLink RX6 180 yJ6_bitCount_0f7a4, Cond.static yJ6_bitCount_0f7a4, Cond.initialized RJ6, Cond.code yJ6_bitCount_0f7a4 cJ6_bitCount_0f7a4 1 (some .int), Cond.constant RJ6 265 (1431655765), Cond.constant RJ6 266 (858993459), Cond.constant RJ6 267 (252645135), Cond.methodLink RX6 264 yJ6_numberOfTrailingZeros_0f7a4]
def wsL_law_r23 : List Cond := [Cond.static yJ6_numberOfTrailingZeros_0f7a4, Cond.code yJ6_numberOfTrailingZeros_0f7a4 cJ6_numberOfTrailingZeros_0f7a4 2 (some .int), Cond.constant RJ6 264 (65536), Cond.methodLink RL 73 yX7_ahead, Cond.instanceMethod yX7_ahead, Cond.selects RX7 yX7_ahead yX7_ahead, Cond.code yX7_ahead cX7_ahead 4 (some .int), Cond.methodLink RX7 176 yX7_isFar, Cond.static yX7_isFar, Cond.code yX7_isFar cX7_isFar 1 (some .boolean), Cond.methodLink RX7 179 yX7_only, Cond.static yX7_only, Cond.code yX7_only cX7_only 2 (some .int), Cond.methodLink RL 74 yX6_first, Cond.instanceMethod yX6_first, Cond.selects RX6 yX6_first yX6_first, Cond.code yX6_first cX6_first 4 (some .int), Cond.methodLink RL 77 yX7_first, Cond.instanceMethod yX7_first, Cond.selects RX7 yX7_first yX7_first, Cond.code yX7_first cX7_first 3 (some .int), Cond.methodLink RX7 182 yX7_ones, Cond.static yX7_ones, Cond.code yX7_ones cX7_ones 3 (some .int)]
def wsL_law_r24 : List Cond := [Cond.methodLink RL 78 yX6_rota, Cond.instanceMethod yX6_rota, Cond.selects RX6 yX6_rota yX6_rota, Cond.code yX6_rota cX6_rota 3 (some .int), Cond.methodLink RX6 186 yX3_run, Cond.instanceMethod yX3_run, Cond.selects RX3 yX3_run yX3_run, Cond.code yX3_run cX3_run 6 none, Cond.fieldLink RX3 31 "ClueLeave$City" "off" "[I", Cond.fieldLink RX3 23 "ClueLeave$RotaSearch" "most" "I", Cond.methodLink RX3 49 arraycopyName, Cond.methodLink RX3 27 yX3_fillSpares, Cond.instanceMethod yX3_fillSpares, Cond.selects RX3 yX3_fillSpares yX3_fillSpares, Cond.code yX3_fillSpares cX3_fillSpares 8 none, Cond.fieldLink RX3 58 "ClueLeave$City" "clues" "I", Cond.fieldLink RX3 61 "ClueLeave$City" "every" "[I", Cond.fieldLink RX3 68 "ClueLeave$City" "suspects" "I", Cond.methodLink RX3 64 yX3_daysOff, Cond.static yX3_daysOff, Cond.code yX3_daysOff cX3_daysOff 5 (some .int), Cond.fieldLink RX3 79 "ClueLeave$City" "day" "I", Cond.methodLink RX3 82 yX2_worksOn, Cond.methodLink RX3 71 yX2_leftByOne]
def wsL_law_r25 : List Cond := [Cond.methodLink RX3 36 yJ7_fill_53178, Cond.methodLink RX3 42 yX3_narrow, Cond.instanceMethod yX3_narrow, Cond.selects RX3 yX3_narrow yX3_narrow, Cond.code yX3_narrow cX3_narrow 6 none, Cond.methodLink RX3 45 yX3_sureDays, Cond.instanceMethod yX3_sureDays, Cond.selects RX3 yX3_sureDays yX3_sureDays, Cond.code yX3_sureDays cX3_sureDays 6 (some .int), Cond.methodLink RX3 85 yJ6_bitCount_0f7a4, Cond.methodLink RX3 55 yX3_turn, Cond.static yX3_turn, Cond.code yX3_turn cX3_turn 2 (some .int), Cond.methodLink RX6 190 yX3_mostSure, Cond.instanceMethod yX3_mostSure, Cond.selects RX3 yX3_mostSure yX3_mostSure, Cond.code yX3_mostSure cX3_mostSure 1 (some .int), Cond.methodLink RX6 193 yX3_bestOff, Cond.instanceMethod yX3_bestOff, Cond.selects RX3 yX3_bestOff yX3_bestOff, Cond.code yX3_bestOff cX3_bestOff 2 (some .int), Cond.methodLink RL 81 yX7_rota, Cond.instanceMethod yX7_rota, Cond.selects RX7 yX7_rota yX7_rota]
def wsL_law_r26 : List Cond := [Cond.code yX7_rota cX7_rota 7 (some .int), Cond.methodLink RX7 185 yX7_sureDays, Cond.instanceMethod yX7_sureDays, Cond.selects RX7 yX7_sureDays yX7_sureDays, Cond.code yX7_sureDays cX7_sureDays 4 (some .int), Cond.methodLink RX7 188 yX7_counts, Cond.instanceMethod yX7_counts, Cond.selects RX7 yX7_counts yX7_counts, Cond.code yX7_counts cX7_counts 3 (some .boolean), Cond.methodLink RL 82 yX6_when, Cond.instanceMethod yX6_when, Cond.selects RX6 yX6_when yX6_when, Cond.code yX6_when cX6_when 7 (some .int), Cond.fieldLink RX6 196 "ClueLeave$City" "suspects" "I", Cond.methodLink RX6 199 yX6_isIn, Cond.methodLink RL 85 yX7_when, Cond.instanceMethod yX7_when, Cond.selects RX7 yX7_when yX7_when, Cond.code yX7_when cX7_when 8 (some .int), Cond.methodLink RL 86 yX6_enough, Cond.instanceMethod yX6_enough, Cond.selects RX6 yX6_enough yX6_enough, Cond.code yX6_enough cX6_enough 4 (some .int), Cond.methodLink RX6 202 yX2_leftBy]
def wsL_law_r27 : List Cond := [Cond.methodLink RX6 205 yX2_fewestThatLeave, Cond.instanceMethod yX2_fewestThatLeave, Cond.selects RX2 yX2_fewestThatLeave yX2_fewestThatLeave, Cond.code yX2_fewestThatLeave cX2_fewestThatLeave 6 (some .int), Cond.constant RX2 71 (-1000000), Cond.methodLink RX2 72 yJ6_bitCount_0f7a4, Cond.methodLink RX6 209 yX6_tellSet, Cond.static yX6_tellSet, Cond.code yX6_tellSet cX6_tellSet 2 (some .int), Cond.methodLink RL 89 yX7_enough, Cond.instanceMethod yX7_enough, Cond.selects RX7 yX7_enough yX7_enough, Cond.code yX7_enough cX7_enough 4 (some .int), Cond.methodLink RX7 191 yX7_fewest, Cond.instanceMethod yX7_fewest, Cond.selects RX7 yX7_fewest yX7_fewest, Cond.code yX7_fewest cX7_fewest 6 (some .int), Cond.methodLink RL 90 yX6_clash, Cond.instanceMethod yX6_clash, Cond.selects RX6 yX6_clash yX6_clash, Cond.code yX6_clash cX6_clash 3 (some .int), Cond.methodLink RL 93 yX7_clash, Cond.instanceMethod yX7_clash, Cond.selects RX7 yX7_clash yX7_clash]
def wsL_law_r28 : List Cond := [Cond.code yX7_clash cX7_clash 4 (some .int), Cond.methodLink RL 94 yX6_bribes, Cond.instanceMethod yX6_bribes, Cond.selects RX6 yX6_bribes yX6_bribes, Cond.code yX6_bribes cX6_bribes 6 (some .int), Cond.methodLink RX6 212 yX6_isAsTold, Cond.instanceMethod yX6_isAsTold, Cond.selects RX6 yX6_isAsTold yX6_isAsTold, Cond.code yX6_isAsTold cX6_isAsTold 6 (some .boolean), Cond.methodLink RX6 261 yX4_itemAt, Cond.instanceMethod yX4_itemAt, Cond.selects RX4 yX4_itemAt yX4_itemAt, Cond.code yX4_itemAt cX4_itemAt 3 (some .int), Cond.methodLink RL 97 yX7_bribes, Cond.instanceMethod yX7_bribes, Cond.selects RX7 yX7_bribes yX7_bribes, Cond.code yX7_bribes cX7_bribes 6 (some .int), Cond.methodLink RX7 194 yX7_goesSo, Cond.instanceMethod yX7_goesSo, Cond.selects RX7 yX7_goesSo yX7_goesSo, Cond.code yX7_goesSo cX7_goesSo 5 (some .boolean), Cond.methodLink RL 98 yX6_fits, Cond.instanceMethod yX6_fits, Cond.selects RX6 yX6_fits yX6_fits]
def wsL_law_r29 : List Cond := [Cond.code yX6_fits cX6_fits 10 (some .int), Cond.fieldLink RX6 216 "ClueLeave$City" "kinds" "[I", Cond.methodLink RL 101 yX7_fits, Cond.instanceMethod yX7_fits, Cond.selects RX7 yX7_fits yX7_fits, Cond.code yX7_fits cX7_fits 11 (some .int), Cond.methodLink RL 102 yX6_strike, Cond.instanceMethod yX6_strike, Cond.selects RX6 yX6_strike yX6_strike, Cond.code yX6_strike cX6_strike 8 (some .int), Cond.methodLink RX6 228 Lib.Math.max.name, Cond.static Lib.Math.max.name, Cond.code Lib.Math.max.name Lib.Math.max.code 2 (some .int), Cond.methodLink RX6 219 yX2_tenthsSure, Cond.instanceMethod yX2_tenthsSure, Cond.selects RX2 yX2_tenthsSure yX2_tenthsSure, Cond.code yX2_tenthsSure cX2_tenthsSure 6 (some .int), Cond.static yX6_power, Cond.code yX6_power cX6_power 4 (some .int), Cond.methodLink RX6 222 yX6_power, Cond.methodLink RX6 225 yX6_greatestDivisor, Cond.static yX6_greatestDivisor, Cond.code yX6_greatestDivisor cX6_greatestDivisor 6 (some .int), Cond.methodLink RL 105 yX7_strike]
def wsL_law_r30 : List Cond := [Cond.instanceMethod yX7_strike, Cond.selects RX7 yX7_strike yX7_strike, Cond.code yX7_strike cX7_strike 10 (some .int), Cond.methodLink RL 106 yX6_drawn, Cond.instanceMethod yX6_drawn, Cond.selects RX6 yX6_drawn yX6_drawn, Cond.code yX6_drawn cX6_drawn 10 (some .int), Cond.constant RX6 233 (999999), Cond.constantLong RX6 234 (16807), Cond.constantLong RX6 236 (2147483647), Cond.methodLink RL 109 yX7_drawn, Cond.instanceMethod yX7_drawn, Cond.selects RX7 yX7_drawn yX7_drawn, Cond.code yX7_drawn cX7_drawn 10 (some .int), Cond.constant RX7 197 (999999), Cond.constantLong RX7 198 (16807), Cond.constantLong RX7 200 (2147483647), Cond.methodLink RL 110 yX6_image, Cond.instanceMethod yX6_image, Cond.selects RX6 yX6_image yX6_image, Cond.code yX6_image cX6_image 2 (some .int), Cond.methodLink RL 113 yX7_image, Cond.instanceMethod yX7_image, Cond.selects RX7 yX7_image yX7_image]
def wsL_law_r31 : List Cond := [Cond.code yX7_image cX7_image 2 (some .int), Cond.methodLink RL 114 yX6_restore, Cond.instanceMethod yX6_restore, Cond.selects RX6 yX6_restore yX6_restore, Cond.code yX6_restore cX6_restore 2 (some .int), Cond.methodLink RL 117 yX7_restore, Cond.instanceMethod yX7_restore, Cond.selects RX7 yX7_restore yX7_restore, Cond.code yX7_restore cX7_restore 2 (some .int), Cond.methodLink RL 118 yX6_kind, Cond.instanceMethod yX6_kind, Cond.selects RX6 yX6_kind yX6_kind, Cond.code yX6_kind cX6_kind 2 (some .int), Cond.methodLink RL 121 yX7_kind, Cond.instanceMethod yX7_kind, Cond.selects RX7 yX7_kind yX7_kind, Cond.code yX7_kind cX7_kind 2 (some .int), Cond.methodLink RX7 202 yX7_kindIn, Cond.instanceMethod yX7_kindIn, Cond.selects RX7 yX7_kindIn yX7_kindIn, Cond.code yX7_kindIn cX7_kindIn 2 (some .int), Cond.methodLink RL 122 yX6_as, Cond.instanceMethod yX6_as, Cond.selects RX6 yX6_as yX6_as]
def wsL_law_r32 : List Cond := [Cond.code yX6_as cX6_as 3 (some .int), Cond.fieldLink RX6 238 "ClueLeave" "IS_ALSO" "[I", Cond.methodLink RL 125 yX7_as, Cond.instanceMethod yX7_as, Cond.selects RX7 yX7_as yX7_as, Cond.code yX7_as cX7_as 5 (some .int), Cond.methodLink RL 126 yX6_ask, Cond.instanceMethod yX6_ask, Cond.selects RX6 yX6_ask yX6_ask, Cond.code yX6_ask cX6_ask 3 (some .int), Cond.methodLink RX6 241 yX1_answer, Cond.instanceMethod yX1_answer, Cond.selects RX1 yX1_answer yX1_answer, Cond.code yX1_answer cX1_answer 4 (some .int), Cond.fieldLink RX1 15 "ClueLeave$Asks" "traced" "I", Cond.methodLink RX1 20 yX1_begin, Cond.instanceMethod yX1_begin, Cond.selects RX1 yX1_begin yX1_begin, Cond.code yX1_begin cX1_begin 6 (some .int), Cond.fieldLink RX1 24 "ClueLeave$City" "kinds" "[I", Cond.fieldLink RX1 29 "ClueLeave$Asks" "SIZES" "[I", Cond.fieldLink RX1 32 "ClueLeave$Asks" "MARKS" "[I", Cond.methodLink RX1 35 yX1_give, Cond.instanceMethod yX1_give]
def wsL_law_r33 : List Cond := [Cond.selects RX1 yX1_give yX1_give, Cond.code yX1_give cX1_give 6 (some .int), Cond.fieldLink RX1 42 "ClueLeave$City" "tells" "[I", Cond.fieldLink RX1 45 "ClueLeave$City" "off" "[I", Cond.methodLink RX1 38 yX1_leave, Cond.instanceMethod yX1_leave, Cond.selects RX1 yX1_leave yX1_leave, Cond.code yX1_leave cX1_leave 2 none, Cond.methodLink RL 129 yX7_ask, Cond.instanceMethod yX7_ask, Cond.selects RX7 yX7_ask yX7_ask, Cond.code yX7_ask cX7_ask 4 (some .int), Cond.fieldLink RX7 205 "ClueLeaveModel" "traced" "I", Cond.methodLink RX7 215 yX7_stainSize, Cond.instanceMethod yX7_stainSize, Cond.selects RX7 yX7_stainSize yX7_stainSize, Cond.code yX7_stainSize cX7_stainSize 4 (some .int), Cond.methodLink RX7 208 yX7_begins, Cond.instanceMethod yX7_begins, Cond.selects RX7 yX7_begins yX7_begins, Cond.code yX7_begins cX7_begins 2 none, Cond.methodLink RX7 218 yX7_threadSize, Cond.instanceMethod yX7_threadSize, Cond.selects RX7 yX7_threadSize yX7_threadSize]
def wsL_law_r34 : List Cond := [Cond.code yX7_threadSize cX7_threadSize 4 (some .int), Cond.methodLink RX7 212 yX7_threadMark, Cond.instanceMethod yX7_threadMark, Cond.selects RX7 yX7_threadMark yX7_threadMark, Cond.code yX7_threadMark cX7_threadMark 4 (some .int), Cond.methodLink RX7 221 yX7_stainMark, Cond.instanceMethod yX7_stainMark, Cond.selects RX7 yX7_stainMark yX7_stainMark, Cond.code yX7_stainMark cX7_stainMark 2 (some .int), Cond.methodLink RL 130 yX6_trace, Cond.instanceMethod yX6_trace, Cond.selects RX6 yX6_trace yX6_trace, Cond.code yX6_trace cX6_trace 2 (some .int), Cond.methodLink RX6 245 yX1_traceAt, Cond.instanceMethod yX1_traceAt, Cond.selects RX1 yX1_traceAt yX1_traceAt, Cond.code yX1_traceAt cX1_traceAt 2 (some .int), Cond.constant RX1 19 (-1000000), Cond.methodLink RL 133 yX7_trace, Cond.instanceMethod yX7_trace, Cond.selects RX7 yX7_trace yX7_trace, Cond.code yX7_trace cX7_trace 2 (some .int), Cond.methodLink RL 134 yX6_count, Cond.instanceMethod yX6_count]
def wsL_law_r35 : List Cond := [Cond.selects RX6 yX6_count yX6_count, Cond.code yX6_count cX6_count 2 (some .int), Cond.fieldLink RX6 251 "ClueLeave$City" "sunday" "I", Cond.methodLink RX6 248 yX4_present, Cond.instanceMethod yX4_present, Cond.selects RX4 yX4_present yX4_present, Cond.code yX4_present cX4_present 3 (some .int), Cond.methodLink RX4 37 yX4_isMissing, Cond.methodLink RX6 254 yX5_size, Cond.instanceMethod yX5_size, Cond.selects RX5 yX5_size yX5_size, Cond.code yX5_size cX5_size 1 (some .int), Cond.methodLink RL 137 yX7_count, Cond.instanceMethod yX7_count, Cond.selects RX7 yX7_count yX7_count, Cond.code yX7_count cX7_count 4 (some .int), Cond.methodLink RL 138 yX6_status, Cond.instanceMethod yX6_status, Cond.selects RX6 yX6_status yX6_status, Cond.code yX6_status cX6_status 1 (some .int), Cond.methodLink RL 141 yX7_status, Cond.instanceMethod yX7_status, Cond.selects RX7 yX7_status yX7_status, Cond.code yX7_status cX7_status 1 (some .int)]
def wsL_law : List Cond := (wsL_law_r1 ++ (wsL_law_r2 ++ (wsL_law_r3 ++ (wsL_law_r4 ++ (wsL_law_r5 ++ (wsL_law_r6 ++ (wsL_law_r7 ++ (wsL_law_r8 ++ (wsL_law_r9 ++ (wsL_law_r10 ++ (wsL_law_r11 ++ (wsL_law_r12 ++ (wsL_law_r13 ++ (wsL_law_r14 ++ (wsL_law_r15 ++ (wsL_law_r16 ++ (wsL_law_r17 ++ (wsL_law_r18 ++ (wsL_law_r19 ++ (wsL_law_r20 ++ (wsL_law_r21 ++ (wsL_law_r22 ++ (wsL_law_r23 ++ (wsL_law_r24 ++ (wsL_law_r25 ++ (wsL_law_r26 ++ (wsL_law_r27 ++ (wsL_law_r28 ++ (wsL_law_r29 ++ (wsL_law_r30 ++ (wsL_law_r31 ++ (wsL_law_r32 ++ (wsL_law_r33 ++ (wsL_law_r34 ++ wsL_law_r35)))))))))))))))))))))))))))))))))) ++ wsX60 ++ wsX70 ++ wsX40 ++ wsX50 ++ wsX00 ++ wsX30 ++ wsX10 ++ wsX20 ++ ([] : List Cond)
set_option maxRecDepth 20000 in
theorem wsL_law_in : ∀ w ∈ wsL_law, w ∈ lw_tbl := fun w h => (goodIn_p wsL_law [57, 60, 65, 71, 87, 109, 131, 151, 164, 673, 250, 254, 257, 262, 267, 271, 750, 753, 756, 761, 766, 275, 279, 283, 287, 290, 770, 774, 777, 294, 298, 302, 781, 785, 309, 313, 789, 317, 321, 326, 793, 330, 334, 338, 342, 346, 350, 354, 359, 363, 366, 370, 374, 379, 384, 798, 802, 806, 810, 814, 818, 822, 825, 829, 833, 388, 392, 837, 396, 400, 405, 408, 412, 416, 420, 424, 428, 432, 436, 841, 845, 850, 853, 856, 859, 862, 865, 868, 871, 440, 444, 875, 879, 449, 883, 887, 454, 891, 458, 462, 466, 895, 470, 899, 476, 480, 483, 489, 903, 906, 909, 495, 913, 916, 499, 503, 507, 510, 518, 522, 527, 531, 535, 920, 924, 928, 539, 932, 544, 549, 554, 936, 940, 558, 944, 562, 566, 570, 948, 952, 574, 956, 578, 593, 582, 586, 590, 960, 597, 964, 604, 971, 608, 975, 612, 979, 983, 616, 987, 622, 626, 630, 638, 642, 991, 995, 999, 1003, 1007, 1011, 646, 650, 1015, 655, 659, 664, 1019, 668, 1023] (by decide +kernel) (by decide +kernel) w h).1
theorem inlX0 : ∀ w ∈ wsX00, w ∈ wsL_law := fun _ h => List.mem_append_left _ (List.mem_append_left _ (List.mem_append_left _ (List.mem_append_left _ (List.mem_append_right _ h))))
theorem inX0 : ∀ w ∈ wsX00, w ∈ lw_tbl := fun w h => wsL_law_in w (inlX0 w h)
theorem inlX1 : ∀ w ∈ wsX10, w ∈ wsL_law := fun _ h => List.mem_append_left _ (List.mem_append_left _ (List.mem_append_right _ h))
theorem inX1 : ∀ w ∈ wsX10, w ∈ lw_tbl := fun w h => wsL_law_in w (inlX1 w h)
theorem inlX2 : ∀ w ∈ wsX20, w ∈ wsL_law := fun _ h => List.mem_append_left _ (List.mem_append_right _ h)
theorem inX2 : ∀ w ∈ wsX20, w ∈ lw_tbl := fun w h => wsL_law_in w (inlX2 w h)
theorem inlX3 : ∀ w ∈ wsX30, w ∈ wsL_law := fun _ h => List.mem_append_left _ (List.mem_append_left _ (List.mem_append_left _ (List.mem_append_right _ h)))
theorem inX3 : ∀ w ∈ wsX30, w ∈ lw_tbl := fun w h => wsL_law_in w (inlX3 w h)
theorem inlX4 : ∀ w ∈ wsX40, w ∈ wsL_law := fun _ h => List.mem_append_left _ (List.mem_append_left _ (List.mem_append_left _ (List.mem_append_left _ (List.mem_append_left _ (List.mem_append_left _ (List.mem_append_right _ h))))))
theorem inX4 : ∀ w ∈ wsX40, w ∈ lw_tbl := fun w h => wsL_law_in w (inlX4 w h)
theorem inlX5 : ∀ w ∈ wsX50, w ∈ wsL_law := fun _ h => List.mem_append_left _ (List.mem_append_left _ (List.mem_append_left _ (List.mem_append_left _ (List.mem_append_left _ (List.mem_append_right _ h)))))
theorem inX5 : ∀ w ∈ wsX50, w ∈ lw_tbl := fun w h => wsL_law_in w (inlX5 w h)
theorem inlX6 : ∀ w ∈ wsX60, w ∈ wsL_law := fun _ h => List.mem_append_left _ (List.mem_append_left _ (List.mem_append_left _ (List.mem_append_left _ (List.mem_append_left _ (List.mem_append_left _ (List.mem_append_left _ (List.mem_append_left _ (List.mem_append_right _ h))))))))
theorem inX6 : ∀ w ∈ wsX60, w ∈ lw_tbl := fun w h => wsL_law_in w (inlX6 w h)
theorem inlX7 : ∀ w ∈ wsX70, w ∈ wsL_law := fun _ h => List.mem_append_left _ (List.mem_append_left _ (List.mem_append_left _ (List.mem_append_left _ (List.mem_append_left _ (List.mem_append_left _ (List.mem_append_left _ (List.mem_append_right _ h)))))))
theorem inX7 : ∀ w ∈ wsX70, w ∈ lw_tbl := fun w h => wsL_law_in w (inlX7 w h)
theorem inJ6 : ∀ w ∈ wsJ60, w ∈ lw_tbl := by decide +kernel
theorem inJ9 : ∀ w ∈ wsJ90, w ∈ lw_tbl := by decide +kernel
theorem inJ10 : ∀ w ∈ wsJ100, w ∈ lw_tbl := by decide +kernel
theorem inJ7 : ∀ w ∈ wsJ70, w ∈ lw_tbl := by decide +kernel
theorem dX0_init_0 : decode cX0_init 0 = .ok (.aload_n 0, 1) := by decide +kernel
theorem dX0_init_1 : decode cX0_init 1 = .ok (.invokespecial 1, 3) := by decide +kernel
theorem dX0_init_4 : decode cX0_init 4 = .ok (.aload_n 0, 1) := by decide +kernel
theorem dX0_init_5 : decode cX0_init 5 = .ok (.bipush 24, 2) := by decide +kernel
theorem dX0_init_7 : decode cX0_init 7 = .ok (.newarray .int, 2) := by decide +kernel
theorem dX0_init_9 : decode cX0_init 9 = .ok (.putfield 9, 3) := by decide +kernel
theorem dX0_init_12 : decode cX0_init 12 = .ok (.aload_n 0, 1) := by decide +kernel
theorem dX0_init_13 : decode cX0_init 13 = .ok (.bipush 24, 2) := by decide +kernel
theorem dX0_init_15 : decode cX0_init 15 = .ok (.newarray .int, 2) := by decide +kernel
theorem dX0_init_17 : decode cX0_init 17 = .ok (.putfield 13, 3) := by decide +kernel
theorem dX0_init_20 : decode cX0_init 20 = .ok (.aload_n 0, 1) := by decide +kernel
theorem dX0_init_21 : decode cX0_init 21 = .ok (.bipush 24, 2) := by decide +kernel
theorem dX0_init_23 : decode cX0_init 23 = .ok (.newarray .int, 2) := by decide +kernel
theorem dX0_init_25 : decode cX0_init 25 = .ok (.putfield 16, 3) := by decide +kernel
theorem dX0_init_28 : decode cX0_init 28 = .ok (.return_, 1) := by decide +kernel
theorem dX0_kept_0 : decode cX0_kept 0 = .ok (.aload_n 0, 1) := by decide +kernel
theorem dX0_kept_1 : decode cX0_kept 1 = .ok (.getfield 19, 3) := by decide +kernel
theorem dX0_kept_4 : decode cX0_kept 4 = .ok (.ireturn, 1) := by decide +kernel
theorem dX0_forgetAll_0 : decode cX0_forgetAll 0 = .ok (.aload_n 0, 1) := by decide +kernel
theorem dX0_forgetAll_1 : decode cX0_forgetAll 1 = .ok (.iconst 0, 1) := by decide +kernel
theorem dX0_forgetAll_2 : decode cX0_forgetAll 2 = .ok (.putfield 19, 3) := by decide +kernel
theorem dX0_forgetAll_5 : decode cX0_forgetAll 5 = .ok (.return_, 1) := by decide +kernel
theorem dX0_keep_0 : decode cX0_keep 0 = .ok (.aload_n 0, 1) := by decide +kernel
theorem dX0_keep_1 : decode cX0_keep 1 = .ok (.getfield 9, 3) := by decide +kernel
theorem dX0_keep_4 : decode cX0_keep 4 = .ok (.aload_n 0, 1) := by decide +kernel
theorem dX0_keep_5 : decode cX0_keep 5 = .ok (.getfield 23, 3) := by decide +kernel
theorem dX0_keep_8 : decode cX0_keep 8 = .ok (.iload_n 1, 1) := by decide +kernel
theorem dX0_keep_9 : decode cX0_keep 9 = .ok (.iastore, 1) := by decide +kernel
theorem dX0_keep_10 : decode cX0_keep 10 = .ok (.aload_n 0, 1) := by decide +kernel
theorem dX0_keep_11 : decode cX0_keep 11 = .ok (.getfield 13, 3) := by decide +kernel
theorem dX0_keep_14 : decode cX0_keep 14 = .ok (.aload_n 0, 1) := by decide +kernel
theorem dX0_keep_15 : decode cX0_keep 15 = .ok (.getfield 23, 3) := by decide +kernel
theorem dX0_keep_18 : decode cX0_keep 18 = .ok (.iload_n 2, 1) := by decide +kernel
theorem dX0_keep_19 : decode cX0_keep 19 = .ok (.iastore, 1) := by decide +kernel
theorem dX0_keep_20 : decode cX0_keep 20 = .ok (.aload_n 0, 1) := by decide +kernel
theorem dX0_keep_21 : decode cX0_keep 21 = .ok (.getfield 16, 3) := by decide +kernel
theorem dX0_keep_24 : decode cX0_keep 24 = .ok (.aload_n 0, 1) := by decide +kernel
theorem dX0_keep_25 : decode cX0_keep 25 = .ok (.getfield 23, 3) := by decide +kernel
theorem dX0_keep_28 : decode cX0_keep 28 = .ok (.iload_n 3, 1) := by decide +kernel
theorem dX0_keep_29 : decode cX0_keep 29 = .ok (.iastore, 1) := by decide +kernel
theorem dX0_keep_30 : decode cX0_keep 30 = .ok (.aload_n 0, 1) := by decide +kernel
theorem dX0_keep_31 : decode cX0_keep 31 = .ok (.aload_n 0, 1) := by decide +kernel
theorem dX0_keep_32 : decode cX0_keep 32 = .ok (.getfield 23, 3) := by decide +kernel
theorem dX0_keep_35 : decode cX0_keep 35 = .ok (.iconst 1, 1) := by decide +kernel
theorem dX0_keep_36 : decode cX0_keep 36 = .ok (.iadd, 1) := by decide +kernel
theorem dX0_keep_37 : decode cX0_keep 37 = .ok (.bipush 24, 2) := by decide +kernel
theorem dX0_keep_39 : decode cX0_keep 39 = .ok (.irem, 1) := by decide +kernel
theorem dX0_keep_40 : decode cX0_keep 40 = .ok (.putfield 23, 3) := by decide +kernel
theorem dX0_keep_43 : decode cX0_keep 43 = .ok (.aload_n 0, 1) := by decide +kernel
theorem dX0_keep_44 : decode cX0_keep 44 = .ok (.aload_n 0, 1) := by decide +kernel
theorem dX0_keep_45 : decode cX0_keep 45 = .ok (.getfield 19, 3) := by decide +kernel
theorem dX0_keep_48 : decode cX0_keep 48 = .ok (.iconst 1, 1) := by decide +kernel
theorem dX0_keep_49 : decode cX0_keep 49 = .ok (.iadd, 1) := by decide +kernel
theorem dX0_keep_50 : decode cX0_keep 50 = .ok (.bipush 24, 2) := by decide +kernel
theorem dX0_keep_52 : decode cX0_keep 52 = .ok (.invokestatic 26, 3) := by decide +kernel
theorem dX0_keep_55 : decode cX0_keep 55 = .ok (.putfield 19, 3) := by decide +kernel
theorem dX0_keep_58 : decode cX0_keep 58 = .ok (.return_, 1) := by decide +kernel
theorem dX0_takeBack_0 : decode cX0_takeBack 0 = .ok (.aload_n 0, 1) := by decide +kernel
theorem dX0_takeBack_1 : decode cX0_takeBack 1 = .ok (.aload_n 0, 1) := by decide +kernel
theorem dX0_takeBack_2 : decode cX0_takeBack 2 = .ok (.getfield 23, 3) := by decide +kernel
theorem dX0_takeBack_5 : decode cX0_takeBack 5 = .ok (.bipush 24, 2) := by decide +kernel
theorem dX0_takeBack_7 : decode cX0_takeBack 7 = .ok (.iadd, 1) := by decide +kernel
theorem dX0_takeBack_8 : decode cX0_takeBack 8 = .ok (.iconst 1, 1) := by decide +kernel
theorem dX0_takeBack_9 : decode cX0_takeBack 9 = .ok (.isub, 1) := by decide +kernel
theorem dX0_takeBack_10 : decode cX0_takeBack 10 = .ok (.bipush 24, 2) := by decide +kernel
theorem dX0_takeBack_12 : decode cX0_takeBack 12 = .ok (.irem, 1) := by decide +kernel
theorem dX0_takeBack_13 : decode cX0_takeBack 13 = .ok (.putfield 23, 3) := by decide +kernel
theorem dX0_takeBack_16 : decode cX0_takeBack 16 = .ok (.aload_n 0, 1) := by decide +kernel
theorem dX0_takeBack_17 : decode cX0_takeBack 17 = .ok (.dup, 1) := by decide +kernel
theorem dX0_takeBack_18 : decode cX0_takeBack 18 = .ok (.getfield 19, 3) := by decide +kernel
theorem dX0_takeBack_21 : decode cX0_takeBack 21 = .ok (.iconst 1, 1) := by decide +kernel
theorem dX0_takeBack_22 : decode cX0_takeBack 22 = .ok (.isub, 1) := by decide +kernel
theorem dX0_takeBack_23 : decode cX0_takeBack 23 = .ok (.putfield 19, 3) := by decide +kernel
theorem dX0_takeBack_26 : decode cX0_takeBack 26 = .ok (.aload_n 0, 1) := by decide +kernel
theorem dX0_takeBack_27 : decode cX0_takeBack 27 = .ok (.getfield 9, 3) := by decide +kernel
theorem dX0_takeBack_30 : decode cX0_takeBack 30 = .ok (.aload_n 0, 1) := by decide +kernel
theorem dX0_takeBack_31 : decode cX0_takeBack 31 = .ok (.getfield 23, 3) := by decide +kernel
theorem dX0_takeBack_34 : decode cX0_takeBack 34 = .ok (.iaload, 1) := by decide +kernel
theorem dX0_takeBack_35 : decode cX0_takeBack 35 = .ok (.tableswitch 93 1 3 #[25, 41, 67], 25) := by decide +kernel
theorem dX0_takeBack_60 : decode cX0_takeBack 60 = .ok (.aload_n 1, 1) := by decide +kernel
theorem dX0_takeBack_61 : decode cX0_takeBack 61 = .ok (.aload_n 0, 1) := by decide +kernel
theorem dX0_takeBack_62 : decode cX0_takeBack 62 = .ok (.getfield 16, 3) := by decide +kernel
theorem dX0_takeBack_65 : decode cX0_takeBack 65 = .ok (.aload_n 0, 1) := by decide +kernel
theorem dX0_takeBack_66 : decode cX0_takeBack 66 = .ok (.getfield 23, 3) := by decide +kernel
theorem dX0_takeBack_69 : decode cX0_takeBack 69 = .ok (.iaload, 1) := by decide +kernel
theorem dX0_takeBack_70 : decode cX0_takeBack 70 = .ok (.putfield 32, 3) := by decide +kernel
theorem dX0_takeBack_73 : decode cX0_takeBack 73 = .ok (.goto 65, 3) := by decide +kernel
theorem dX0_takeBack_76 : decode cX0_takeBack 76 = .ok (.aload_n 1, 1) := by decide +kernel
theorem dX0_takeBack_77 : decode cX0_takeBack 77 = .ok (.getfield 37, 3) := by decide +kernel
theorem dX0_takeBack_80 : decode cX0_takeBack 80 = .ok (.aload_n 0, 1) := by decide +kernel
theorem dX0_takeBack_81 : decode cX0_takeBack 81 = .ok (.getfield 13, 3) := by decide +kernel
theorem dX0_takeBack_84 : decode cX0_takeBack 84 = .ok (.aload_n 0, 1) := by decide +kernel
theorem dX0_takeBack_85 : decode cX0_takeBack 85 = .ok (.getfield 23, 3) := by decide +kernel
theorem dX0_takeBack_88 : decode cX0_takeBack 88 = .ok (.iaload, 1) := by decide +kernel
theorem dX0_takeBack_89 : decode cX0_takeBack 89 = .ok (.aload_n 0, 1) := by decide +kernel
theorem dX0_takeBack_90 : decode cX0_takeBack 90 = .ok (.getfield 16, 3) := by decide +kernel
theorem dX0_takeBack_93 : decode cX0_takeBack 93 = .ok (.aload_n 0, 1) := by decide +kernel
theorem dX0_takeBack_94 : decode cX0_takeBack 94 = .ok (.getfield 23, 3) := by decide +kernel
theorem dX0_takeBack_97 : decode cX0_takeBack 97 = .ok (.iaload, 1) := by decide +kernel
theorem dX0_takeBack_98 : decode cX0_takeBack 98 = .ok (.iastore, 1) := by decide +kernel
theorem dX0_takeBack_99 : decode cX0_takeBack 99 = .ok (.goto 39, 3) := by decide +kernel
theorem dX0_takeBack_102 : decode cX0_takeBack 102 = .ok (.aload_n 1, 1) := by decide +kernel
theorem dX0_takeBack_103 : decode cX0_takeBack 103 = .ok (.getfield 40, 3) := by decide +kernel
theorem dX0_takeBack_106 : decode cX0_takeBack 106 = .ok (.aload_n 0, 1) := by decide +kernel
theorem dX0_takeBack_107 : decode cX0_takeBack 107 = .ok (.getfield 13, 3) := by decide +kernel
theorem dX0_takeBack_110 : decode cX0_takeBack 110 = .ok (.aload_n 0, 1) := by decide +kernel
theorem dX0_takeBack_111 : decode cX0_takeBack 111 = .ok (.getfield 23, 3) := by decide +kernel
theorem dX0_takeBack_114 : decode cX0_takeBack 114 = .ok (.iaload, 1) := by decide +kernel
theorem dX0_takeBack_115 : decode cX0_takeBack 115 = .ok (.aload_n 0, 1) := by decide +kernel
theorem dX0_takeBack_116 : decode cX0_takeBack 116 = .ok (.getfield 16, 3) := by decide +kernel
theorem dX0_takeBack_119 : decode cX0_takeBack 119 = .ok (.aload_n 0, 1) := by decide +kernel
theorem dX0_takeBack_120 : decode cX0_takeBack 120 = .ok (.getfield 23, 3) := by decide +kernel
theorem dX0_takeBack_123 : decode cX0_takeBack 123 = .ok (.iaload, 1) := by decide +kernel
theorem dX0_takeBack_124 : decode cX0_takeBack 124 = .ok (.iastore, 1) := by decide +kernel
theorem dX0_takeBack_125 : decode cX0_takeBack 125 = .ok (.goto 13, 3) := by decide +kernel
theorem dX0_takeBack_128 : decode cX0_takeBack 128 = .ok (.aload_n 1, 1) := by decide +kernel
theorem dX0_takeBack_129 : decode cX0_takeBack 129 = .ok (.dup, 1) := by decide +kernel
theorem dX0_takeBack_130 : decode cX0_takeBack 130 = .ok (.getfield 43, 3) := by decide +kernel
theorem dX0_takeBack_133 : decode cX0_takeBack 133 = .ok (.iconst 1, 1) := by decide +kernel
theorem dX0_takeBack_134 : decode cX0_takeBack 134 = .ok (.isub, 1) := by decide +kernel
theorem dX0_takeBack_135 : decode cX0_takeBack 135 = .ok (.putfield 43, 3) := by decide +kernel
theorem dX0_takeBack_138 : decode cX0_takeBack 138 = .ok (.return_, 1) := by decide +kernel
theorem dX1_init_0 : decode cX1_init 0 = .ok (.aload_n 0, 1) := by decide +kernel
theorem dX1_init_1 : decode cX1_init 1 = .ok (.invokespecial 3, 3) := by decide +kernel
theorem dX1_init_4 : decode cX1_init 4 = .ok (.aload_n 0, 1) := by decide +kernel
theorem dX1_init_5 : decode cX1_init 5 = .ok (.bipush 16, 2) := by decide +kernel
theorem dX1_init_7 : decode cX1_init 7 = .ok (.newarray .int, 2) := by decide +kernel
theorem dX1_init_9 : decode cX1_init 9 = .ok (.putfield 11, 3) := by decide +kernel
theorem dX1_init_12 : decode cX1_init 12 = .ok (.return_, 1) := by decide +kernel
theorem dX1_traceAt_0 : decode cX1_traceAt 0 = .ok (.iload_n 1, 1) := by decide +kernel
theorem dX1_traceAt_1 : decode cX1_traceAt 1 = .ok (.ifCond .lt 20, 3) := by decide +kernel
theorem dX1_traceAt_4 : decode cX1_traceAt 4 = .ok (.iload_n 1, 1) := by decide +kernel
theorem dX1_traceAt_5 : decode cX1_traceAt 5 = .ok (.aload_n 0, 1) := by decide +kernel
theorem dX1_traceAt_6 : decode cX1_traceAt 6 = .ok (.getfield 15, 3) := by decide +kernel
theorem dX1_traceAt_9 : decode cX1_traceAt 9 = .ok (.if_icmp .ge 12, 3) := by decide +kernel
theorem dX1_traceAt_12 : decode cX1_traceAt 12 = .ok (.aload_n 0, 1) := by decide +kernel
theorem dX1_traceAt_13 : decode cX1_traceAt 13 = .ok (.getfield 11, 3) := by decide +kernel
theorem dX1_traceAt_16 : decode cX1_traceAt 16 = .ok (.iload_n 1, 1) := by decide +kernel
theorem dX1_traceAt_17 : decode cX1_traceAt 17 = .ok (.iaload, 1) := by decide +kernel
theorem dX1_traceAt_18 : decode cX1_traceAt 18 = .ok (.goto 5, 3) := by decide +kernel
theorem dX1_traceAt_21 : decode cX1_traceAt 21 = .ok (.ldc 19, 2) := by decide +kernel
theorem dX1_traceAt_23 : decode cX1_traceAt 23 = .ok (.ireturn, 1) := by decide +kernel
set_option maxRecDepth 20000 in
theorem ggX1_answer_X1_begin : GoodIn wsX1_answer wsX1_begin := goodIn_r _ [6, 7, 8, 9, 10, 11, 12, 5, 13, 14, 15, 16, 17, 18, 19, 1, 20, 2, 3, 4, 23, 24, 25, 26, 27, 28, 29, 30, 31, 21, 22] (by decide +kernel) (by decide +kernel)
set_option maxRecDepth 20000 in
theorem gX1_answer_X1_begin : GoodIn wsX1_answer (wsV RX1 20 RX1 yX1_begin wsX1_begin) := goodIn_app (goodIn_of _ (by decide +kernel)) ggX1_answer_X1_begin
theorem dX1_answer_0 : decode cX1_answer 0 = .ok (.aload_n 0, 1) := by decide +kernel
theorem dX1_answer_1 : decode cX1_answer 1 = .ok (.iconst 0, 1) := by decide +kernel
theorem dX1_answer_2 : decode cX1_answer 2 = .ok (.putfield 15, 3) := by decide +kernel
theorem dX1_answer_5 : decode cX1_answer 5 = .ok (.aload_n 0, 1) := by decide +kernel
theorem dX1_answer_6 : decode cX1_answer 6 = .ok (.aload_n 1, 1) := by decide +kernel
theorem dX1_answer_7 : decode cX1_answer 7 = .ok (.iload_n 2, 1) := by decide +kernel
theorem dX1_answer_8 : decode cX1_answer 8 = .ok (.iload_n 3, 1) := by decide +kernel
theorem dX1_answer_9 : decode cX1_answer 9 = .ok (.iconst 0, 1) := by decide +kernel
theorem dX1_answer_10 : decode cX1_answer 10 = .ok (.invokevirtual 20, 3) := by decide +kernel
theorem dX1_answer_13 : decode cX1_answer 13 = .ok (.ireturn, 1) := by decide +kernel
set_option maxRecDepth 20000 in
theorem ggX1_begin_X1_give : GoodIn wsX1_begin wsX1_give := goodIn_r _ [8, 9, 10, 11, 12, 13, 7, 14, 15, 16, 4, 5, 6, 17, 18, 19, 0, 1, 2, 3, 20, 21, 22, 23, 24, 25, 26, 27, 28, 29, 30] (by decide +kernel) (by decide +kernel)
set_option maxRecDepth 20000 in
theorem gX1_begin_X1_give : GoodIn wsX1_begin (wsV RX1 35 RX1 yX1_give wsX1_give) := goodIn_app (goodIn_of _ (by decide +kernel)) ggX1_begin_X1_give
theorem dX1_begin_0 : decode cX1_begin 0 = .ok (.aload_n 1, 1) := by decide +kernel
theorem dX1_begin_1 : decode cX1_begin 1 = .ok (.getfield 24, 3) := by decide +kernel
theorem dX1_begin_4 : decode cX1_begin 4 = .ok (.iload_n 2, 1) := by decide +kernel
theorem dX1_begin_5 : decode cX1_begin 5 = .ok (.iaload, 1) := by decide +kernel
theorem dX1_begin_6 : decode cX1_begin 6 = .ok (.istore 5, 2) := by decide +kernel
theorem dX1_begin_8 : decode cX1_begin 8 = .ok (.aload_n 0, 1) := by decide +kernel
theorem dX1_begin_9 : decode cX1_begin 9 = .ok (.aload_n 1, 1) := by decide +kernel
theorem dX1_begin_10 : decode cX1_begin 10 = .ok (.iload_n 2, 1) := by decide +kernel
theorem dX1_begin_11 : decode cX1_begin 11 = .ok (.iload_n 3, 1) := by decide +kernel
theorem dX1_begin_12 : decode cX1_begin 12 = .ok (.ifCond .ne 12, 3) := by decide +kernel
theorem dX1_begin_15 : decode cX1_begin 15 = .ok (.getstatic 29, 3) := by decide +kernel
theorem dX1_begin_18 : decode cX1_begin 18 = .ok (.iload 5, 2) := by decide +kernel
theorem dX1_begin_20 : decode cX1_begin 20 = .ok (.iaload, 1) := by decide +kernel
theorem dX1_begin_21 : decode cX1_begin 21 = .ok (.goto 9, 3) := by decide +kernel
theorem dX1_begin_24 : decode cX1_begin 24 = .ok (.getstatic 32, 3) := by decide +kernel
theorem dX1_begin_27 : decode cX1_begin 27 = .ok (.iload 5, 2) := by decide +kernel
theorem dX1_begin_29 : decode cX1_begin 29 = .ok (.iaload, 1) := by decide +kernel
theorem dX1_begin_30 : decode cX1_begin 30 = .ok (.iload 4, 2) := by decide +kernel
theorem dX1_begin_32 : decode cX1_begin 32 = .ok (.invokevirtual 35, 3) := by decide +kernel
theorem dX1_begin_35 : decode cX1_begin 35 = .ok (.ireturn, 1) := by decide +kernel
set_option maxRecDepth 20000 in
theorem ggX1_give_X1_leave : GoodIn wsX1_give wsX1_leave := goodIn_r _ [7, 8, 9, 29, 30] (by decide +kernel) (by decide +kernel)
set_option maxRecDepth 20000 in
theorem gX1_give_X1_leave : GoodIn wsX1_give (wsV RX1 38 RX1 yX1_leave wsX1_leave) := goodIn_app (goodIn_of _ (by decide +kernel)) ggX1_give_X1_leave
set_option maxRecDepth 20000 in
theorem ggX1_give_X1_give : GoodIn wsX1_give wsX1_give := goodIn_r _ [0, 1, 2, 3, 4, 5, 6, 7, 8, 9, 10, 11, 12, 13, 14, 15, 16, 17, 18, 19, 20, 21, 22, 23, 24, 25, 26, 27, 28, 29, 30] (by decide +kernel) (by decide +kernel)
set_option maxRecDepth 20000 in
theorem gX1_give_X1_give : GoodIn wsX1_give (wsV RX1 35 RX1 yX1_give wsX1_give) := goodIn_app (goodIn_of _ (by decide +kernel)) ggX1_give_X1_give
set_option maxRecDepth 20000 in
theorem ggX1_give_X1_begin : GoodIn wsX1_give wsX1_begin := goodIn_r _ [16, 17, 18, 19, 10, 11, 12, 6, 0, 1, 2, 3, 4, 5, 7, 8, 9, 13, 14, 15, 20, 21, 22, 23, 24, 25, 26, 27, 28, 29, 30] (by decide +kernel) (by decide +kernel)
set_option maxRecDepth 20000 in
theorem gX1_give_X1_begin : GoodIn wsX1_give (wsV RX1 20 RX1 yX1_begin wsX1_begin) := goodIn_app (goodIn_of _ (by decide +kernel)) ggX1_give_X1_begin
theorem dX1_give_0 : decode cX1_give 0 = .ok (.iload 4, 2) := by decide +kernel
theorem dX1_give_2 : decode cX1_give 2 = .ok (.bipush 10, 2) := by decide +kernel
theorem dX1_give_4 : decode cX1_give 4 = .ok (.if_icmp .le 5, 3) := by decide +kernel
theorem dX1_give_7 : decode cX1_give 7 = .ok (.iconst 0, 1) := by decide +kernel
theorem dX1_give_8 : decode cX1_give 8 = .ok (.ireturn, 1) := by decide +kernel
theorem dX1_give_9 : decode cX1_give 9 = .ok (.aload_n 0, 1) := by decide +kernel
theorem dX1_give_10 : decode cX1_give 10 = .ok (.iload_n 3, 1) := by decide +kernel
theorem dX1_give_11 : decode cX1_give 11 = .ok (.invokevirtual 38, 3) := by decide +kernel
theorem dX1_give_14 : decode cX1_give 14 = .ok (.iload 4, 2) := by decide +kernel
theorem dX1_give_16 : decode cX1_give 16 = .ok (.iconst 1, 1) := by decide +kernel
theorem dX1_give_17 : decode cX1_give 17 = .ok (.iadd, 1) := by decide +kernel
theorem dX1_give_18 : decode cX1_give 18 = .ok (.istore 5, 2) := by decide +kernel
theorem dX1_give_20 : decode cX1_give 20 = .ok (.iload_n 3, 1) := by decide +kernel
theorem dX1_give_21 : decode cX1_give 21 = .ok (.tableswitch 211 10 24 #[75, 82, 103, 115, 129, 211, 211, 211, 211, 211, 142, 144, 162, 177, 198], 75) := by decide +kernel
theorem dX1_give_96 : decode cX1_give 96 = .ok (.aload_n 1, 1) := by decide +kernel
theorem dX1_give_97 : decode cX1_give 97 = .ok (.getfield 42, 3) := by decide +kernel
theorem dX1_give_100 : decode cX1_give 100 = .ok (.iload_n 2, 1) := by decide +kernel
theorem dX1_give_101 : decode cX1_give 101 = .ok (.iaload, 1) := by decide +kernel
theorem dX1_give_102 : decode cX1_give 102 = .ok (.ireturn, 1) := by decide +kernel
theorem dX1_give_103 : decode cX1_give 103 = .ok (.aload_n 0, 1) := by decide +kernel
theorem dX1_give_104 : decode cX1_give 104 = .ok (.aload_n 1, 1) := by decide +kernel
theorem dX1_give_105 : decode cX1_give 105 = .ok (.iload_n 2, 1) := by decide +kernel
theorem dX1_give_106 : decode cX1_give 106 = .ok (.bipush 10, 2) := by decide +kernel
theorem dX1_give_108 : decode cX1_give 108 = .ok (.iload 5, 2) := by decide +kernel
theorem dX1_give_110 : decode cX1_give 110 = .ok (.invokevirtual 35, 3) := by decide +kernel
theorem dX1_give_113 : decode cX1_give 113 = .ok (.aload_n 0, 1) := by decide +kernel
theorem dX1_give_114 : decode cX1_give 114 = .ok (.aload_n 1, 1) := by decide +kernel
theorem dX1_give_115 : decode cX1_give 115 = .ok (.iload_n 2, 1) := by decide +kernel
theorem dX1_give_116 : decode cX1_give 116 = .ok (.iconst 1, 1) := by decide +kernel
theorem dX1_give_117 : decode cX1_give 117 = .ok (.iload 5, 2) := by decide +kernel
theorem dX1_give_119 : decode cX1_give 119 = .ok (.invokevirtual 20, 3) := by decide +kernel
theorem dX1_give_122 : decode cX1_give 122 = .ok (.iadd, 1) := by decide +kernel
theorem dX1_give_123 : decode cX1_give 123 = .ok (.ireturn, 1) := by decide +kernel
theorem dX1_give_124 : decode cX1_give 124 = .ok (.aload_n 0, 1) := by decide +kernel
theorem dX1_give_125 : decode cX1_give 125 = .ok (.aload_n 1, 1) := by decide +kernel
theorem dX1_give_126 : decode cX1_give 126 = .ok (.iload_n 2, 1) := by decide +kernel
theorem dX1_give_127 : decode cX1_give 127 = .ok (.bipush 11, 2) := by decide +kernel
theorem dX1_give_129 : decode cX1_give 129 = .ok (.iload 5, 2) := by decide +kernel
theorem dX1_give_131 : decode cX1_give 131 = .ok (.invokevirtual 35, 3) := by decide +kernel
theorem dX1_give_134 : decode cX1_give 134 = .ok (.ineg, 1) := by decide +kernel
theorem dX1_give_135 : decode cX1_give 135 = .ok (.ireturn, 1) := by decide +kernel
theorem dX1_give_136 : decode cX1_give 136 = .ok (.aload_n 0, 1) := by decide +kernel
theorem dX1_give_137 : decode cX1_give 137 = .ok (.aload_n 1, 1) := by decide +kernel
theorem dX1_give_138 : decode cX1_give 138 = .ok (.iload_n 2, 1) := by decide +kernel
theorem dX1_give_139 : decode cX1_give 139 = .ok (.bipush 10, 2) := by decide +kernel
theorem dX1_give_141 : decode cX1_give 141 = .ok (.iload 5, 2) := by decide +kernel
theorem dX1_give_143 : decode cX1_give 143 = .ok (.invokevirtual 35, 3) := by decide +kernel
theorem dX1_give_146 : decode cX1_give 146 = .ok (.bipush 100, 2) := by decide +kernel
theorem dX1_give_148 : decode cX1_give 148 = .ok (.isub, 1) := by decide +kernel
theorem dX1_give_149 : decode cX1_give 149 = .ok (.ireturn, 1) := by decide +kernel
theorem dX1_give_150 : decode cX1_give 150 = .ok (.iconst 2, 1) := by decide +kernel
theorem dX1_give_151 : decode cX1_give 151 = .ok (.aload_n 0, 1) := by decide +kernel
theorem dX1_give_152 : decode cX1_give 152 = .ok (.aload_n 1, 1) := by decide +kernel
theorem dX1_give_153 : decode cX1_give 153 = .ok (.iload_n 2, 1) := by decide +kernel
theorem dX1_give_154 : decode cX1_give 154 = .ok (.bipush 13, 2) := by decide +kernel
theorem dX1_give_156 : decode cX1_give 156 = .ok (.iload 5, 2) := by decide +kernel
theorem dX1_give_158 : decode cX1_give 158 = .ok (.invokevirtual 35, 3) := by decide +kernel
theorem dX1_give_161 : decode cX1_give 161 = .ok (.imul, 1) := by decide +kernel
theorem dX1_give_162 : decode cX1_give 162 = .ok (.ireturn, 1) := by decide +kernel
theorem dX1_give_163 : decode cX1_give 163 = .ok (.iload_n 2, 1) := by decide +kernel
theorem dX1_give_164 : decode cX1_give 164 = .ok (.ireturn, 1) := by decide +kernel
theorem dX1_give_165 : decode cX1_give 165 = .ok (.aload_n 0, 1) := by decide +kernel
theorem dX1_give_166 : decode cX1_give 166 = .ok (.aload_n 1, 1) := by decide +kernel
theorem dX1_give_167 : decode cX1_give 167 = .ok (.iload_n 2, 1) := by decide +kernel
theorem dX1_give_168 : decode cX1_give 168 = .ok (.bipush 20, 2) := by decide +kernel
theorem dX1_give_170 : decode cX1_give 170 = .ok (.iload 5, 2) := by decide +kernel
theorem dX1_give_172 : decode cX1_give 172 = .ok (.invokevirtual 35, 3) := by decide +kernel
theorem dX1_give_175 : decode cX1_give 175 = .ok (.aload_n 1, 1) := by decide +kernel
theorem dX1_give_176 : decode cX1_give 176 = .ok (.getfield 45, 3) := by decide +kernel
theorem dX1_give_179 : decode cX1_give 179 = .ok (.iload_n 2, 1) := by decide +kernel
theorem dX1_give_180 : decode cX1_give 180 = .ok (.iaload, 1) := by decide +kernel
theorem dX1_give_181 : decode cX1_give 181 = .ok (.iadd, 1) := by decide +kernel
theorem dX1_give_182 : decode cX1_give 182 = .ok (.ireturn, 1) := by decide +kernel
theorem dX1_give_183 : decode cX1_give 183 = .ok (.aload_n 0, 1) := by decide +kernel
theorem dX1_give_184 : decode cX1_give 184 = .ok (.aload_n 1, 1) := by decide +kernel
theorem dX1_give_185 : decode cX1_give 185 = .ok (.iload_n 2, 1) := by decide +kernel
theorem dX1_give_186 : decode cX1_give 186 = .ok (.bipush 21, 2) := by decide +kernel
theorem dX1_give_188 : decode cX1_give 188 = .ok (.iload 5, 2) := by decide +kernel
theorem dX1_give_190 : decode cX1_give 190 = .ok (.invokevirtual 35, 3) := by decide +kernel
theorem dX1_give_193 : decode cX1_give 193 = .ok (.sipush 1000, 3) := by decide +kernel
theorem dX1_give_196 : decode cX1_give 196 = .ok (.isub, 1) := by decide +kernel
theorem dX1_give_197 : decode cX1_give 197 = .ok (.ireturn, 1) := by decide +kernel
theorem dX1_give_198 : decode cX1_give 198 = .ok (.aload_n 0, 1) := by decide +kernel
theorem dX1_give_199 : decode cX1_give 199 = .ok (.aload_n 1, 1) := by decide +kernel
theorem dX1_give_200 : decode cX1_give 200 = .ok (.iload_n 2, 1) := by decide +kernel
theorem dX1_give_201 : decode cX1_give 201 = .ok (.bipush 20, 2) := by decide +kernel
theorem dX1_give_203 : decode cX1_give 203 = .ok (.iload 5, 2) := by decide +kernel
theorem dX1_give_205 : decode cX1_give 205 = .ok (.invokevirtual 35, 3) := by decide +kernel
theorem dX1_give_208 : decode cX1_give 208 = .ok (.aload_n 0, 1) := by decide +kernel
theorem dX1_give_209 : decode cX1_give 209 = .ok (.aload_n 1, 1) := by decide +kernel
theorem dX1_give_210 : decode cX1_give 210 = .ok (.iload_n 2, 1) := by decide +kernel
theorem dX1_give_211 : decode cX1_give 211 = .ok (.iconst 0, 1) := by decide +kernel
theorem dX1_give_212 : decode cX1_give 212 = .ok (.iload 5, 2) := by decide +kernel
theorem dX1_give_214 : decode cX1_give 214 = .ok (.invokevirtual 20, 3) := by decide +kernel
theorem dX1_give_217 : decode cX1_give 217 = .ok (.isub, 1) := by decide +kernel
theorem dX1_give_218 : decode cX1_give 218 = .ok (.ireturn, 1) := by decide +kernel
theorem dX1_give_219 : decode cX1_give 219 = .ok (.iconst 2, 1) := by decide +kernel
theorem dX1_give_220 : decode cX1_give 220 = .ok (.aload_n 0, 1) := by decide +kernel
theorem dX1_give_221 : decode cX1_give 221 = .ok (.aload_n 1, 1) := by decide +kernel
theorem dX1_give_222 : decode cX1_give 222 = .ok (.iload_n 2, 1) := by decide +kernel
theorem dX1_give_223 : decode cX1_give 223 = .ok (.bipush 21, 2) := by decide +kernel
theorem dX1_give_225 : decode cX1_give 225 = .ok (.iload 5, 2) := by decide +kernel
theorem dX1_give_227 : decode cX1_give 227 = .ok (.invokevirtual 35, 3) := by decide +kernel
theorem dX1_give_230 : decode cX1_give 230 = .ok (.imul, 1) := by decide +kernel
theorem dX1_give_231 : decode cX1_give 231 = .ok (.ireturn, 1) := by decide +kernel
theorem dX1_give_232 : decode cX1_give 232 = .ok (.iconst 0, 1) := by decide +kernel
theorem dX1_give_233 : decode cX1_give 233 = .ok (.ireturn, 1) := by decide +kernel
theorem dX1_leave_0 : decode cX1_leave 0 = .ok (.aload_n 0, 1) := by decide +kernel
theorem dX1_leave_1 : decode cX1_leave 1 = .ok (.getfield 15, 3) := by decide +kernel
theorem dX1_leave_4 : decode cX1_leave 4 = .ok (.bipush 16, 2) := by decide +kernel
theorem dX1_leave_6 : decode cX1_leave 6 = .ok (.if_icmp .ge 23, 3) := by decide +kernel
theorem dX1_leave_9 : decode cX1_leave 9 = .ok (.aload_n 0, 1) := by decide +kernel
theorem dX1_leave_10 : decode cX1_leave 10 = .ok (.getfield 11, 3) := by decide +kernel
theorem dX1_leave_13 : decode cX1_leave 13 = .ok (.aload_n 0, 1) := by decide +kernel
theorem dX1_leave_14 : decode cX1_leave 14 = .ok (.getfield 15, 3) := by decide +kernel
theorem dX1_leave_17 : decode cX1_leave 17 = .ok (.iload_n 1, 1) := by decide +kernel
theorem dX1_leave_18 : decode cX1_leave 18 = .ok (.iastore, 1) := by decide +kernel
theorem dX1_leave_19 : decode cX1_leave 19 = .ok (.aload_n 0, 1) := by decide +kernel
theorem dX1_leave_20 : decode cX1_leave 20 = .ok (.dup, 1) := by decide +kernel
theorem dX1_leave_21 : decode cX1_leave 21 = .ok (.getfield 15, 3) := by decide +kernel
theorem dX1_leave_24 : decode cX1_leave 24 = .ok (.iconst 1, 1) := by decide +kernel
theorem dX1_leave_25 : decode cX1_leave 25 = .ok (.iadd, 1) := by decide +kernel
theorem dX1_leave_26 : decode cX1_leave 26 = .ok (.putfield 15, 3) := by decide +kernel
theorem dX1_leave_29 : decode cX1_leave 29 = .ok (.return_, 1) := by decide +kernel
theorem dX2_init_0 : decode cX2_init 0 = .ok (.aload_n 0, 1) := by decide +kernel
theorem dX2_init_1 : decode cX2_init 1 = .ok (.invokespecial 3, 3) := by decide +kernel
theorem dX2_init_4 : decode cX2_init 4 = .ok (.aload_n 0, 1) := by decide +kernel
theorem dX2_init_5 : decode cX2_init 5 = .ok (.bipush 6, 2) := by decide +kernel
theorem dX2_init_7 : decode cX2_init 7 = .ok (.newarray .int, 2) := by decide +kernel
theorem dX2_init_9 : decode cX2_init 9 = .ok (.putfield 9, 3) := by decide +kernel
theorem dX2_init_12 : decode cX2_init 12 = .ok (.aload_n 0, 1) := by decide +kernel
theorem dX2_init_13 : decode cX2_init 13 = .ok (.bipush 6, 2) := by decide +kernel
theorem dX2_init_15 : decode cX2_init 15 = .ok (.newarray .int, 2) := by decide +kernel
theorem dX2_init_17 : decode cX2_init 17 = .ok (.putfield 15, 3) := by decide +kernel
theorem dX2_init_20 : decode cX2_init 20 = .ok (.aload_n 0, 1) := by decide +kernel
theorem dX2_init_21 : decode cX2_init 21 = .ok (.bipush 6, 2) := by decide +kernel
theorem dX2_init_23 : decode cX2_init 23 = .ok (.newarray .int, 2) := by decide +kernel
theorem dX2_init_25 : decode cX2_init 25 = .ok (.putfield 18, 3) := by decide +kernel
theorem dX2_init_28 : decode cX2_init 28 = .ok (.aload_n 0, 1) := by decide +kernel
theorem dX2_init_29 : decode cX2_init 29 = .ok (.bipush 6, 2) := by decide +kernel
theorem dX2_init_31 : decode cX2_init 31 = .ok (.newarray .int, 2) := by decide +kernel
theorem dX2_init_33 : decode cX2_init 33 = .ok (.putfield 21, 3) := by decide +kernel
theorem dX2_init_36 : decode cX2_init 36 = .ok (.return_, 1) := by decide +kernel
theorem dX2_stands_0 : decode cX2_stands 0 = .ok (.aload_n 0, 1) := by decide +kernel
theorem dX2_stands_1 : decode cX2_stands 1 = .ok (.getfield 24, 3) := by decide +kernel
theorem dX2_stands_4 : decode cX2_stands 4 = .ok (.ifCond .le 7, 3) := by decide +kernel
theorem dX2_stands_7 : decode cX2_stands 7 = .ok (.iconst 1, 1) := by decide +kernel
theorem dX2_stands_8 : decode cX2_stands 8 = .ok (.goto 4, 3) := by decide +kernel
theorem dX2_stands_11 : decode cX2_stands 11 = .ok (.iconst 0, 1) := by decide +kernel
theorem dX2_stands_12 : decode cX2_stands 12 = .ok (.ireturn, 1) := by decide +kernel
theorem dX2_has_0 : decode cX2_has 0 = .ok (.iload_n 1, 1) := by decide +kernel
theorem dX2_has_1 : decode cX2_has 1 = .ok (.ifCond .lt 15, 3) := by decide +kernel
theorem dX2_has_4 : decode cX2_has 4 = .ok (.iload_n 1, 1) := by decide +kernel
theorem dX2_has_5 : decode cX2_has 5 = .ok (.aload_n 0, 1) := by decide +kernel
theorem dX2_has_6 : decode cX2_has 6 = .ok (.getfield 28, 3) := by decide +kernel
theorem dX2_has_9 : decode cX2_has 9 = .ok (.if_icmp .ge 7, 3) := by decide +kernel
theorem dX2_has_12 : decode cX2_has 12 = .ok (.iconst 1, 1) := by decide +kernel
theorem dX2_has_13 : decode cX2_has 13 = .ok (.goto 4, 3) := by decide +kernel
theorem dX2_has_16 : decode cX2_has 16 = .ok (.iconst 0, 1) := by decide +kernel
theorem dX2_has_17 : decode cX2_has 17 = .ok (.ireturn, 1) := by decide +kernel
theorem dX2_clear_0 : decode cX2_clear 0 = .ok (.aload_n 0, 1) := by decide +kernel
theorem dX2_clear_1 : decode cX2_clear 1 = .ok (.iconst 0, 1) := by decide +kernel
theorem dX2_clear_2 : decode cX2_clear 2 = .ok (.putfield 24, 3) := by decide +kernel
theorem dX2_clear_5 : decode cX2_clear 5 = .ok (.aload_n 0, 1) := by decide +kernel
theorem dX2_clear_6 : decode cX2_clear 6 = .ok (.iconst 0, 1) := by decide +kernel
theorem dX2_clear_7 : decode cX2_clear 7 = .ok (.putfield 31, 3) := by decide +kernel
theorem dX2_clear_10 : decode cX2_clear 10 = .ok (.aload_n 0, 1) := by decide +kernel
theorem dX2_clear_11 : decode cX2_clear 11 = .ok (.iconst 0, 1) := by decide +kernel
theorem dX2_clear_12 : decode cX2_clear 12 = .ok (.putfield 34, 3) := by decide +kernel
theorem dX2_clear_15 : decode cX2_clear 15 = .ok (.aload_n 0, 1) := by decide +kernel
theorem dX2_clear_16 : decode cX2_clear 16 = .ok (.iconst 0, 1) := by decide +kernel
theorem dX2_clear_17 : decode cX2_clear 17 = .ok (.putfield 28, 3) := by decide +kernel
theorem dX2_clear_20 : decode cX2_clear 20 = .ok (.aload_n 0, 1) := by decide +kernel
theorem dX2_clear_21 : decode cX2_clear 21 = .ok (.iconst 0, 1) := by decide +kernel
theorem dX2_clear_22 : decode cX2_clear 22 = .ok (.putfield 37, 3) := by decide +kernel
theorem dX2_clear_25 : decode cX2_clear 25 = .ok (.return_, 1) := by decide +kernel
theorem dX2_add_0 : decode cX2_add 0 = .ok (.aload_n 0, 1) := by decide +kernel
theorem dX2_add_1 : decode cX2_add 1 = .ok (.getfield 9, 3) := by decide +kernel
theorem dX2_add_4 : decode cX2_add 4 = .ok (.aload_n 0, 1) := by decide +kernel
theorem dX2_add_5 : decode cX2_add 5 = .ok (.getfield 28, 3) := by decide +kernel
theorem dX2_add_8 : decode cX2_add 8 = .ok (.iload_n 1, 1) := by decide +kernel
theorem dX2_add_9 : decode cX2_add 9 = .ok (.iastore, 1) := by decide +kernel
theorem dX2_add_10 : decode cX2_add 10 = .ok (.aload_n 0, 1) := by decide +kernel
theorem dX2_add_11 : decode cX2_add 11 = .ok (.getfield 15, 3) := by decide +kernel
theorem dX2_add_14 : decode cX2_add 14 = .ok (.aload_n 0, 1) := by decide +kernel
theorem dX2_add_15 : decode cX2_add 15 = .ok (.getfield 28, 3) := by decide +kernel
theorem dX2_add_18 : decode cX2_add 18 = .ok (.iload_n 2, 1) := by decide +kernel
theorem dX2_add_19 : decode cX2_add 19 = .ok (.iastore, 1) := by decide +kernel
theorem dX2_add_20 : decode cX2_add 20 = .ok (.aload_n 0, 1) := by decide +kernel
theorem dX2_add_21 : decode cX2_add 21 = .ok (.getfield 18, 3) := by decide +kernel
theorem dX2_add_24 : decode cX2_add 24 = .ok (.aload_n 0, 1) := by decide +kernel
theorem dX2_add_25 : decode cX2_add 25 = .ok (.getfield 28, 3) := by decide +kernel
theorem dX2_add_28 : decode cX2_add 28 = .ok (.iload_n 3, 1) := by decide +kernel
theorem dX2_add_29 : decode cX2_add 29 = .ok (.iastore, 1) := by decide +kernel
theorem dX2_add_30 : decode cX2_add 30 = .ok (.aload_n 0, 1) := by decide +kernel
theorem dX2_add_31 : decode cX2_add 31 = .ok (.getfield 21, 3) := by decide +kernel
theorem dX2_add_34 : decode cX2_add 34 = .ok (.aload_n 0, 1) := by decide +kernel
theorem dX2_add_35 : decode cX2_add 35 = .ok (.getfield 28, 3) := by decide +kernel
theorem dX2_add_38 : decode cX2_add 38 = .ok (.iload 4, 2) := by decide +kernel
theorem dX2_add_40 : decode cX2_add 40 = .ok (.iastore, 1) := by decide +kernel
theorem dX2_add_41 : decode cX2_add 41 = .ok (.aload_n 0, 1) := by decide +kernel
theorem dX2_add_42 : decode cX2_add 42 = .ok (.dup, 1) := by decide +kernel
theorem dX2_add_43 : decode cX2_add 43 = .ok (.getfield 28, 3) := by decide +kernel
theorem dX2_add_46 : decode cX2_add 46 = .ok (.iconst 1, 1) := by decide +kernel
theorem dX2_add_47 : decode cX2_add 47 = .ok (.iadd, 1) := by decide +kernel
theorem dX2_add_48 : decode cX2_add 48 = .ok (.putfield 28, 3) := by decide +kernel
theorem dX2_add_51 : decode cX2_add 51 = .ok (.return_, 1) := by decide +kernel
theorem dX2_become_0 : decode cX2_become 0 = .ok (.aload_n 0, 1) := by decide +kernel
theorem dX2_become_1 : decode cX2_become 1 = .ok (.aload_n 1, 1) := by decide +kernel
theorem dX2_become_2 : decode cX2_become 2 = .ok (.getfield 24, 3) := by decide +kernel
theorem dX2_become_5 : decode cX2_become 5 = .ok (.putfield 24, 3) := by decide +kernel
theorem dX2_become_8 : decode cX2_become 8 = .ok (.aload_n 0, 1) := by decide +kernel
theorem dX2_become_9 : decode cX2_become 9 = .ok (.aload_n 1, 1) := by decide +kernel
theorem dX2_become_10 : decode cX2_become 10 = .ok (.getfield 31, 3) := by decide +kernel
theorem dX2_become_13 : decode cX2_become 13 = .ok (.putfield 31, 3) := by decide +kernel
theorem dX2_become_16 : decode cX2_become 16 = .ok (.aload_n 0, 1) := by decide +kernel
theorem dX2_become_17 : decode cX2_become 17 = .ok (.aload_n 1, 1) := by decide +kernel
theorem dX2_become_18 : decode cX2_become 18 = .ok (.getfield 34, 3) := by decide +kernel
theorem dX2_become_21 : decode cX2_become 21 = .ok (.putfield 34, 3) := by decide +kernel
theorem dX2_become_24 : decode cX2_become 24 = .ok (.aload_n 0, 1) := by decide +kernel
theorem dX2_become_25 : decode cX2_become 25 = .ok (.aload_n 1, 1) := by decide +kernel
theorem dX2_become_26 : decode cX2_become 26 = .ok (.getfield 28, 3) := by decide +kernel
theorem dX2_become_29 : decode cX2_become 29 = .ok (.putfield 28, 3) := by decide +kernel
theorem dX2_become_32 : decode cX2_become 32 = .ok (.aload_n 0, 1) := by decide +kernel
theorem dX2_become_33 : decode cX2_become 33 = .ok (.aload_n 1, 1) := by decide +kernel
theorem dX2_become_34 : decode cX2_become 34 = .ok (.getfield 37, 3) := by decide +kernel
theorem dX2_become_37 : decode cX2_become 37 = .ok (.putfield 37, 3) := by decide +kernel
theorem dX2_become_40 : decode cX2_become 40 = .ok (.aload_n 1, 1) := by decide +kernel
theorem dX2_become_41 : decode cX2_become 41 = .ok (.getfield 9, 3) := by decide +kernel
theorem dX2_become_44 : decode cX2_become 44 = .ok (.iconst 0, 1) := by decide +kernel
theorem dX2_become_45 : decode cX2_become 45 = .ok (.aload_n 0, 1) := by decide +kernel
theorem dX2_become_46 : decode cX2_become 46 = .ok (.getfield 9, 3) := by decide +kernel
theorem dX2_become_49 : decode cX2_become 49 = .ok (.iconst 0, 1) := by decide +kernel
theorem dX2_become_50 : decode cX2_become 50 = .ok (.bipush 6, 2) := by decide +kernel
theorem dX2_become_52 : decode cX2_become 52 = .ok (.invokestatic 40, 3) := by decide +kernel
theorem dX2_become_55 : decode cX2_become 55 = .ok (.aload_n 1, 1) := by decide +kernel
theorem dX2_become_56 : decode cX2_become 56 = .ok (.getfield 15, 3) := by decide +kernel
theorem dX2_become_59 : decode cX2_become 59 = .ok (.iconst 0, 1) := by decide +kernel
theorem dX2_become_60 : decode cX2_become 60 = .ok (.aload_n 0, 1) := by decide +kernel
theorem dX2_become_61 : decode cX2_become 61 = .ok (.getfield 15, 3) := by decide +kernel
theorem dX2_become_64 : decode cX2_become 64 = .ok (.iconst 0, 1) := by decide +kernel
theorem dX2_become_65 : decode cX2_become 65 = .ok (.bipush 6, 2) := by decide +kernel
theorem dX2_become_67 : decode cX2_become 67 = .ok (.invokestatic 40, 3) := by decide +kernel
theorem dX2_become_70 : decode cX2_become 70 = .ok (.aload_n 1, 1) := by decide +kernel
theorem dX2_become_71 : decode cX2_become 71 = .ok (.getfield 18, 3) := by decide +kernel
theorem dX2_become_74 : decode cX2_become 74 = .ok (.iconst 0, 1) := by decide +kernel
theorem dX2_become_75 : decode cX2_become 75 = .ok (.aload_n 0, 1) := by decide +kernel
theorem dX2_become_76 : decode cX2_become 76 = .ok (.getfield 18, 3) := by decide +kernel
theorem dX2_become_79 : decode cX2_become 79 = .ok (.iconst 0, 1) := by decide +kernel
theorem dX2_become_80 : decode cX2_become 80 = .ok (.bipush 6, 2) := by decide +kernel
theorem dX2_become_82 : decode cX2_become 82 = .ok (.invokestatic 40, 3) := by decide +kernel
theorem dX2_become_85 : decode cX2_become 85 = .ok (.aload_n 1, 1) := by decide +kernel
theorem dX2_become_86 : decode cX2_become 86 = .ok (.getfield 21, 3) := by decide +kernel
theorem dX2_become_89 : decode cX2_become 89 = .ok (.iconst 0, 1) := by decide +kernel
theorem dX2_become_90 : decode cX2_become 90 = .ok (.aload_n 0, 1) := by decide +kernel
theorem dX2_become_91 : decode cX2_become 91 = .ok (.getfield 21, 3) := by decide +kernel
theorem dX2_become_94 : decode cX2_become 94 = .ok (.iconst 0, 1) := by decide +kernel
theorem dX2_become_95 : decode cX2_become 95 = .ok (.bipush 6, 2) := by decide +kernel
theorem dX2_become_97 : decode cX2_become 97 = .ok (.invokestatic 40, 3) := by decide +kernel
theorem dX2_become_100 : decode cX2_become 100 = .ok (.return_, 1) := by decide +kernel
theorem dX2_everyone_0 : decode cX2_everyone 0 = .ok (.iconst 1, 1) := by decide +kernel
theorem dX2_everyone_1 : decode cX2_everyone 1 = .ok (.aload_n 0, 1) := by decide +kernel
theorem dX2_everyone_2 : decode cX2_everyone 2 = .ok (.getfield 24, 3) := by decide +kernel
theorem dX2_everyone_5 : decode cX2_everyone 5 = .ok (.ishl, 1) := by decide +kernel
theorem dX2_everyone_6 : decode cX2_everyone 6 = .ok (.iconst 1, 1) := by decide +kernel
theorem dX2_everyone_7 : decode cX2_everyone 7 = .ok (.isub, 1) := by decide +kernel
theorem dX2_everyone_8 : decode cX2_everyone 8 = .ok (.ireturn, 1) := by decide +kernel
set_option maxRecDepth 20000 in
theorem ggX2_isBribed_X6_isIn : GoodIn wsX2_isBribed wsX6_isIn := goodIn_r _ [4] (by decide +kernel) (by decide +kernel)
set_option maxRecDepth 20000 in
theorem gX2_isBribed_X6_isIn_n46 : GoodIn wsX2_isBribed (wsX6_isIn) := ggX2_isBribed_X6_isIn
theorem dX2_isBribed_0 : decode cX2_isBribed 0 = .ok (.aload_n 0, 1) := by decide +kernel
theorem dX2_isBribed_1 : decode cX2_isBribed 1 = .ok (.getfield 37, 3) := by decide +kernel
theorem dX2_isBribed_4 : decode cX2_isBribed 4 = .ok (.iload_n 1, 1) := by decide +kernel
theorem dX2_isBribed_5 : decode cX2_isBribed 5 = .ok (.invokestatic 46, 3) := by decide +kernel
theorem dX2_isBribed_8 : decode cX2_isBribed 8 = .ok (.ireturn, 1) := by decide +kernel
theorem dX2_worksOn_0 : decode cX2_worksOn 0 = .ok (.aload_n 0, 1) := by decide +kernel
theorem dX2_worksOn_1 : decode cX2_worksOn 1 = .ok (.getfield 9, 3) := by decide +kernel
theorem dX2_worksOn_4 : decode cX2_worksOn 4 = .ok (.iload_n 1, 1) := by decide +kernel
theorem dX2_worksOn_5 : decode cX2_worksOn 5 = .ok (.iaload, 1) := by decide +kernel
theorem dX2_worksOn_6 : decode cX2_worksOn 6 = .ok (.iconst 5, 1) := by decide +kernel
theorem dX2_worksOn_7 : decode cX2_worksOn 7 = .ok (.if_icmp .ne 5, 3) := by decide +kernel
theorem dX2_worksOn_10 : decode cX2_worksOn 10 = .ok (.iconst 1, 1) := by decide +kernel
theorem dX2_worksOn_11 : decode cX2_worksOn 11 = .ok (.ireturn, 1) := by decide +kernel
theorem dX2_worksOn_12 : decode cX2_worksOn 12 = .ok (.aload_n 0, 1) := by decide +kernel
theorem dX2_worksOn_13 : decode cX2_worksOn 13 = .ok (.getfield 9, 3) := by decide +kernel
theorem dX2_worksOn_16 : decode cX2_worksOn 16 = .ok (.iload_n 1, 1) := by decide +kernel
theorem dX2_worksOn_17 : decode cX2_worksOn 17 = .ok (.iaload, 1) := by decide +kernel
theorem dX2_worksOn_18 : decode cX2_worksOn 18 = .ok (.iconst 2, 1) := by decide +kernel
theorem dX2_worksOn_19 : decode cX2_worksOn 19 = .ok (.if_icmp .ne 16, 3) := by decide +kernel
theorem dX2_worksOn_22 : decode cX2_worksOn 22 = .ok (.iload_n 2, 1) := by decide +kernel
theorem dX2_worksOn_23 : decode cX2_worksOn 23 = .ok (.bipush 7, 2) := by decide +kernel
theorem dX2_worksOn_25 : decode cX2_worksOn 25 = .ok (.irem, 1) := by decide +kernel
theorem dX2_worksOn_26 : decode cX2_worksOn 26 = .ok (.aload_n 0, 1) := by decide +kernel
theorem dX2_worksOn_27 : decode cX2_worksOn 27 = .ok (.getfield 31, 3) := by decide +kernel
theorem dX2_worksOn_30 : decode cX2_worksOn 30 = .ok (.if_icmp .ne 5, 3) := by decide +kernel
theorem dX2_worksOn_33 : decode cX2_worksOn 33 = .ok (.iconst 0, 1) := by decide +kernel
theorem dX2_worksOn_34 : decode cX2_worksOn 34 = .ok (.ireturn, 1) := by decide +kernel
theorem dX2_worksOn_35 : decode cX2_worksOn 35 = .ok (.aload_n 0, 1) := by decide +kernel
theorem dX2_worksOn_36 : decode cX2_worksOn 36 = .ok (.getfield 18, 3) := by decide +kernel
theorem dX2_worksOn_39 : decode cX2_worksOn 39 = .ok (.iload_n 1, 1) := by decide +kernel
theorem dX2_worksOn_40 : decode cX2_worksOn 40 = .ok (.iaload, 1) := by decide +kernel
theorem dX2_worksOn_41 : decode cX2_worksOn 41 = .ok (.ifCond .le 20, 3) := by decide +kernel
theorem dX2_worksOn_44 : decode cX2_worksOn 44 = .ok (.iload_n 2, 1) := by decide +kernel
theorem dX2_worksOn_45 : decode cX2_worksOn 45 = .ok (.aload_n 0, 1) := by decide +kernel
theorem dX2_worksOn_46 : decode cX2_worksOn 46 = .ok (.getfield 18, 3) := by decide +kernel
theorem dX2_worksOn_49 : decode cX2_worksOn 49 = .ok (.iload_n 1, 1) := by decide +kernel
theorem dX2_worksOn_50 : decode cX2_worksOn 50 = .ok (.iaload, 1) := by decide +kernel
theorem dX2_worksOn_51 : decode cX2_worksOn 51 = .ok (.irem, 1) := by decide +kernel
theorem dX2_worksOn_52 : decode cX2_worksOn 52 = .ok (.aload_n 0, 1) := by decide +kernel
theorem dX2_worksOn_53 : decode cX2_worksOn 53 = .ok (.getfield 21, 3) := by decide +kernel
theorem dX2_worksOn_56 : decode cX2_worksOn 56 = .ok (.iload_n 1, 1) := by decide +kernel
theorem dX2_worksOn_57 : decode cX2_worksOn 57 = .ok (.iaload, 1) := by decide +kernel
theorem dX2_worksOn_58 : decode cX2_worksOn 58 = .ok (.if_icmp .eq 7, 3) := by decide +kernel
theorem dX2_worksOn_61 : decode cX2_worksOn 61 = .ok (.iconst 1, 1) := by decide +kernel
theorem dX2_worksOn_62 : decode cX2_worksOn 62 = .ok (.goto 4, 3) := by decide +kernel
theorem dX2_worksOn_65 : decode cX2_worksOn 65 = .ok (.iconst 0, 1) := by decide +kernel
theorem dX2_worksOn_66 : decode cX2_worksOn 66 = .ok (.ireturn, 1) := by decide +kernel
set_option maxRecDepth 20000 in
theorem ggX2_workersOn_X2_worksOn : GoodIn wsX2_workersOn wsX2_worksOn := goodIn_r _ [6, 7, 8, 9, 10, 11, 12, 13, 14, 15, 16, 17, 18, 19] (by decide +kernel) (by decide +kernel)
set_option maxRecDepth 20000 in
theorem gX2_workersOn_X2_worksOn : GoodIn wsX2_workersOn (wsV RX2 50 RX2 yX2_worksOn wsX2_worksOn) := goodIn_app (goodIn_of _ (by decide +kernel)) ggX2_workersOn_X2_worksOn
theorem dX2_workersOn_0 : decode cX2_workersOn 0 = .ok (.iconst 0, 1) := by decide +kernel
theorem dX2_workersOn_1 : decode cX2_workersOn 1 = .ok (.istore_n 2, 1) := by decide +kernel
theorem dX2_workersOn_2 : decode cX2_workersOn 2 = .ok (.iconst 0, 1) := by decide +kernel
theorem dX2_workersOn_3 : decode cX2_workersOn 3 = .ok (.istore_n 3, 1) := by decide +kernel
theorem dX2_workersOn_4 : decode cX2_workersOn 4 = .ok (.iload_n 3, 1) := by decide +kernel
theorem dX2_workersOn_5 : decode cX2_workersOn 5 = .ok (.aload_n 0, 1) := by decide +kernel
theorem dX2_workersOn_6 : decode cX2_workersOn 6 = .ok (.getfield 28, 3) := by decide +kernel
theorem dX2_workersOn_9 : decode cX2_workersOn 9 = .ok (.if_icmp .ge 24, 3) := by decide +kernel
theorem dX2_workersOn_12 : decode cX2_workersOn 12 = .ok (.aload_n 0, 1) := by decide +kernel
theorem dX2_workersOn_13 : decode cX2_workersOn 13 = .ok (.iload_n 3, 1) := by decide +kernel
theorem dX2_workersOn_14 : decode cX2_workersOn 14 = .ok (.iload_n 1, 1) := by decide +kernel
theorem dX2_workersOn_15 : decode cX2_workersOn 15 = .ok (.invokevirtual 50, 3) := by decide +kernel
theorem dX2_workersOn_18 : decode cX2_workersOn 18 = .ok (.ifCond .eq 9, 3) := by decide +kernel
theorem dX2_workersOn_21 : decode cX2_workersOn 21 = .ok (.iload_n 2, 1) := by decide +kernel
theorem dX2_workersOn_22 : decode cX2_workersOn 22 = .ok (.iconst 1, 1) := by decide +kernel
theorem dX2_workersOn_23 : decode cX2_workersOn 23 = .ok (.iload_n 3, 1) := by decide +kernel
theorem dX2_workersOn_24 : decode cX2_workersOn 24 = .ok (.ishl, 1) := by decide +kernel
theorem dX2_workersOn_25 : decode cX2_workersOn 25 = .ok (.ior, 1) := by decide +kernel
theorem dX2_workersOn_26 : decode cX2_workersOn 26 = .ok (.istore_n 2, 1) := by decide +kernel
theorem dX2_workersOn_27 : decode cX2_workersOn 27 = .ok (.iinc 3 1, 3) := by decide +kernel
theorem dX2_workersOn_30 : decode cX2_workersOn 30 = .ok (.goto (-26), 3) := by decide +kernel
theorem dX2_workersOn_33 : decode cX2_workersOn 33 = .ok (.iload_n 2, 1) := by decide +kernel
theorem dX2_workersOn_34 : decode cX2_workersOn 34 = .ok (.ireturn, 1) := by decide +kernel
set_option maxRecDepth 20000 in
theorem ggX2_leftByOne_X2_isBribed : GoodIn wsX2_leftByOne wsX2_isBribed := goodIn_r _ [7, 8, 9, 10, 11, 17, 18, 19, 20, 21, 22, 23, 24, 25] (by decide +kernel) (by decide +kernel)
set_option maxRecDepth 20000 in
theorem gX2_leftByOne_X2_isBribed : GoodIn wsX2_leftByOne (wsV RX2 53 RX2 yX2_isBribed wsX2_isBribed) := goodIn_app (goodIn_of _ (by decide +kernel)) ggX2_leftByOne_X2_isBribed
set_option maxRecDepth 20000 in
theorem ggX2_leftByOne_X2_everyone : GoodIn wsX2_leftByOne wsX2_everyone := goodIn_r _ [15, 16, 17, 18, 19, 20, 21, 22, 23, 24, 25] (by decide +kernel) (by decide +kernel)
set_option maxRecDepth 20000 in
theorem gX2_leftByOne_X2_everyone : GoodIn wsX2_leftByOne (wsV RX2 57 RX2 yX2_everyone wsX2_everyone) := goodIn_app (goodIn_of _ (by decide +kernel)) ggX2_leftByOne_X2_everyone
theorem dX2_leftByOne_0 : decode cX2_leftByOne 0 = .ok (.aload_n 0, 1) := by decide +kernel
theorem dX2_leftByOne_1 : decode cX2_leftByOne 1 = .ok (.iload_n 1, 1) := by decide +kernel
theorem dX2_leftByOne_2 : decode cX2_leftByOne 2 = .ok (.invokevirtual 53, 3) := by decide +kernel
theorem dX2_leftByOne_5 : decode cX2_leftByOne 5 = .ok (.istore_n 2, 1) := by decide +kernel
theorem dX2_leftByOne_6 : decode cX2_leftByOne 6 = .ok (.aload_n 0, 1) := by decide +kernel
theorem dX2_leftByOne_7 : decode cX2_leftByOne 7 = .ok (.invokevirtual 57, 3) := by decide +kernel
theorem dX2_leftByOne_10 : decode cX2_leftByOne 10 = .ok (.aload_n 0, 1) := by decide +kernel
theorem dX2_leftByOne_11 : decode cX2_leftByOne 11 = .ok (.getfield 15, 3) := by decide +kernel
theorem dX2_leftByOne_14 : decode cX2_leftByOne 14 = .ok (.iload_n 1, 1) := by decide +kernel
theorem dX2_leftByOne_15 : decode cX2_leftByOne 15 = .ok (.iaload, 1) := by decide +kernel
theorem dX2_leftByOne_16 : decode cX2_leftByOne 16 = .ok (.iconst (-1), 1) := by decide +kernel
theorem dX2_leftByOne_17 : decode cX2_leftByOne 17 = .ok (.ixor, 1) := by decide +kernel
theorem dX2_leftByOne_18 : decode cX2_leftByOne 18 = .ok (.iand, 1) := by decide +kernel
theorem dX2_leftByOne_19 : decode cX2_leftByOne 19 = .ok (.istore_n 3, 1) := by decide +kernel
theorem dX2_leftByOne_20 : decode cX2_leftByOne 20 = .ok (.aload_n 0, 1) := by decide +kernel
theorem dX2_leftByOne_21 : decode cX2_leftByOne 21 = .ok (.getfield 9, 3) := by decide +kernel
theorem dX2_leftByOne_24 : decode cX2_leftByOne 24 = .ok (.iload_n 1, 1) := by decide +kernel
theorem dX2_leftByOne_25 : decode cX2_leftByOne 25 = .ok (.iaload, 1) := by decide +kernel
theorem dX2_leftByOne_26 : decode cX2_leftByOne 26 = .ok (.tableswitch 54 3 5 #[26, 41, 41], 26) := by decide +kernel
theorem dX2_leftByOne_52 : decode cX2_leftByOne 52 = .ok (.iload_n 2, 1) := by decide +kernel
theorem dX2_leftByOne_53 : decode cX2_leftByOne 53 = .ok (.ifCond .eq 7, 3) := by decide +kernel
theorem dX2_leftByOne_56 : decode cX2_leftByOne 56 = .ok (.iload_n 3, 1) := by decide +kernel
theorem dX2_leftByOne_57 : decode cX2_leftByOne 57 = .ok (.goto 9, 3) := by decide +kernel
theorem dX2_leftByOne_60 : decode cX2_leftByOne 60 = .ok (.aload_n 0, 1) := by decide +kernel
theorem dX2_leftByOne_61 : decode cX2_leftByOne 61 = .ok (.getfield 15, 3) := by decide +kernel
theorem dX2_leftByOne_64 : decode cX2_leftByOne 64 = .ok (.iload_n 1, 1) := by decide +kernel
theorem dX2_leftByOne_65 : decode cX2_leftByOne 65 = .ok (.iaload, 1) := by decide +kernel
theorem dX2_leftByOne_66 : decode cX2_leftByOne 66 = .ok (.ireturn, 1) := by decide +kernel
theorem dX2_leftByOne_67 : decode cX2_leftByOne 67 = .ok (.iload_n 2, 1) := by decide +kernel
theorem dX2_leftByOne_68 : decode cX2_leftByOne 68 = .ok (.ifCond .eq 10, 3) := by decide +kernel
theorem dX2_leftByOne_71 : decode cX2_leftByOne 71 = .ok (.aload_n 0, 1) := by decide +kernel
theorem dX2_leftByOne_72 : decode cX2_leftByOne 72 = .ok (.invokevirtual 57, 3) := by decide +kernel
theorem dX2_leftByOne_75 : decode cX2_leftByOne 75 = .ok (.goto 4, 3) := by decide +kernel
theorem dX2_leftByOne_78 : decode cX2_leftByOne 78 = .ok (.iload_n 3, 1) := by decide +kernel
theorem dX2_leftByOne_79 : decode cX2_leftByOne 79 = .ok (.ireturn, 1) := by decide +kernel
theorem dX2_leftByOne_80 : decode cX2_leftByOne 80 = .ok (.iload_n 2, 1) := by decide +kernel
theorem dX2_leftByOne_81 : decode cX2_leftByOne 81 = .ok (.ifCond .eq 10, 3) := by decide +kernel
theorem dX2_leftByOne_84 : decode cX2_leftByOne 84 = .ok (.aload_n 0, 1) := by decide +kernel
theorem dX2_leftByOne_85 : decode cX2_leftByOne 85 = .ok (.invokevirtual 57, 3) := by decide +kernel
theorem dX2_leftByOne_88 : decode cX2_leftByOne 88 = .ok (.goto 9, 3) := by decide +kernel
theorem dX2_leftByOne_91 : decode cX2_leftByOne 91 = .ok (.aload_n 0, 1) := by decide +kernel
theorem dX2_leftByOne_92 : decode cX2_leftByOne 92 = .ok (.getfield 15, 3) := by decide +kernel
theorem dX2_leftByOne_95 : decode cX2_leftByOne 95 = .ok (.iload_n 1, 1) := by decide +kernel
theorem dX2_leftByOne_96 : decode cX2_leftByOne 96 = .ok (.iaload, 1) := by decide +kernel
theorem dX2_leftByOne_97 : decode cX2_leftByOne 97 = .ok (.ireturn, 1) := by decide +kernel
set_option maxRecDepth 20000 in
theorem ggX2_leftBy_X2_everyone : GoodIn wsX2_leftBy wsX2_everyone := goodIn_r _ [6, 7, 22, 23, 24, 25, 26, 27, 28, 29, 30] (by decide +kernel) (by decide +kernel)
set_option maxRecDepth 20000 in
theorem gX2_leftBy_X2_everyone : GoodIn wsX2_leftBy (wsV RX2 57 RX2 yX2_everyone wsX2_everyone) := goodIn_app (goodIn_of _ (by decide +kernel)) ggX2_leftBy_X2_everyone
set_option maxRecDepth 20000 in
theorem ggX2_leftBy_X6_isIn : GoodIn wsX2_leftBy wsX6_isIn := goodIn_r _ [10] (by decide +kernel) (by decide +kernel)
set_option maxRecDepth 20000 in
theorem gX2_leftBy_X6_isIn_n46 : GoodIn wsX2_leftBy (wsX6_isIn) := ggX2_leftBy_X6_isIn
set_option maxRecDepth 20000 in
theorem ggX2_leftBy_X2_leftByOne : GoodIn wsX2_leftBy wsX2_leftByOne := goodIn_r _ [14, 15, 16, 17, 18, 19, 5, 20, 21, 8, 9, 10, 2, 3, 4, 6, 7, 22, 23, 24, 25, 26, 27, 28, 29, 30] (by decide +kernel) (by decide +kernel)
set_option maxRecDepth 20000 in
theorem gX2_leftBy_X2_leftByOne : GoodIn wsX2_leftBy (wsV RX2 61 RX2 yX2_leftByOne wsX2_leftByOne) := goodIn_app (goodIn_of _ (by decide +kernel)) ggX2_leftBy_X2_leftByOne
theorem dX2_leftBy_0 : decode cX2_leftBy 0 = .ok (.aload_n 0, 1) := by decide +kernel
theorem dX2_leftBy_1 : decode cX2_leftBy 1 = .ok (.invokevirtual 57, 3) := by decide +kernel
theorem dX2_leftBy_4 : decode cX2_leftBy 4 = .ok (.istore_n 2, 1) := by decide +kernel
theorem dX2_leftBy_5 : decode cX2_leftBy 5 = .ok (.iconst 0, 1) := by decide +kernel
theorem dX2_leftBy_6 : decode cX2_leftBy 6 = .ok (.istore_n 3, 1) := by decide +kernel
theorem dX2_leftBy_7 : decode cX2_leftBy 7 = .ok (.iload_n 3, 1) := by decide +kernel
theorem dX2_leftBy_8 : decode cX2_leftBy 8 = .ok (.aload_n 0, 1) := by decide +kernel
theorem dX2_leftBy_9 : decode cX2_leftBy 9 = .ok (.getfield 28, 3) := by decide +kernel
theorem dX2_leftBy_12 : decode cX2_leftBy 12 = .ok (.if_icmp .ge 25, 3) := by decide +kernel
theorem dX2_leftBy_15 : decode cX2_leftBy 15 = .ok (.iload_n 1, 1) := by decide +kernel
theorem dX2_leftBy_16 : decode cX2_leftBy 16 = .ok (.iload_n 3, 1) := by decide +kernel
theorem dX2_leftBy_17 : decode cX2_leftBy 17 = .ok (.invokestatic 46, 3) := by decide +kernel
theorem dX2_leftBy_20 : decode cX2_leftBy 20 = .ok (.ifCond .eq 11, 3) := by decide +kernel
theorem dX2_leftBy_23 : decode cX2_leftBy 23 = .ok (.iload_n 2, 1) := by decide +kernel
theorem dX2_leftBy_24 : decode cX2_leftBy 24 = .ok (.aload_n 0, 1) := by decide +kernel
theorem dX2_leftBy_25 : decode cX2_leftBy 25 = .ok (.iload_n 3, 1) := by decide +kernel
theorem dX2_leftBy_26 : decode cX2_leftBy 26 = .ok (.invokevirtual 61, 3) := by decide +kernel
theorem dX2_leftBy_29 : decode cX2_leftBy 29 = .ok (.iand, 1) := by decide +kernel
theorem dX2_leftBy_30 : decode cX2_leftBy 30 = .ok (.istore_n 2, 1) := by decide +kernel
theorem dX2_leftBy_31 : decode cX2_leftBy 31 = .ok (.iinc 3 1, 3) := by decide +kernel
theorem dX2_leftBy_34 : decode cX2_leftBy 34 = .ok (.goto (-27), 3) := by decide +kernel
theorem dX2_leftBy_37 : decode cX2_leftBy 37 = .ok (.iload_n 2, 1) := by decide +kernel
theorem dX2_leftBy_38 : decode cX2_leftBy 38 = .ok (.ireturn, 1) := by decide +kernel
set_option maxRecDepth 20000 in
theorem ggX2_leftOn_X2_workersOn : GoodIn wsX2_leftOn wsX2_workersOn := goodIn_r _ [5, 6, 7, 8, 9, 4, 10, 11, 12, 13, 14, 37, 38, 39, 40, 41, 42, 43, 44, 45] (by decide +kernel) (by decide +kernel)
set_option maxRecDepth 20000 in
theorem gX2_leftOn_X2_workersOn : GoodIn wsX2_leftOn (wsV RX2 65 RX2 yX2_workersOn wsX2_workersOn) := goodIn_app (goodIn_of _ (by decide +kernel)) ggX2_leftOn_X2_workersOn
set_option maxRecDepth 20000 in
theorem ggX2_leftOn_X2_leftBy : GoodIn wsX2_leftOn wsX2_leftBy := goodIn_r _ [18, 6, 19, 20, 21, 4, 22, 23, 24, 25, 26, 27, 28, 29, 30, 31, 11, 32, 33, 34, 35, 36, 37, 38, 39, 40, 41, 42, 43, 44, 45] (by decide +kernel) (by decide +kernel)
set_option maxRecDepth 20000 in
theorem gX2_leftOn_X2_leftBy : GoodIn wsX2_leftOn (wsV RX2 68 RX2 yX2_leftBy wsX2_leftBy) := goodIn_app (goodIn_of _ (by decide +kernel)) ggX2_leftOn_X2_leftBy
theorem dX2_leftOn_0 : decode cX2_leftOn 0 = .ok (.aload_n 0, 1) := by decide +kernel
theorem dX2_leftOn_1 : decode cX2_leftOn 1 = .ok (.aload_n 0, 1) := by decide +kernel
theorem dX2_leftOn_2 : decode cX2_leftOn 2 = .ok (.iload_n 1, 1) := by decide +kernel
theorem dX2_leftOn_3 : decode cX2_leftOn 3 = .ok (.invokevirtual 65, 3) := by decide +kernel
theorem dX2_leftOn_6 : decode cX2_leftOn 6 = .ok (.invokevirtual 68, 3) := by decide +kernel
theorem dX2_leftOn_9 : decode cX2_leftOn 9 = .ok (.ireturn, 1) := by decide +kernel
set_option maxRecDepth 20000 in
theorem ggX2_fewestThatLeave_J6_bitCount_0f7a4 : GoodIn wsX2_fewestThatLeave wsJ6_bitCount_0f7a4 := goodIn_r _ [5, 6, 7, 8] (by decide +kernel) (by decide +kernel)
set_option maxRecDepth 20000 in
theorem gX2_fewestThatLeave_J6_bitCount_0f7a4 : GoodIn wsX2_fewestThatLeave (va_wsS RX2 72 yJ6_bitCount_0f7a4 wsJ6_bitCount_0f7a4) := goodIn_app (goodIn_of _ (by decide +kernel)) ggX2_fewestThatLeave_J6_bitCount_0f7a4
set_option maxRecDepth 20000 in
theorem ggX2_fewestThatLeave_X2_leftBy : GoodIn wsX2_fewestThatLeave wsX2_leftBy := goodIn_r _ [13, 14, 15, 16, 17, 12, 18, 19, 20, 21, 22, 23, 24, 25, 26, 27, 28, 29, 30, 31, 32, 33, 34, 35, 36, 37, 38, 39, 40, 41, 42] (by decide +kernel) (by decide +kernel)
set_option maxRecDepth 20000 in
theorem gX2_fewestThatLeave_X2_leftBy : GoodIn wsX2_fewestThatLeave (wsV RX2 68 RX2 yX2_leftBy wsX2_leftBy) := goodIn_app (goodIn_of _ (by decide +kernel)) ggX2_fewestThatLeave_X2_leftBy
theorem dX2_fewestThatLeave_0 : decode cX2_fewestThatLeave 0 = .ok (.ldc 71, 2) := by decide +kernel
theorem dX2_fewestThatLeave_2 : decode cX2_fewestThatLeave 2 = .ok (.istore_n 3, 1) := by decide +kernel
theorem dX2_fewestThatLeave_3 : decode cX2_fewestThatLeave 3 = .ok (.iconst 0, 1) := by decide +kernel
theorem dX2_fewestThatLeave_4 : decode cX2_fewestThatLeave 4 = .ok (.istore 4, 2) := by decide +kernel
theorem dX2_fewestThatLeave_6 : decode cX2_fewestThatLeave 6 = .ok (.iload 4, 2) := by decide +kernel
theorem dX2_fewestThatLeave_8 : decode cX2_fewestThatLeave 8 = .ok (.iload_n 1, 1) := by decide +kernel
theorem dX2_fewestThatLeave_9 : decode cX2_fewestThatLeave 9 = .ok (.if_icmp .gt 61, 3) := by decide +kernel
theorem dX2_fewestThatLeave_12 : decode cX2_fewestThatLeave 12 = .ok (.iload_n 3, 1) := by decide +kernel
theorem dX2_fewestThatLeave_13 : decode cX2_fewestThatLeave 13 = .ok (.ldc 71, 2) := by decide +kernel
theorem dX2_fewestThatLeave_15 : decode cX2_fewestThatLeave 15 = .ok (.if_icmp .eq 15, 3) := by decide +kernel
theorem dX2_fewestThatLeave_18 : decode cX2_fewestThatLeave 18 = .ok (.iload 4, 2) := by decide +kernel
theorem dX2_fewestThatLeave_20 : decode cX2_fewestThatLeave 20 = .ok (.invokestatic 72, 3) := by decide +kernel
theorem dX2_fewestThatLeave_23 : decode cX2_fewestThatLeave 23 = .ok (.iload_n 3, 1) := by decide +kernel
theorem dX2_fewestThatLeave_24 : decode cX2_fewestThatLeave 24 = .ok (.invokestatic 72, 3) := by decide +kernel
theorem dX2_fewestThatLeave_27 : decode cX2_fewestThatLeave 27 = .ok (.if_icmp .ge 7, 3) := by decide +kernel
theorem dX2_fewestThatLeave_30 : decode cX2_fewestThatLeave 30 = .ok (.iconst 1, 1) := by decide +kernel
theorem dX2_fewestThatLeave_31 : decode cX2_fewestThatLeave 31 = .ok (.goto 4, 3) := by decide +kernel
theorem dX2_fewestThatLeave_34 : decode cX2_fewestThatLeave 34 = .ok (.iconst 0, 1) := by decide +kernel
theorem dX2_fewestThatLeave_35 : decode cX2_fewestThatLeave 35 = .ok (.istore 5, 2) := by decide +kernel
theorem dX2_fewestThatLeave_37 : decode cX2_fewestThatLeave 37 = .ok (.iload 4, 2) := by decide +kernel
theorem dX2_fewestThatLeave_39 : decode cX2_fewestThatLeave 39 = .ok (.iload_n 1, 1) := by decide +kernel
theorem dX2_fewestThatLeave_40 : decode cX2_fewestThatLeave 40 = .ok (.iconst (-1), 1) := by decide +kernel
theorem dX2_fewestThatLeave_41 : decode cX2_fewestThatLeave 41 = .ok (.ixor, 1) := by decide +kernel
theorem dX2_fewestThatLeave_42 : decode cX2_fewestThatLeave 42 = .ok (.iand, 1) := by decide +kernel
theorem dX2_fewestThatLeave_43 : decode cX2_fewestThatLeave 43 = .ok (.ifCond .ne 21, 3) := by decide +kernel
theorem dX2_fewestThatLeave_46 : decode cX2_fewestThatLeave 46 = .ok (.iload 5, 2) := by decide +kernel
theorem dX2_fewestThatLeave_48 : decode cX2_fewestThatLeave 48 = .ok (.ifCond .eq 16, 3) := by decide +kernel
theorem dX2_fewestThatLeave_51 : decode cX2_fewestThatLeave 51 = .ok (.aload_n 0, 1) := by decide +kernel
theorem dX2_fewestThatLeave_52 : decode cX2_fewestThatLeave 52 = .ok (.iload 4, 2) := by decide +kernel
theorem dX2_fewestThatLeave_54 : decode cX2_fewestThatLeave 54 = .ok (.invokevirtual 68, 3) := by decide +kernel
theorem dX2_fewestThatLeave_57 : decode cX2_fewestThatLeave 57 = .ok (.iload_n 2, 1) := by decide +kernel
theorem dX2_fewestThatLeave_58 : decode cX2_fewestThatLeave 58 = .ok (.if_icmp .ne 6, 3) := by decide +kernel
theorem dX2_fewestThatLeave_61 : decode cX2_fewestThatLeave 61 = .ok (.iload 4, 2) := by decide +kernel
theorem dX2_fewestThatLeave_63 : decode cX2_fewestThatLeave 63 = .ok (.istore_n 3, 1) := by decide +kernel
theorem dX2_fewestThatLeave_64 : decode cX2_fewestThatLeave 64 = .ok (.iinc 4 1, 3) := by decide +kernel
theorem dX2_fewestThatLeave_67 : decode cX2_fewestThatLeave 67 = .ok (.goto (-61), 3) := by decide +kernel
theorem dX2_fewestThatLeave_70 : decode cX2_fewestThatLeave 70 = .ok (.iload_n 3, 1) := by decide +kernel
theorem dX2_fewestThatLeave_71 : decode cX2_fewestThatLeave 71 = .ok (.ireturn, 1) := by decide +kernel
set_option maxRecDepth 20000 in
theorem ggX2_tenthsSure_X2_leftBy : GoodIn wsX2_tenthsSure wsX2_leftBy := goodIn_r _ [6, 7, 8, 9, 10, 5, 11, 12, 13, 14, 15, 16, 17, 18, 19, 20, 21, 22, 23, 24, 25, 26, 44, 45, 46, 47, 48, 49, 50, 51, 52] (by decide +kernel) (by decide +kernel)
set_option maxRecDepth 20000 in
theorem gX2_tenthsSure_X2_leftBy : GoodIn wsX2_tenthsSure (wsV RX2 68 RX2 yX2_leftBy wsX2_leftBy) := goodIn_app (goodIn_of _ (by decide +kernel)) ggX2_tenthsSure_X2_leftBy
set_option maxRecDepth 20000 in
theorem ggX2_tenthsSure_X6_onlyOne : GoodIn wsX2_tenthsSure wsX6_onlyOne := goodIn_r _ [28, 29, 30, 31, 32, 33, 34, 35, 36, 37, 38, 39, 40] (by decide +kernel) (by decide +kernel)
set_option maxRecDepth 20000 in
theorem gX2_tenthsSure_X6_onlyOne_n77 : GoodIn wsX2_tenthsSure (wsX6_onlyOne) := ggX2_tenthsSure_X6_onlyOne
set_option maxRecDepth 20000 in
theorem ggX2_tenthsSure_J6_bitCount_0f7a4 : GoodIn wsX2_tenthsSure wsJ6_bitCount_0f7a4 := goodIn_r _ [33, 34, 35, 36] (by decide +kernel) (by decide +kernel)
set_option maxRecDepth 20000 in
theorem gX2_tenthsSure_J6_bitCount_0f7a4 : GoodIn wsX2_tenthsSure (va_wsS RX2 72 yJ6_bitCount_0f7a4 wsJ6_bitCount_0f7a4) := goodIn_app (goodIn_of _ (by decide +kernel)) ggX2_tenthsSure_J6_bitCount_0f7a4
set_option maxRecDepth 20000 in
theorem ggX2_tenthsSure_X6_power : GoodIn wsX2_tenthsSure wsX6_power := goodIn_r _ [43] (by decide +kernel) (by decide +kernel)
set_option maxRecDepth 20000 in
theorem gX2_tenthsSure_X6_power_n80 : GoodIn wsX2_tenthsSure (wsX6_power) := ggX2_tenthsSure_X6_power
theorem dX2_tenthsSure_0 : decode cX2_tenthsSure 0 = .ok (.iconst 0, 1) := by decide +kernel
theorem dX2_tenthsSure_1 : decode cX2_tenthsSure 1 = .ok (.istore_n 3, 1) := by decide +kernel
theorem dX2_tenthsSure_2 : decode cX2_tenthsSure 2 = .ok (.iconst 0, 1) := by decide +kernel
theorem dX2_tenthsSure_3 : decode cX2_tenthsSure 3 = .ok (.istore 4, 2) := by decide +kernel
theorem dX2_tenthsSure_5 : decode cX2_tenthsSure 5 = .ok (.iload 4, 2) := by decide +kernel
theorem dX2_tenthsSure_7 : decode cX2_tenthsSure 7 = .ok (.iload_n 1, 1) := by decide +kernel
theorem dX2_tenthsSure_8 : decode cX2_tenthsSure 8 = .ok (.if_icmp .gt 63, 3) := by decide +kernel
theorem dX2_tenthsSure_11 : decode cX2_tenthsSure 11 = .ok (.iload 4, 2) := by decide +kernel
theorem dX2_tenthsSure_13 : decode cX2_tenthsSure 13 = .ok (.iload_n 1, 1) := by decide +kernel
theorem dX2_tenthsSure_14 : decode cX2_tenthsSure 14 = .ok (.iconst (-1), 1) := by decide +kernel
theorem dX2_tenthsSure_15 : decode cX2_tenthsSure 15 = .ok (.ixor, 1) := by decide +kernel
theorem dX2_tenthsSure_16 : decode cX2_tenthsSure 16 = .ok (.iand, 1) := by decide +kernel
theorem dX2_tenthsSure_17 : decode cX2_tenthsSure 17 = .ok (.ifCond .ne 48, 3) := by decide +kernel
theorem dX2_tenthsSure_20 : decode cX2_tenthsSure 20 = .ok (.aload_n 0, 1) := by decide +kernel
theorem dX2_tenthsSure_21 : decode cX2_tenthsSure 21 = .ok (.iload 4, 2) := by decide +kernel
theorem dX2_tenthsSure_23 : decode cX2_tenthsSure 23 = .ok (.invokevirtual 68, 3) := by decide +kernel
theorem dX2_tenthsSure_26 : decode cX2_tenthsSure 26 = .ok (.invokestatic 77, 3) := by decide +kernel
theorem dX2_tenthsSure_29 : decode cX2_tenthsSure 29 = .ok (.ldc 71, 2) := by decide +kernel
theorem dX2_tenthsSure_31 : decode cX2_tenthsSure 31 = .ok (.if_icmp .eq 34, 3) := by decide +kernel
theorem dX2_tenthsSure_34 : decode cX2_tenthsSure 34 = .ok (.iload 4, 2) := by decide +kernel
theorem dX2_tenthsSure_36 : decode cX2_tenthsSure 36 = .ok (.invokestatic 72, 3) := by decide +kernel
theorem dX2_tenthsSure_39 : decode cX2_tenthsSure 39 = .ok (.istore 5, 2) := by decide +kernel
theorem dX2_tenthsSure_41 : decode cX2_tenthsSure 41 = .ok (.iload_n 3, 1) := by decide +kernel
theorem dX2_tenthsSure_42 : decode cX2_tenthsSure 42 = .ok (.bipush 10, 2) := by decide +kernel
theorem dX2_tenthsSure_44 : decode cX2_tenthsSure 44 = .ok (.iload_n 2, 1) := by decide +kernel
theorem dX2_tenthsSure_45 : decode cX2_tenthsSure 45 = .ok (.isub, 1) := by decide +kernel
theorem dX2_tenthsSure_46 : decode cX2_tenthsSure 46 = .ok (.iload 5, 2) := by decide +kernel
theorem dX2_tenthsSure_48 : decode cX2_tenthsSure 48 = .ok (.invokestatic 80, 3) := by decide +kernel
theorem dX2_tenthsSure_51 : decode cX2_tenthsSure 51 = .ok (.iload_n 2, 1) := by decide +kernel
theorem dX2_tenthsSure_52 : decode cX2_tenthsSure 52 = .ok (.iload_n 1, 1) := by decide +kernel
theorem dX2_tenthsSure_53 : decode cX2_tenthsSure 53 = .ok (.invokestatic 72, 3) := by decide +kernel
theorem dX2_tenthsSure_56 : decode cX2_tenthsSure 56 = .ok (.iload 5, 2) := by decide +kernel
theorem dX2_tenthsSure_58 : decode cX2_tenthsSure 58 = .ok (.isub, 1) := by decide +kernel
theorem dX2_tenthsSure_59 : decode cX2_tenthsSure 59 = .ok (.invokestatic 80, 3) := by decide +kernel
theorem dX2_tenthsSure_62 : decode cX2_tenthsSure 62 = .ok (.imul, 1) := by decide +kernel
theorem dX2_tenthsSure_63 : decode cX2_tenthsSure 63 = .ok (.iadd, 1) := by decide +kernel
theorem dX2_tenthsSure_64 : decode cX2_tenthsSure 64 = .ok (.istore_n 3, 1) := by decide +kernel
theorem dX2_tenthsSure_65 : decode cX2_tenthsSure 65 = .ok (.iinc 4 1, 3) := by decide +kernel
theorem dX2_tenthsSure_68 : decode cX2_tenthsSure 68 = .ok (.goto (-63), 3) := by decide +kernel
theorem dX2_tenthsSure_71 : decode cX2_tenthsSure 71 = .ok (.iload_n 3, 1) := by decide +kernel
theorem dX2_tenthsSure_72 : decode cX2_tenthsSure 72 = .ok (.ireturn, 1) := by decide +kernel
theorem dX3_init_0 : decode cX3_init 0 = .ok (.aload_n 0, 1) := by decide +kernel
theorem dX3_init_1 : decode cX3_init 1 = .ok (.invokespecial 3, 3) := by decide +kernel
theorem dX3_init_4 : decode cX3_init 4 = .ok (.aload_n 0, 1) := by decide +kernel
theorem dX3_init_5 : decode cX3_init 5 = .ok (.bipush 24, 2) := by decide +kernel
theorem dX3_init_7 : decode cX3_init 7 = .ok (.bipush 6, 2) := by decide +kernel
theorem dX3_init_9 : decode cX3_init 9 = .ok (.multianewarray 9 2, 4) := by decide +kernel
theorem dX3_init_13 : decode cX3_init 13 = .ok (.putfield 11, 3) := by decide +kernel
theorem dX3_init_16 : decode cX3_init 16 = .ok (.aload_n 0, 1) := by decide +kernel
theorem dX3_init_17 : decode cX3_init 17 = .ok (.bipush 7, 2) := by decide +kernel
theorem dX3_init_19 : decode cX3_init 19 = .ok (.bipush 6, 2) := by decide +kernel
theorem dX3_init_21 : decode cX3_init 21 = .ok (.multianewarray 9 2, 4) := by decide +kernel
theorem dX3_init_25 : decode cX3_init 25 = .ok (.putfield 16, 3) := by decide +kernel
theorem dX3_init_28 : decode cX3_init 28 = .ok (.aload_n 0, 1) := by decide +kernel
theorem dX3_init_29 : decode cX3_init 29 = .ok (.bipush 6, 2) := by decide +kernel
theorem dX3_init_31 : decode cX3_init 31 = .ok (.newarray .int, 2) := by decide +kernel
theorem dX3_init_33 : decode cX3_init 33 = .ok (.putfield 19, 3) := by decide +kernel
theorem dX3_init_36 : decode cX3_init 36 = .ok (.return_, 1) := by decide +kernel
theorem dX3_mostSure_0 : decode cX3_mostSure 0 = .ok (.aload_n 0, 1) := by decide +kernel
theorem dX3_mostSure_1 : decode cX3_mostSure 1 = .ok (.getfield 23, 3) := by decide +kernel
theorem dX3_mostSure_4 : decode cX3_mostSure 4 = .ok (.ireturn, 1) := by decide +kernel
theorem dX3_bestOff_0 : decode cX3_bestOff 0 = .ok (.aload_n 0, 1) := by decide +kernel
theorem dX3_bestOff_1 : decode cX3_bestOff 1 = .ok (.getfield 19, 3) := by decide +kernel
theorem dX3_bestOff_4 : decode cX3_bestOff 4 = .ok (.iload_n 1, 1) := by decide +kernel
theorem dX3_bestOff_5 : decode cX3_bestOff 5 = .ok (.iaload, 1) := by decide +kernel
theorem dX3_bestOff_6 : decode cX3_bestOff 6 = .ok (.ireturn, 1) := by decide +kernel
set_option maxRecDepth 20000 in
theorem ggX3_run_X3_fillSpares : GoodIn wsX3_run wsX3_fillSpares := goodIn_r _ [13, 14, 15, 1, 16, 17, 18, 19, 12, 20, 21, 22, 23, 24, 25, 26, 27, 28, 29, 30, 31, 32, 33, 34, 35, 36, 37, 38, 39, 40, 41, 42, 43, 44, 45, 46, 47, 48, 71, 72, 73, 74, 75, 76, 77, 78, 79, 80, 81, 82, 83] (by decide +kernel) (by decide +kernel)
set_option maxRecDepth 20000 in
theorem gX3_run_X3_fillSpares : GoodIn wsX3_run (wsV RX3 27 RX3 yX3_fillSpares wsX3_fillSpares) := goodIn_app (goodIn_of _ (by decide +kernel)) ggX3_run_X3_fillSpares
set_option maxRecDepth 20000 in
theorem ggX3_run_J7_fill_53178 : GoodIn wsX3_run wsJ7_fill_53178 := goodIn_r _ [52] (by decide +kernel) (by decide +kernel)
set_option maxRecDepth 20000 in
theorem gX3_run_J7_fill_53178 : GoodIn wsX3_run (va_wsS RX3 36 yJ7_fill_53178 wsJ7_fill_53178) := goodIn_app (goodIn_of _ (by decide +kernel)) ggX3_run_J7_fill_53178
set_option maxRecDepth 20000 in
theorem ggX3_run_X3_narrow : GoodIn wsX3_run wsX3_narrow := goodIn_r _ [56, 14, 17, 1, 16, 2, 71, 72, 73, 74, 75, 76, 77, 78, 79, 80, 81, 82, 83] (by decide +kernel) (by decide +kernel)
set_option maxRecDepth 20000 in
theorem gX3_run_X3_narrow : GoodIn wsX3_run (wsV RX3 42 RX3 yX3_narrow wsX3_narrow) := goodIn_app (goodIn_of _ (by decide +kernel)) ggX3_run_X3_narrow
set_option maxRecDepth 20000 in
theorem ggX3_run_X3_sureDays : GoodIn wsX3_run wsX3_sureDays := goodIn_r _ [60, 16, 2, 14, 61, 62, 63, 64, 65, 66, 67, 71, 72, 73, 74, 75, 76, 77, 78, 79, 80, 81, 82, 83] (by decide +kernel) (by decide +kernel)
set_option maxRecDepth 20000 in
theorem gX3_run_X3_sureDays : GoodIn wsX3_run (wsV RX3 45 RX3 yX3_sureDays wsX3_sureDays) := goodIn_app (goodIn_of _ (by decide +kernel)) ggX3_run_X3_sureDays
set_option maxRecDepth 20000 in
theorem ggX3_run_X3_turn : GoodIn wsX3_run wsX3_turn := goodIn_r _ [70, 14, 1, 15, 71, 72, 73, 74, 75, 76, 77, 78, 79] (by decide +kernel) (by decide +kernel)
set_option maxRecDepth 20000 in
theorem gX3_run_X3_turn : GoodIn wsX3_run (va_wsS RX3 55 yX3_turn wsX3_turn) := goodIn_app (goodIn_of _ (by decide +kernel)) ggX3_run_X3_turn
theorem dX3_run_0 : decode cX3_run 0 = .ok (.aload_n 0, 1) := by decide +kernel
theorem dX3_run_1 : decode cX3_run 1 = .ok (.aload_n 1, 1) := by decide +kernel
theorem dX3_run_2 : decode cX3_run 2 = .ok (.iload_n 2, 1) := by decide +kernel
theorem dX3_run_3 : decode cX3_run 3 = .ok (.invokevirtual 27, 3) := by decide +kernel
theorem dX3_run_6 : decode cX3_run 6 = .ok (.aload_n 1, 1) := by decide +kernel
theorem dX3_run_7 : decode cX3_run 7 = .ok (.getfield 31, 3) := by decide +kernel
theorem dX3_run_10 : decode cX3_run 10 = .ok (.iconst 0, 1) := by decide +kernel
theorem dX3_run_11 : decode cX3_run 11 = .ok (.invokestatic 36, 3) := by decide +kernel
theorem dX3_run_14 : decode cX3_run 14 = .ok (.aload_n 0, 1) := by decide +kernel
theorem dX3_run_15 : decode cX3_run 15 = .ok (.getfield 16, 3) := by decide +kernel
theorem dX3_run_18 : decode cX3_run 18 = .ok (.iconst 0, 1) := by decide +kernel
theorem dX3_run_19 : decode cX3_run 19 = .ok (.aaload, 1) := by decide +kernel
theorem dX3_run_20 : decode cX3_run 20 = .ok (.iconst 1, 1) := by decide +kernel
theorem dX3_run_21 : decode cX3_run 21 = .ok (.iload_n 2, 1) := by decide +kernel
theorem dX3_run_22 : decode cX3_run 22 = .ok (.ishl, 1) := by decide +kernel
theorem dX3_run_23 : decode cX3_run 23 = .ok (.iconst 1, 1) := by decide +kernel
theorem dX3_run_24 : decode cX3_run 24 = .ok (.isub, 1) := by decide +kernel
theorem dX3_run_25 : decode cX3_run 25 = .ok (.invokestatic 36, 3) := by decide +kernel
theorem dX3_run_28 : decode cX3_run 28 = .ok (.aload_n 0, 1) := by decide +kernel
theorem dX3_run_29 : decode cX3_run 29 = .ok (.iconst (-1), 1) := by decide +kernel
theorem dX3_run_30 : decode cX3_run 30 = .ok (.putfield 23, 3) := by decide +kernel
theorem dX3_run_33 : decode cX3_run 33 = .ok (.iconst 0, 1) := by decide +kernel
theorem dX3_run_34 : decode cX3_run 34 = .ok (.istore_n 3, 1) := by decide +kernel
theorem dX3_run_35 : decode cX3_run 35 = .ok (.iconst 0, 1) := by decide +kernel
theorem dX3_run_36 : decode cX3_run 36 = .ok (.istore 4, 2) := by decide +kernel
theorem dX3_run_38 : decode cX3_run 38 = .ok (.iload 4, 2) := by decide +kernel
theorem dX3_run_40 : decode cX3_run 40 = .ok (.sipush 4096, 3) := by decide +kernel
theorem dX3_run_43 : decode cX3_run 43 = .ok (.if_icmp .ge 61, 3) := by decide +kernel
theorem dX3_run_46 : decode cX3_run 46 = .ok (.iload_n 3, 1) := by decide +kernel
theorem dX3_run_47 : decode cX3_run 47 = .ok (.ifCond .lt 57, 3) := by decide +kernel
theorem dX3_run_50 : decode cX3_run 50 = .ok (.aload_n 0, 1) := by decide +kernel
theorem dX3_run_51 : decode cX3_run 51 = .ok (.aload_n 1, 1) := by decide +kernel
theorem dX3_run_52 : decode cX3_run 52 = .ok (.iload_n 3, 1) := by decide +kernel
theorem dX3_run_53 : decode cX3_run 53 = .ok (.invokevirtual 42, 3) := by decide +kernel
theorem dX3_run_56 : decode cX3_run 56 = .ok (.aload_n 0, 1) := by decide +kernel
theorem dX3_run_57 : decode cX3_run 57 = .ok (.aload_n 1, 1) := by decide +kernel
theorem dX3_run_58 : decode cX3_run 58 = .ok (.invokevirtual 45, 3) := by decide +kernel
theorem dX3_run_61 : decode cX3_run 61 = .ok (.istore 5, 2) := by decide +kernel
theorem dX3_run_63 : decode cX3_run 63 = .ok (.iload 5, 2) := by decide +kernel
theorem dX3_run_65 : decode cX3_run 65 = .ok (.aload_n 0, 1) := by decide +kernel
theorem dX3_run_66 : decode cX3_run 66 = .ok (.getfield 23, 3) := by decide +kernel
theorem dX3_run_69 : decode cX3_run 69 = .ok (.if_icmp .le 24, 3) := by decide +kernel
theorem dX3_run_72 : decode cX3_run 72 = .ok (.aload_n 0, 1) := by decide +kernel
theorem dX3_run_73 : decode cX3_run 73 = .ok (.iload 5, 2) := by decide +kernel
theorem dX3_run_75 : decode cX3_run 75 = .ok (.putfield 23, 3) := by decide +kernel
theorem dX3_run_78 : decode cX3_run 78 = .ok (.aload_n 1, 1) := by decide +kernel
theorem dX3_run_79 : decode cX3_run 79 = .ok (.getfield 31, 3) := by decide +kernel
theorem dX3_run_82 : decode cX3_run 82 = .ok (.iconst 0, 1) := by decide +kernel
theorem dX3_run_83 : decode cX3_run 83 = .ok (.aload_n 0, 1) := by decide +kernel
theorem dX3_run_84 : decode cX3_run 84 = .ok (.getfield 19, 3) := by decide +kernel
theorem dX3_run_87 : decode cX3_run 87 = .ok (.iconst 0, 1) := by decide +kernel
theorem dX3_run_88 : decode cX3_run 88 = .ok (.bipush 6, 2) := by decide +kernel
theorem dX3_run_90 : decode cX3_run 90 = .ok (.invokestatic 49, 3) := by decide +kernel
theorem dX3_run_93 : decode cX3_run 93 = .ok (.aload_n 1, 1) := by decide +kernel
theorem dX3_run_94 : decode cX3_run 94 = .ok (.invokestatic 55, 3) := by decide +kernel
theorem dX3_run_97 : decode cX3_run 97 = .ok (.istore_n 3, 1) := by decide +kernel
theorem dX3_run_98 : decode cX3_run 98 = .ok (.iinc 4 1, 3) := by decide +kernel
theorem dX3_run_101 : decode cX3_run 101 = .ok (.goto (-63), 3) := by decide +kernel
theorem dX3_run_104 : decode cX3_run 104 = .ok (.return_, 1) := by decide +kernel
set_option maxRecDepth 20000 in
theorem ggX3_fillSpares_X3_daysOff : GoodIn wsX3_fillSpares wsX3_daysOff := goodIn_r _ [9, 10, 11, 12, 13, 14, 15, 16, 17, 18, 19, 38, 39, 40, 41, 42, 43, 44, 45, 46] (by decide +kernel) (by decide +kernel)
set_option maxRecDepth 20000 in
theorem gX3_fillSpares_X3_daysOff : GoodIn wsX3_fillSpares (va_wsS RX3 64 yX3_daysOff wsX3_daysOff) := goodIn_app (goodIn_of _ (by decide +kernel)) ggX3_fillSpares_X3_daysOff
set_option maxRecDepth 20000 in
theorem ggX3_fillSpares_X2_leftByOne : GoodIn wsX3_fillSpares wsX2_leftByOne := goodIn_r _ [23, 24, 16, 25, 26, 27, 14, 28, 29, 30, 31, 32, 33, 34, 35, 36, 37, 38, 39, 40, 41, 42, 43, 44, 45, 46] (by decide +kernel) (by decide +kernel)
set_option maxRecDepth 20000 in
theorem gX3_fillSpares_X2_leftByOne : GoodIn wsX3_fillSpares (wsV RX3 71 RX2 yX2_leftByOne wsX2_leftByOne) := goodIn_app (goodIn_of _ (by decide +kernel)) ggX3_fillSpares_X2_leftByOne
set_option maxRecDepth 20000 in
theorem ggX3_fillSpares_X6_isIn : GoodIn wsX3_fillSpares wsX6_isIn := goodIn_r _ [32] (by decide +kernel) (by decide +kernel)
set_option maxRecDepth 20000 in
theorem gX3_fillSpares_X6_isIn_n75 : GoodIn wsX3_fillSpares (wsX6_isIn) := ggX3_fillSpares_X6_isIn
theorem dX3_fillSpares_0 : decode cX3_fillSpares 0 = .ok (.iconst 0, 1) := by decide +kernel
theorem dX3_fillSpares_1 : decode cX3_fillSpares 1 = .ok (.istore_n 3, 1) := by decide +kernel
theorem dX3_fillSpares_2 : decode cX3_fillSpares 2 = .ok (.iload_n 3, 1) := by decide +kernel
theorem dX3_fillSpares_3 : decode cX3_fillSpares 3 = .ok (.aload_n 1, 1) := by decide +kernel
theorem dX3_fillSpares_4 : decode cX3_fillSpares 4 = .ok (.getfield 58, 3) := by decide +kernel
theorem dX3_fillSpares_7 : decode cX3_fillSpares 7 = .ok (.if_icmp .ge 104, 3) := by decide +kernel
theorem dX3_fillSpares_10 : decode cX3_fillSpares 10 = .ok (.iconst 0, 1) := by decide +kernel
theorem dX3_fillSpares_11 : decode cX3_fillSpares 11 = .ok (.istore 4, 2) := by decide +kernel
theorem dX3_fillSpares_13 : decode cX3_fillSpares 13 = .ok (.iload 4, 2) := by decide +kernel
theorem dX3_fillSpares_15 : decode cX3_fillSpares 15 = .ok (.aload_n 1, 1) := by decide +kernel
theorem dX3_fillSpares_16 : decode cX3_fillSpares 16 = .ok (.getfield 61, 3) := by decide +kernel
theorem dX3_fillSpares_19 : decode cX3_fillSpares 19 = .ok (.iload_n 3, 1) := by decide +kernel
theorem dX3_fillSpares_20 : decode cX3_fillSpares 20 = .ok (.iaload, 1) := by decide +kernel
theorem dX3_fillSpares_21 : decode cX3_fillSpares 21 = .ok (.if_icmp .ge 84, 3) := by decide +kernel
theorem dX3_fillSpares_24 : decode cX3_fillSpares 24 = .ok (.aload_n 1, 1) := by decide +kernel
theorem dX3_fillSpares_25 : decode cX3_fillSpares 25 = .ok (.getfield 31, 3) := by decide +kernel
theorem dX3_fillSpares_28 : decode cX3_fillSpares 28 = .ok (.iload_n 3, 1) := by decide +kernel
theorem dX3_fillSpares_29 : decode cX3_fillSpares 29 = .ok (.iload 4, 2) := by decide +kernel
theorem dX3_fillSpares_31 : decode cX3_fillSpares 31 = .ok (.iastore, 1) := by decide +kernel
theorem dX3_fillSpares_32 : decode cX3_fillSpares 32 = .ok (.aload_n 1, 1) := by decide +kernel
theorem dX3_fillSpares_33 : decode cX3_fillSpares 33 = .ok (.iload_n 3, 1) := by decide +kernel
theorem dX3_fillSpares_34 : decode cX3_fillSpares 34 = .ok (.iload_n 2, 1) := by decide +kernel
theorem dX3_fillSpares_35 : decode cX3_fillSpares 35 = .ok (.invokestatic 64, 3) := by decide +kernel
theorem dX3_fillSpares_38 : decode cX3_fillSpares 38 = .ok (.istore 5, 2) := by decide +kernel
theorem dX3_fillSpares_40 : decode cX3_fillSpares 40 = .ok (.iconst 1, 1) := by decide +kernel
theorem dX3_fillSpares_41 : decode cX3_fillSpares 41 = .ok (.iload_n 2, 1) := by decide +kernel
theorem dX3_fillSpares_42 : decode cX3_fillSpares 42 = .ok (.ishl, 1) := by decide +kernel
theorem dX3_fillSpares_43 : decode cX3_fillSpares 43 = .ok (.iconst 1, 1) := by decide +kernel
theorem dX3_fillSpares_44 : decode cX3_fillSpares 44 = .ok (.isub, 1) := by decide +kernel
theorem dX3_fillSpares_45 : decode cX3_fillSpares 45 = .ok (.istore 6, 2) := by decide +kernel
theorem dX3_fillSpares_47 : decode cX3_fillSpares 47 = .ok (.iconst 0, 1) := by decide +kernel
theorem dX3_fillSpares_48 : decode cX3_fillSpares 48 = .ok (.istore 7, 2) := by decide +kernel
theorem dX3_fillSpares_50 : decode cX3_fillSpares 50 = .ok (.iload 7, 2) := by decide +kernel
theorem dX3_fillSpares_52 : decode cX3_fillSpares 52 = .ok (.aload_n 1, 1) := by decide +kernel
theorem dX3_fillSpares_53 : decode cX3_fillSpares 53 = .ok (.getfield 68, 3) := by decide +kernel
theorem dX3_fillSpares_56 : decode cX3_fillSpares 56 = .ok (.if_icmp .ge 43, 3) := by decide +kernel
theorem dX3_fillSpares_59 : decode cX3_fillSpares 59 = .ok (.aload_n 0, 1) := by decide +kernel
theorem dX3_fillSpares_60 : decode cX3_fillSpares 60 = .ok (.getfield 11, 3) := by decide +kernel
theorem dX3_fillSpares_63 : decode cX3_fillSpares 63 = .ok (.iload_n 3, 1) := by decide +kernel
theorem dX3_fillSpares_64 : decode cX3_fillSpares 64 = .ok (.iconst 4, 1) := by decide +kernel
theorem dX3_fillSpares_65 : decode cX3_fillSpares 65 = .ok (.imul, 1) := by decide +kernel
theorem dX3_fillSpares_66 : decode cX3_fillSpares 66 = .ok (.iload 4, 2) := by decide +kernel
theorem dX3_fillSpares_68 : decode cX3_fillSpares 68 = .ok (.iadd, 1) := by decide +kernel
theorem dX3_fillSpares_69 : decode cX3_fillSpares 69 = .ok (.aaload, 1) := by decide +kernel
theorem dX3_fillSpares_70 : decode cX3_fillSpares 70 = .ok (.iload 7, 2) := by decide +kernel
theorem dX3_fillSpares_72 : decode cX3_fillSpares 72 = .ok (.aload_n 1, 1) := by decide +kernel
theorem dX3_fillSpares_73 : decode cX3_fillSpares 73 = .ok (.iload_n 3, 1) := by decide +kernel
theorem dX3_fillSpares_74 : decode cX3_fillSpares 74 = .ok (.invokevirtual 71, 3) := by decide +kernel
theorem dX3_fillSpares_77 : decode cX3_fillSpares 77 = .ok (.iload 7, 2) := by decide +kernel
theorem dX3_fillSpares_79 : decode cX3_fillSpares 79 = .ok (.invokestatic 75, 3) := by decide +kernel
theorem dX3_fillSpares_82 : decode cX3_fillSpares 82 = .ok (.ifCond .eq 8, 3) := by decide +kernel
theorem dX3_fillSpares_85 : decode cX3_fillSpares 85 = .ok (.iload 6, 2) := by decide +kernel
theorem dX3_fillSpares_87 : decode cX3_fillSpares 87 = .ok (.goto 5, 3) := by decide +kernel
theorem dX3_fillSpares_90 : decode cX3_fillSpares 90 = .ok (.iload 5, 2) := by decide +kernel
theorem dX3_fillSpares_92 : decode cX3_fillSpares 92 = .ok (.iastore, 1) := by decide +kernel
theorem dX3_fillSpares_93 : decode cX3_fillSpares 93 = .ok (.iinc 7 1, 3) := by decide +kernel
theorem dX3_fillSpares_96 : decode cX3_fillSpares 96 = .ok (.goto (-46), 3) := by decide +kernel
theorem dX3_fillSpares_99 : decode cX3_fillSpares 99 = .ok (.iinc 4 1, 3) := by decide +kernel
theorem dX3_fillSpares_102 : decode cX3_fillSpares 102 = .ok (.goto (-89), 3) := by decide +kernel
theorem dX3_fillSpares_105 : decode cX3_fillSpares 105 = .ok (.iinc 3 1, 3) := by decide +kernel
theorem dX3_fillSpares_108 : decode cX3_fillSpares 108 = .ok (.goto (-106), 3) := by decide +kernel
theorem dX3_fillSpares_111 : decode cX3_fillSpares 111 = .ok (.return_, 1) := by decide +kernel
set_option maxRecDepth 20000 in
theorem ggX3_daysOff_X2_worksOn : GoodIn wsX3_daysOff wsX2_worksOn := goodIn_r _ [6, 7, 8, 9, 10, 11, 12, 13, 14, 15, 16, 17, 18, 19] (by decide +kernel) (by decide +kernel)
set_option maxRecDepth 20000 in
theorem gX3_daysOff_X2_worksOn : GoodIn wsX3_daysOff (wsV RX3 82 RX2 yX2_worksOn wsX2_worksOn) := goodIn_app (goodIn_of _ (by decide +kernel)) ggX3_daysOff_X2_worksOn
theorem dX3_daysOff_0 : decode cX3_daysOff 0 = .ok (.iconst 0, 1) := by decide +kernel
theorem dX3_daysOff_1 : decode cX3_daysOff 1 = .ok (.istore_n 3, 1) := by decide +kernel
theorem dX3_daysOff_2 : decode cX3_daysOff 2 = .ok (.iconst 0, 1) := by decide +kernel
theorem dX3_daysOff_3 : decode cX3_daysOff 3 = .ok (.istore 4, 2) := by decide +kernel
theorem dX3_daysOff_5 : decode cX3_daysOff 5 = .ok (.iload 4, 2) := by decide +kernel
theorem dX3_daysOff_7 : decode cX3_daysOff 7 = .ok (.iload_n 2, 1) := by decide +kernel
theorem dX3_daysOff_8 : decode cX3_daysOff 8 = .ok (.if_icmp .ge 31, 3) := by decide +kernel
theorem dX3_daysOff_11 : decode cX3_daysOff 11 = .ok (.aload_n 0, 1) := by decide +kernel
theorem dX3_daysOff_12 : decode cX3_daysOff 12 = .ok (.iload_n 1, 1) := by decide +kernel
theorem dX3_daysOff_13 : decode cX3_daysOff 13 = .ok (.aload_n 0, 1) := by decide +kernel
theorem dX3_daysOff_14 : decode cX3_daysOff 14 = .ok (.getfield 79, 3) := by decide +kernel
theorem dX3_daysOff_17 : decode cX3_daysOff 17 = .ok (.iload 4, 2) := by decide +kernel
theorem dX3_daysOff_19 : decode cX3_daysOff 19 = .ok (.iadd, 1) := by decide +kernel
theorem dX3_daysOff_20 : decode cX3_daysOff 20 = .ok (.invokevirtual 82, 3) := by decide +kernel
theorem dX3_daysOff_23 : decode cX3_daysOff 23 = .ok (.ifCond .ne 10, 3) := by decide +kernel
theorem dX3_daysOff_26 : decode cX3_daysOff 26 = .ok (.iload_n 3, 1) := by decide +kernel
theorem dX3_daysOff_27 : decode cX3_daysOff 27 = .ok (.iconst 1, 1) := by decide +kernel
theorem dX3_daysOff_28 : decode cX3_daysOff 28 = .ok (.iload 4, 2) := by decide +kernel
theorem dX3_daysOff_30 : decode cX3_daysOff 30 = .ok (.ishl, 1) := by decide +kernel
theorem dX3_daysOff_31 : decode cX3_daysOff 31 = .ok (.ior, 1) := by decide +kernel
theorem dX3_daysOff_32 : decode cX3_daysOff 32 = .ok (.istore_n 3, 1) := by decide +kernel
theorem dX3_daysOff_33 : decode cX3_daysOff 33 = .ok (.iinc 4 1, 3) := by decide +kernel
theorem dX3_daysOff_36 : decode cX3_daysOff 36 = .ok (.goto (-31), 3) := by decide +kernel
theorem dX3_daysOff_39 : decode cX3_daysOff 39 = .ok (.iload_n 3, 1) := by decide +kernel
theorem dX3_daysOff_40 : decode cX3_daysOff 40 = .ok (.ireturn, 1) := by decide +kernel
theorem dX3_narrow_0 : decode cX3_narrow 0 = .ok (.iload_n 2, 1) := by decide +kernel
theorem dX3_narrow_1 : decode cX3_narrow 1 = .ok (.istore_n 3, 1) := by decide +kernel
theorem dX3_narrow_2 : decode cX3_narrow 2 = .ok (.iload_n 3, 1) := by decide +kernel
theorem dX3_narrow_3 : decode cX3_narrow 3 = .ok (.aload_n 1, 1) := by decide +kernel
theorem dX3_narrow_4 : decode cX3_narrow 4 = .ok (.getfield 58, 3) := by decide +kernel
theorem dX3_narrow_7 : decode cX3_narrow 7 = .ok (.if_icmp .ge 70, 3) := by decide +kernel
theorem dX3_narrow_10 : decode cX3_narrow 10 = .ok (.aload_n 0, 1) := by decide +kernel
theorem dX3_narrow_11 : decode cX3_narrow 11 = .ok (.getfield 11, 3) := by decide +kernel
theorem dX3_narrow_14 : decode cX3_narrow 14 = .ok (.iload_n 3, 1) := by decide +kernel
theorem dX3_narrow_15 : decode cX3_narrow 15 = .ok (.iconst 4, 1) := by decide +kernel
theorem dX3_narrow_16 : decode cX3_narrow 16 = .ok (.imul, 1) := by decide +kernel
theorem dX3_narrow_17 : decode cX3_narrow 17 = .ok (.aload_n 1, 1) := by decide +kernel
theorem dX3_narrow_18 : decode cX3_narrow 18 = .ok (.getfield 31, 3) := by decide +kernel
theorem dX3_narrow_21 : decode cX3_narrow 21 = .ok (.iload_n 3, 1) := by decide +kernel
theorem dX3_narrow_22 : decode cX3_narrow 22 = .ok (.iaload, 1) := by decide +kernel
theorem dX3_narrow_23 : decode cX3_narrow 23 = .ok (.iadd, 1) := by decide +kernel
theorem dX3_narrow_24 : decode cX3_narrow 24 = .ok (.aaload, 1) := by decide +kernel
theorem dX3_narrow_25 : decode cX3_narrow 25 = .ok (.astore 4, 2) := by decide +kernel
theorem dX3_narrow_27 : decode cX3_narrow 27 = .ok (.iconst 0, 1) := by decide +kernel
theorem dX3_narrow_28 : decode cX3_narrow 28 = .ok (.istore 5, 2) := by decide +kernel
theorem dX3_narrow_30 : decode cX3_narrow 30 = .ok (.iload 5, 2) := by decide +kernel
theorem dX3_narrow_32 : decode cX3_narrow 32 = .ok (.aload_n 1, 1) := by decide +kernel
theorem dX3_narrow_33 : decode cX3_narrow 33 = .ok (.getfield 68, 3) := by decide +kernel
theorem dX3_narrow_36 : decode cX3_narrow 36 = .ok (.if_icmp .ge 35, 3) := by decide +kernel
theorem dX3_narrow_39 : decode cX3_narrow 39 = .ok (.aload_n 0, 1) := by decide +kernel
theorem dX3_narrow_40 : decode cX3_narrow 40 = .ok (.getfield 16, 3) := by decide +kernel
theorem dX3_narrow_43 : decode cX3_narrow 43 = .ok (.iload_n 3, 1) := by decide +kernel
theorem dX3_narrow_44 : decode cX3_narrow 44 = .ok (.iconst 1, 1) := by decide +kernel
theorem dX3_narrow_45 : decode cX3_narrow 45 = .ok (.iadd, 1) := by decide +kernel
theorem dX3_narrow_46 : decode cX3_narrow 46 = .ok (.aaload, 1) := by decide +kernel
theorem dX3_narrow_47 : decode cX3_narrow 47 = .ok (.iload 5, 2) := by decide +kernel
theorem dX3_narrow_49 : decode cX3_narrow 49 = .ok (.aload_n 0, 1) := by decide +kernel
theorem dX3_narrow_50 : decode cX3_narrow 50 = .ok (.getfield 16, 3) := by decide +kernel
theorem dX3_narrow_53 : decode cX3_narrow 53 = .ok (.iload_n 3, 1) := by decide +kernel
theorem dX3_narrow_54 : decode cX3_narrow 54 = .ok (.aaload, 1) := by decide +kernel
theorem dX3_narrow_55 : decode cX3_narrow 55 = .ok (.iload 5, 2) := by decide +kernel
theorem dX3_narrow_57 : decode cX3_narrow 57 = .ok (.iaload, 1) := by decide +kernel
theorem dX3_narrow_58 : decode cX3_narrow 58 = .ok (.aload 4, 2) := by decide +kernel
theorem dX3_narrow_60 : decode cX3_narrow 60 = .ok (.iload 5, 2) := by decide +kernel
theorem dX3_narrow_62 : decode cX3_narrow 62 = .ok (.iaload, 1) := by decide +kernel
theorem dX3_narrow_63 : decode cX3_narrow 63 = .ok (.iand, 1) := by decide +kernel
theorem dX3_narrow_64 : decode cX3_narrow 64 = .ok (.iastore, 1) := by decide +kernel
theorem dX3_narrow_65 : decode cX3_narrow 65 = .ok (.iinc 5 1, 3) := by decide +kernel
theorem dX3_narrow_68 : decode cX3_narrow 68 = .ok (.goto (-38), 3) := by decide +kernel
theorem dX3_narrow_71 : decode cX3_narrow 71 = .ok (.iinc 3 1, 3) := by decide +kernel
theorem dX3_narrow_74 : decode cX3_narrow 74 = .ok (.goto (-72), 3) := by decide +kernel
theorem dX3_narrow_77 : decode cX3_narrow 77 = .ok (.return_, 1) := by decide +kernel
set_option maxRecDepth 20000 in
theorem ggX3_sureDays_J6_bitCount_0f7a4 : GoodIn wsX3_sureDays wsJ6_bitCount_0f7a4 := goodIn_r _ [7, 8, 9, 10] (by decide +kernel) (by decide +kernel)
set_option maxRecDepth 20000 in
theorem gX3_sureDays_J6_bitCount_0f7a4 : GoodIn wsX3_sureDays (va_wsS RX3 85 yJ6_bitCount_0f7a4 wsJ6_bitCount_0f7a4) := goodIn_app (goodIn_of _ (by decide +kernel)) ggX3_sureDays_J6_bitCount_0f7a4
theorem dX3_sureDays_0 : decode cX3_sureDays 0 = .ok (.iconst 0, 1) := by decide +kernel
theorem dX3_sureDays_1 : decode cX3_sureDays 1 = .ok (.istore_n 2, 1) := by decide +kernel
theorem dX3_sureDays_2 : decode cX3_sureDays 2 = .ok (.iconst 0, 1) := by decide +kernel
theorem dX3_sureDays_3 : decode cX3_sureDays 3 = .ok (.istore_n 3, 1) := by decide +kernel
theorem dX3_sureDays_4 : decode cX3_sureDays 4 = .ok (.iconst 0, 1) := by decide +kernel
theorem dX3_sureDays_5 : decode cX3_sureDays 5 = .ok (.istore 4, 2) := by decide +kernel
theorem dX3_sureDays_7 : decode cX3_sureDays 7 = .ok (.iload 4, 2) := by decide +kernel
theorem dX3_sureDays_9 : decode cX3_sureDays 9 = .ok (.aload_n 1, 1) := by decide +kernel
theorem dX3_sureDays_10 : decode cX3_sureDays 10 = .ok (.getfield 68, 3) := by decide +kernel
theorem dX3_sureDays_13 : decode cX3_sureDays 13 = .ok (.if_icmp .ge 35, 3) := by decide +kernel
theorem dX3_sureDays_16 : decode cX3_sureDays 16 = .ok (.aload_n 0, 1) := by decide +kernel
theorem dX3_sureDays_17 : decode cX3_sureDays 17 = .ok (.getfield 16, 3) := by decide +kernel
theorem dX3_sureDays_20 : decode cX3_sureDays 20 = .ok (.aload_n 1, 1) := by decide +kernel
theorem dX3_sureDays_21 : decode cX3_sureDays 21 = .ok (.getfield 58, 3) := by decide +kernel
theorem dX3_sureDays_24 : decode cX3_sureDays 24 = .ok (.aaload, 1) := by decide +kernel
theorem dX3_sureDays_25 : decode cX3_sureDays 25 = .ok (.iload 4, 2) := by decide +kernel
theorem dX3_sureDays_27 : decode cX3_sureDays 27 = .ok (.iaload, 1) := by decide +kernel
theorem dX3_sureDays_28 : decode cX3_sureDays 28 = .ok (.istore 5, 2) := by decide +kernel
theorem dX3_sureDays_30 : decode cX3_sureDays 30 = .ok (.iload_n 3, 1) := by decide +kernel
theorem dX3_sureDays_31 : decode cX3_sureDays 31 = .ok (.iload_n 2, 1) := by decide +kernel
theorem dX3_sureDays_32 : decode cX3_sureDays 32 = .ok (.iload 5, 2) := by decide +kernel
theorem dX3_sureDays_34 : decode cX3_sureDays 34 = .ok (.iand, 1) := by decide +kernel
theorem dX3_sureDays_35 : decode cX3_sureDays 35 = .ok (.ior, 1) := by decide +kernel
theorem dX3_sureDays_36 : decode cX3_sureDays 36 = .ok (.istore_n 3, 1) := by decide +kernel
theorem dX3_sureDays_37 : decode cX3_sureDays 37 = .ok (.iload_n 2, 1) := by decide +kernel
theorem dX3_sureDays_38 : decode cX3_sureDays 38 = .ok (.iload 5, 2) := by decide +kernel
theorem dX3_sureDays_40 : decode cX3_sureDays 40 = .ok (.ior, 1) := by decide +kernel
theorem dX3_sureDays_41 : decode cX3_sureDays 41 = .ok (.istore_n 2, 1) := by decide +kernel
theorem dX3_sureDays_42 : decode cX3_sureDays 42 = .ok (.iinc 4 1, 3) := by decide +kernel
theorem dX3_sureDays_45 : decode cX3_sureDays 45 = .ok (.goto (-38), 3) := by decide +kernel
theorem dX3_sureDays_48 : decode cX3_sureDays 48 = .ok (.iload_n 2, 1) := by decide +kernel
theorem dX3_sureDays_49 : decode cX3_sureDays 49 = .ok (.iload_n 3, 1) := by decide +kernel
theorem dX3_sureDays_50 : decode cX3_sureDays 50 = .ok (.iconst (-1), 1) := by decide +kernel
theorem dX3_sureDays_51 : decode cX3_sureDays 51 = .ok (.ixor, 1) := by decide +kernel
theorem dX3_sureDays_52 : decode cX3_sureDays 52 = .ok (.iand, 1) := by decide +kernel
theorem dX3_sureDays_53 : decode cX3_sureDays 53 = .ok (.invokestatic 85, 3) := by decide +kernel
theorem dX3_sureDays_56 : decode cX3_sureDays 56 = .ok (.ireturn, 1) := by decide +kernel
theorem dX3_turn_0 : decode cX3_turn 0 = .ok (.aload_n 0, 1) := by decide +kernel
theorem dX3_turn_1 : decode cX3_turn 1 = .ok (.getfield 58, 3) := by decide +kernel
theorem dX3_turn_4 : decode cX3_turn 4 = .ok (.iconst 1, 1) := by decide +kernel
theorem dX3_turn_5 : decode cX3_turn 5 = .ok (.isub, 1) := by decide +kernel
theorem dX3_turn_6 : decode cX3_turn 6 = .ok (.istore_n 1, 1) := by decide +kernel
theorem dX3_turn_7 : decode cX3_turn 7 = .ok (.iload_n 1, 1) := by decide +kernel
theorem dX3_turn_8 : decode cX3_turn 8 = .ok (.ifCond .lt 43, 3) := by decide +kernel
theorem dX3_turn_11 : decode cX3_turn 11 = .ok (.aload_n 0, 1) := by decide +kernel
theorem dX3_turn_12 : decode cX3_turn 12 = .ok (.getfield 31, 3) := by decide +kernel
theorem dX3_turn_15 : decode cX3_turn 15 = .ok (.iload_n 1, 1) := by decide +kernel
theorem dX3_turn_16 : decode cX3_turn 16 = .ok (.dup2, 1) := by decide +kernel
theorem dX3_turn_17 : decode cX3_turn 17 = .ok (.iaload, 1) := by decide +kernel
theorem dX3_turn_18 : decode cX3_turn 18 = .ok (.iconst 1, 1) := by decide +kernel
theorem dX3_turn_19 : decode cX3_turn 19 = .ok (.iadd, 1) := by decide +kernel
theorem dX3_turn_20 : decode cX3_turn 20 = .ok (.iastore, 1) := by decide +kernel
theorem dX3_turn_21 : decode cX3_turn 21 = .ok (.aload_n 0, 1) := by decide +kernel
theorem dX3_turn_22 : decode cX3_turn 22 = .ok (.getfield 31, 3) := by decide +kernel
theorem dX3_turn_25 : decode cX3_turn 25 = .ok (.iload_n 1, 1) := by decide +kernel
theorem dX3_turn_26 : decode cX3_turn 26 = .ok (.iaload, 1) := by decide +kernel
theorem dX3_turn_27 : decode cX3_turn 27 = .ok (.aload_n 0, 1) := by decide +kernel
theorem dX3_turn_28 : decode cX3_turn 28 = .ok (.getfield 61, 3) := by decide +kernel
theorem dX3_turn_31 : decode cX3_turn 31 = .ok (.iload_n 1, 1) := by decide +kernel
theorem dX3_turn_32 : decode cX3_turn 32 = .ok (.iaload, 1) := by decide +kernel
theorem dX3_turn_33 : decode cX3_turn 33 = .ok (.if_icmp .ge 5, 3) := by decide +kernel
theorem dX3_turn_36 : decode cX3_turn 36 = .ok (.iload_n 1, 1) := by decide +kernel
theorem dX3_turn_37 : decode cX3_turn 37 = .ok (.ireturn, 1) := by decide +kernel
theorem dX3_turn_38 : decode cX3_turn 38 = .ok (.aload_n 0, 1) := by decide +kernel
theorem dX3_turn_39 : decode cX3_turn 39 = .ok (.getfield 31, 3) := by decide +kernel
theorem dX3_turn_42 : decode cX3_turn 42 = .ok (.iload_n 1, 1) := by decide +kernel
theorem dX3_turn_43 : decode cX3_turn 43 = .ok (.iconst 0, 1) := by decide +kernel
theorem dX3_turn_44 : decode cX3_turn 44 = .ok (.iastore, 1) := by decide +kernel
theorem dX3_turn_45 : decode cX3_turn 45 = .ok (.iinc 1 (-1), 3) := by decide +kernel
theorem dX3_turn_48 : decode cX3_turn 48 = .ok (.goto (-41), 3) := by decide +kernel
theorem dX3_turn_51 : decode cX3_turn 51 = .ok (.iconst (-1), 1) := by decide +kernel
theorem dX3_turn_52 : decode cX3_turn 52 = .ok (.ireturn, 1) := by decide +kernel
set_option maxRecDepth 20000 in
theorem ggX4_init_J7_fill_53178 : GoodIn wsX4_init wsJ7_fill_53178 := goodIn_r _ [12] (by decide +kernel) (by decide +kernel)
set_option maxRecDepth 20000 in
theorem gX4_init_J7_fill_53178 : GoodIn wsX4_init (va_wsS RX4 21 yJ7_fill_53178 wsJ7_fill_53178) := goodIn_app (goodIn_of _ (by decide +kernel)) ggX4_init_J7_fill_53178
theorem dX4_init_0 : decode cX4_init 0 = .ok (.aload_n 0, 1) := by decide +kernel
theorem dX4_init_1 : decode cX4_init 1 = .ok (.invokespecial 1, 3) := by decide +kernel
theorem dX4_init_4 : decode cX4_init 4 = .ok (.aload_n 0, 1) := by decide +kernel
theorem dX4_init_5 : decode cX4_init 5 = .ok (.bipush 8, 2) := by decide +kernel
theorem dX4_init_7 : decode cX4_init 7 = .ok (.newarray .int, 2) := by decide +kernel
theorem dX4_init_9 : decode cX4_init 9 = .ok (.putfield 9, 3) := by decide +kernel
theorem dX4_init_12 : decode cX4_init 12 = .ok (.aload_n 0, 1) := by decide +kernel
theorem dX4_init_13 : decode cX4_init 13 = .ok (.bipush 8, 2) := by decide +kernel
theorem dX4_init_15 : decode cX4_init 15 = .ok (.newarray .int, 2) := by decide +kernel
theorem dX4_init_17 : decode cX4_init 17 = .ok (.putfield 13, 3) := by decide +kernel
theorem dX4_init_20 : decode cX4_init 20 = .ok (.aload_n 0, 1) := by decide +kernel
theorem dX4_init_21 : decode cX4_init 21 = .ok (.bipush 8, 2) := by decide +kernel
theorem dX4_init_23 : decode cX4_init 23 = .ok (.bipush 40, 2) := by decide +kernel
theorem dX4_init_25 : decode cX4_init 25 = .ok (.multianewarray 16 2, 4) := by decide +kernel
theorem dX4_init_29 : decode cX4_init 29 = .ok (.putfield 18, 3) := by decide +kernel
theorem dX4_init_32 : decode cX4_init 32 = .ok (.aload_n 0, 1) := by decide +kernel
theorem dX4_init_33 : decode cX4_init 33 = .ok (.getfield 9, 3) := by decide +kernel
theorem dX4_init_36 : decode cX4_init 36 = .ok (.iconst (-1), 1) := by decide +kernel
theorem dX4_init_37 : decode cX4_init 37 = .ok (.invokestatic 21, 3) := by decide +kernel
theorem dX4_init_40 : decode cX4_init 40 = .ok (.return_, 1) := by decide +kernel
theorem dX4_isRow_0 : decode cX4_isRow 0 = .ok (.iload_n 1, 1) := by decide +kernel
theorem dX4_isRow_1 : decode cX4_isRow 1 = .ok (.ifCond .lt 13, 3) := by decide +kernel
theorem dX4_isRow_4 : decode cX4_isRow 4 = .ok (.iload_n 1, 1) := by decide +kernel
theorem dX4_isRow_5 : decode cX4_isRow 5 = .ok (.bipush 8, 2) := by decide +kernel
theorem dX4_isRow_7 : decode cX4_isRow 7 = .ok (.if_icmp .ge 7, 3) := by decide +kernel
theorem dX4_isRow_10 : decode cX4_isRow 10 = .ok (.iconst 1, 1) := by decide +kernel
theorem dX4_isRow_11 : decode cX4_isRow 11 = .ok (.goto 4, 3) := by decide +kernel
theorem dX4_isRow_14 : decode cX4_isRow 14 = .ok (.iconst 0, 1) := by decide +kernel
theorem dX4_isRow_15 : decode cX4_isRow 15 = .ok (.ireturn, 1) := by decide +kernel
theorem dX4_isMissing_0 : decode cX4_isMissing 0 = .ok (.aload_n 0, 1) := by decide +kernel
theorem dX4_isMissing_1 : decode cX4_isMissing 1 = .ok (.getfield 9, 3) := by decide +kernel
theorem dX4_isMissing_4 : decode cX4_isMissing 4 = .ok (.iload_n 1, 1) := by decide +kernel
theorem dX4_isMissing_5 : decode cX4_isMissing 5 = .ok (.iaload, 1) := by decide +kernel
theorem dX4_isMissing_6 : decode cX4_isMissing 6 = .ok (.iconst (-1), 1) := by decide +kernel
theorem dX4_isMissing_7 : decode cX4_isMissing 7 = .ok (.if_icmp .ne 7, 3) := by decide +kernel
theorem dX4_isMissing_10 : decode cX4_isMissing 10 = .ok (.iconst 1, 1) := by decide +kernel
theorem dX4_isMissing_11 : decode cX4_isMissing 11 = .ok (.goto 4, 3) := by decide +kernel
theorem dX4_isMissing_14 : decode cX4_isMissing 14 = .ok (.iconst 0, 1) := by decide +kernel
theorem dX4_isMissing_15 : decode cX4_isMissing 15 = .ok (.ireturn, 1) := by decide +kernel
theorem dX4_laneOf_0 : decode cX4_laneOf 0 = .ok (.aload_n 0, 1) := by decide +kernel
theorem dX4_laneOf_1 : decode cX4_laneOf 1 = .ok (.getfield 9, 3) := by decide +kernel
theorem dX4_laneOf_4 : decode cX4_laneOf 4 = .ok (.iload_n 1, 1) := by decide +kernel
theorem dX4_laneOf_5 : decode cX4_laneOf 5 = .ok (.iaload, 1) := by decide +kernel
theorem dX4_laneOf_6 : decode cX4_laneOf 6 = .ok (.ireturn, 1) := by decide +kernel
theorem dX4_hasPlaces_0 : decode cX4_hasPlaces 0 = .ok (.iload_n 2, 1) := by decide +kernel
theorem dX4_hasPlaces_1 : decode cX4_hasPlaces 1 = .ok (.ifCond .lt 23, 3) := by decide +kernel
theorem dX4_hasPlaces_4 : decode cX4_hasPlaces 4 = .ok (.iload_n 3, 1) := by decide +kernel
theorem dX4_hasPlaces_5 : decode cX4_hasPlaces 5 = .ok (.ifCond .lt 19, 3) := by decide +kernel
theorem dX4_hasPlaces_8 : decode cX4_hasPlaces 8 = .ok (.iload_n 2, 1) := by decide +kernel
theorem dX4_hasPlaces_9 : decode cX4_hasPlaces 9 = .ok (.aload_n 0, 1) := by decide +kernel
theorem dX4_hasPlaces_10 : decode cX4_hasPlaces 10 = .ok (.getfield 13, 3) := by decide +kernel
theorem dX4_hasPlaces_13 : decode cX4_hasPlaces 13 = .ok (.iload_n 1, 1) := by decide +kernel
theorem dX4_hasPlaces_14 : decode cX4_hasPlaces 14 = .ok (.iaload, 1) := by decide +kernel
theorem dX4_hasPlaces_15 : decode cX4_hasPlaces 15 = .ok (.iload_n 3, 1) := by decide +kernel
theorem dX4_hasPlaces_16 : decode cX4_hasPlaces 16 = .ok (.isub, 1) := by decide +kernel
theorem dX4_hasPlaces_17 : decode cX4_hasPlaces 17 = .ok (.if_icmp .gt 7, 3) := by decide +kernel
theorem dX4_hasPlaces_20 : decode cX4_hasPlaces 20 = .ok (.iconst 1, 1) := by decide +kernel
theorem dX4_hasPlaces_21 : decode cX4_hasPlaces 21 = .ok (.goto 4, 3) := by decide +kernel
theorem dX4_hasPlaces_24 : decode cX4_hasPlaces 24 = .ok (.iconst 0, 1) := by decide +kernel
theorem dX4_hasPlaces_25 : decode cX4_hasPlaces 25 = .ok (.ireturn, 1) := by decide +kernel
set_option maxRecDepth 20000 in
theorem ggX4_make_J7_fill_53178 : GoodIn wsX4_make wsJ7_fill_53178 := goodIn_r _ [7] (by decide +kernel) (by decide +kernel)
set_option maxRecDepth 20000 in
theorem gX4_make_J7_fill_53178 : GoodIn wsX4_make (va_wsS RX4 21 yJ7_fill_53178 wsJ7_fill_53178) := goodIn_app (goodIn_of _ (by decide +kernel)) ggX4_make_J7_fill_53178
theorem dX4_make_0 : decode cX4_make 0 = .ok (.aload_n 0, 1) := by decide +kernel
theorem dX4_make_1 : decode cX4_make 1 = .ok (.getfield 9, 3) := by decide +kernel
theorem dX4_make_4 : decode cX4_make 4 = .ok (.iload_n 1, 1) := by decide +kernel
theorem dX4_make_5 : decode cX4_make 5 = .ok (.iload_n 2, 1) := by decide +kernel
theorem dX4_make_6 : decode cX4_make 6 = .ok (.iastore, 1) := by decide +kernel
theorem dX4_make_7 : decode cX4_make 7 = .ok (.aload_n 0, 1) := by decide +kernel
theorem dX4_make_8 : decode cX4_make 8 = .ok (.getfield 13, 3) := by decide +kernel
theorem dX4_make_11 : decode cX4_make 11 = .ok (.iload_n 1, 1) := by decide +kernel
theorem dX4_make_12 : decode cX4_make 12 = .ok (.iload_n 3, 1) := by decide +kernel
theorem dX4_make_13 : decode cX4_make 13 = .ok (.iastore, 1) := by decide +kernel
theorem dX4_make_14 : decode cX4_make 14 = .ok (.aload_n 0, 1) := by decide +kernel
theorem dX4_make_15 : decode cX4_make 15 = .ok (.getfield 18, 3) := by decide +kernel
theorem dX4_make_18 : decode cX4_make 18 = .ok (.iload_n 1, 1) := by decide +kernel
theorem dX4_make_19 : decode cX4_make 19 = .ok (.aaload, 1) := by decide +kernel
theorem dX4_make_20 : decode cX4_make 20 = .ok (.iconst 0, 1) := by decide +kernel
theorem dX4_make_21 : decode cX4_make 21 = .ok (.invokestatic 21, 3) := by decide +kernel
theorem dX4_make_24 : decode cX4_make 24 = .ok (.return_, 1) := by decide +kernel
set_option maxRecDepth 20000 in
theorem ggX4_put_X4_lowestBits : GoodIn wsX4_put wsX4_lowestBits := goodIn_r _ [6] (by decide +kernel) (by decide +kernel)
set_option maxRecDepth 20000 in
theorem gX4_put_X4_lowestBits : GoodIn wsX4_put (va_wsS RX4 27 yX4_lowestBits wsX4_lowestBits) := goodIn_app (goodIn_of _ (by decide +kernel)) ggX4_put_X4_lowestBits
theorem dX4_put_0 : decode cX4_put 0 = .ok (.aload_n 0, 1) := by decide +kernel
theorem dX4_put_1 : decode cX4_put 1 = .ok (.getfield 18, 3) := by decide +kernel
theorem dX4_put_4 : decode cX4_put 4 = .ok (.iload_n 1, 1) := by decide +kernel
theorem dX4_put_5 : decode cX4_put 5 = .ok (.aaload, 1) := by decide +kernel
theorem dX4_put_6 : decode cX4_put 6 = .ok (.iload_n 2, 1) := by decide +kernel
theorem dX4_put_7 : decode cX4_put 7 = .ok (.aload_n 0, 1) := by decide +kernel
theorem dX4_put_8 : decode cX4_put 8 = .ok (.getfield 9, 3) := by decide +kernel
theorem dX4_put_11 : decode cX4_put 11 = .ok (.iload_n 1, 1) := by decide +kernel
theorem dX4_put_12 : decode cX4_put 12 = .ok (.iaload, 1) := by decide +kernel
theorem dX4_put_13 : decode cX4_put 13 = .ok (.iload_n 3, 1) := by decide +kernel
theorem dX4_put_14 : decode cX4_put 14 = .ok (.invokestatic 27, 3) := by decide +kernel
theorem dX4_put_17 : decode cX4_put 17 = .ok (.iastore, 1) := by decide +kernel
theorem dX4_put_18 : decode cX4_put 18 = .ok (.aload_n 0, 1) := by decide +kernel
theorem dX4_put_19 : decode cX4_put 19 = .ok (.getfield 18, 3) := by decide +kernel
theorem dX4_put_22 : decode cX4_put 22 = .ok (.iload_n 1, 1) := by decide +kernel
theorem dX4_put_23 : decode cX4_put 23 = .ok (.aaload, 1) := by decide +kernel
theorem dX4_put_24 : decode cX4_put 24 = .ok (.iload_n 2, 1) := by decide +kernel
theorem dX4_put_25 : decode cX4_put 25 = .ok (.iaload, 1) := by decide +kernel
theorem dX4_put_26 : decode cX4_put 26 = .ok (.ireturn, 1) := by decide +kernel
theorem dX4_itemAt_0 : decode cX4_itemAt 0 = .ok (.aload_n 0, 1) := by decide +kernel
theorem dX4_itemAt_1 : decode cX4_itemAt 1 = .ok (.getfield 18, 3) := by decide +kernel
theorem dX4_itemAt_4 : decode cX4_itemAt 4 = .ok (.iload_n 1, 1) := by decide +kernel
theorem dX4_itemAt_5 : decode cX4_itemAt 5 = .ok (.aaload, 1) := by decide +kernel
theorem dX4_itemAt_6 : decode cX4_itemAt 6 = .ok (.iload_n 2, 1) := by decide +kernel
theorem dX4_itemAt_7 : decode cX4_itemAt 7 = .ok (.iaload, 1) := by decide +kernel
theorem dX4_itemAt_8 : decode cX4_itemAt 8 = .ok (.ireturn, 1) := by decide +kernel
theorem dX4_move_0 : decode cX4_move 0 = .ok (.aload_n 0, 1) := by decide +kernel
theorem dX4_move_1 : decode cX4_move 1 = .ok (.getfield 18, 3) := by decide +kernel
theorem dX4_move_4 : decode cX4_move 4 = .ok (.iload_n 1, 1) := by decide +kernel
theorem dX4_move_5 : decode cX4_move 5 = .ok (.aaload, 1) := by decide +kernel
theorem dX4_move_6 : decode cX4_move 6 = .ok (.iload_n 2, 1) := by decide +kernel
theorem dX4_move_7 : decode cX4_move 7 = .ok (.aload_n 0, 1) := by decide +kernel
theorem dX4_move_8 : decode cX4_move 8 = .ok (.getfield 18, 3) := by decide +kernel
theorem dX4_move_11 : decode cX4_move 11 = .ok (.iload_n 3, 1) := by decide +kernel
theorem dX4_move_12 : decode cX4_move 12 = .ok (.aaload, 1) := by decide +kernel
theorem dX4_move_13 : decode cX4_move 13 = .ok (.iload 4, 2) := by decide +kernel
theorem dX4_move_15 : decode cX4_move 15 = .ok (.iload 5, 2) := by decide +kernel
theorem dX4_move_17 : decode cX4_move 17 = .ok (.invokestatic 31, 3) := by decide +kernel
theorem dX4_move_20 : decode cX4_move 20 = .ok (.return_, 1) := by decide +kernel
theorem dX4_takeAway_0 : decode cX4_takeAway 0 = .ok (.aload_n 0, 1) := by decide +kernel
theorem dX4_takeAway_1 : decode cX4_takeAway 1 = .ok (.getfield 9, 3) := by decide +kernel
theorem dX4_takeAway_4 : decode cX4_takeAway 4 = .ok (.iload_n 1, 1) := by decide +kernel
theorem dX4_takeAway_5 : decode cX4_takeAway 5 = .ok (.iconst (-1), 1) := by decide +kernel
theorem dX4_takeAway_6 : decode cX4_takeAway 6 = .ok (.iastore, 1) := by decide +kernel
theorem dX4_takeAway_7 : decode cX4_takeAway 7 = .ok (.aload_n 0, 1) := by decide +kernel
theorem dX4_takeAway_8 : decode cX4_takeAway 8 = .ok (.getfield 13, 3) := by decide +kernel
theorem dX4_takeAway_11 : decode cX4_takeAway 11 = .ok (.iload_n 1, 1) := by decide +kernel
theorem dX4_takeAway_12 : decode cX4_takeAway 12 = .ok (.iaload, 1) := by decide +kernel
theorem dX4_takeAway_13 : decode cX4_takeAway 13 = .ok (.ireturn, 1) := by decide +kernel
set_option maxRecDepth 20000 in
theorem ggX4_present_X4_isMissing : GoodIn wsX4_present wsX4_isMissing := goodIn_r _ [5, 6, 7, 8, 9] (by decide +kernel) (by decide +kernel)
set_option maxRecDepth 20000 in
theorem gX4_present_X4_isMissing : GoodIn wsX4_present (wsV RX4 37 RX4 yX4_isMissing wsX4_isMissing) := goodIn_app (goodIn_of _ (by decide +kernel)) ggX4_present_X4_isMissing
theorem dX4_present_0 : decode cX4_present 0 = .ok (.iconst 0, 1) := by decide +kernel
theorem dX4_present_1 : decode cX4_present 1 = .ok (.istore_n 1, 1) := by decide +kernel
theorem dX4_present_2 : decode cX4_present 2 = .ok (.iconst 0, 1) := by decide +kernel
theorem dX4_present_3 : decode cX4_present 3 = .ok (.istore_n 2, 1) := by decide +kernel
theorem dX4_present_4 : decode cX4_present 4 = .ok (.iload_n 2, 1) := by decide +kernel
theorem dX4_present_5 : decode cX4_present 5 = .ok (.bipush 8, 2) := by decide +kernel
theorem dX4_present_7 : decode cX4_present 7 = .ok (.if_icmp .ge 20, 3) := by decide +kernel
theorem dX4_present_10 : decode cX4_present 10 = .ok (.aload_n 0, 1) := by decide +kernel
theorem dX4_present_11 : decode cX4_present 11 = .ok (.iload_n 2, 1) := by decide +kernel
theorem dX4_present_12 : decode cX4_present 12 = .ok (.invokevirtual 37, 3) := by decide +kernel
theorem dX4_present_15 : decode cX4_present 15 = .ok (.ifCond .ne 6, 3) := by decide +kernel
theorem dX4_present_18 : decode cX4_present 18 = .ok (.iinc 1 1, 3) := by decide +kernel
theorem dX4_present_21 : decode cX4_present 21 = .ok (.iinc 2 1, 3) := by decide +kernel
theorem dX4_present_24 : decode cX4_present 24 = .ok (.goto (-20), 3) := by decide +kernel
theorem dX4_present_27 : decode cX4_present 27 = .ok (.iload_n 1, 1) := by decide +kernel
theorem dX4_present_28 : decode cX4_present 28 = .ok (.ireturn, 1) := by decide +kernel
theorem dX4_lowestBits_0 : decode cX4_lowestBits 0 = .ok (.iload_n 0, 1) := by decide +kernel
theorem dX4_lowestBits_1 : decode cX4_lowestBits 1 = .ok (.lookupswitch 33 #[(0, 27), (1, 30)], 27) := by decide +kernel
theorem dX4_lowestBits_28 : decode cX4_lowestBits 28 = .ok (.iload_n 1, 1) := by decide +kernel
theorem dX4_lowestBits_29 : decode cX4_lowestBits 29 = .ok (.i2b, 1) := by decide +kernel
theorem dX4_lowestBits_30 : decode cX4_lowestBits 30 = .ok (.ireturn, 1) := by decide +kernel
theorem dX4_lowestBits_31 : decode cX4_lowestBits 31 = .ok (.iload_n 1, 1) := by decide +kernel
theorem dX4_lowestBits_32 : decode cX4_lowestBits 32 = .ok (.i2s, 1) := by decide +kernel
theorem dX4_lowestBits_33 : decode cX4_lowestBits 33 = .ok (.ireturn, 1) := by decide +kernel
theorem dX4_lowestBits_34 : decode cX4_lowestBits 34 = .ok (.iload_n 1, 1) := by decide +kernel
theorem dX4_lowestBits_35 : decode cX4_lowestBits 35 = .ok (.ireturn, 1) := by decide +kernel
theorem dX5_init_0 : decode cX5_init 0 = .ok (.aload_n 0, 1) := by decide +kernel
theorem dX5_init_1 : decode cX5_init 1 = .ok (.invokespecial 3, 3) := by decide +kernel
theorem dX5_init_4 : decode cX5_init 4 = .ok (.aload_n 0, 1) := by decide +kernel
theorem dX5_init_5 : decode cX5_init 5 = .ok (.bipush 100, 2) := by decide +kernel
theorem dX5_init_7 : decode cX5_init 7 = .ok (.newarray .int, 2) := by decide +kernel
theorem dX5_init_9 : decode cX5_init 9 = .ok (.putfield 11, 3) := by decide +kernel
theorem dX5_init_12 : decode cX5_init 12 = .ok (.aload_n 0, 1) := by decide +kernel
theorem dX5_init_13 : decode cX5_init 13 = .ok (.iconst (-1), 1) := by decide +kernel
theorem dX5_init_14 : decode cX5_init 14 = .ok (.putfield 15, 3) := by decide +kernel
theorem dX5_init_17 : decode cX5_init 17 = .ok (.return_, 1) := by decide +kernel
theorem dX5_isFull_0 : decode cX5_isFull 0 = .ok (.aload_n 0, 1) := by decide +kernel
theorem dX5_isFull_1 : decode cX5_isFull 1 = .ok (.getfield 19, 3) := by decide +kernel
theorem dX5_isFull_4 : decode cX5_isFull 4 = .ok (.bipush 100, 2) := by decide +kernel
theorem dX5_isFull_6 : decode cX5_isFull 6 = .ok (.if_icmp .lt 7, 3) := by decide +kernel
theorem dX5_isFull_9 : decode cX5_isFull 9 = .ok (.iconst 1, 1) := by decide +kernel
theorem dX5_isFull_10 : decode cX5_isFull 10 = .ok (.goto 4, 3) := by decide +kernel
theorem dX5_isFull_13 : decode cX5_isFull 13 = .ok (.iconst 0, 1) := by decide +kernel
theorem dX5_isFull_14 : decode cX5_isFull 14 = .ok (.ireturn, 1) := by decide +kernel
theorem dX5_size_0 : decode cX5_size 0 = .ok (.aload_n 0, 1) := by decide +kernel
theorem dX5_size_1 : decode cX5_size 1 = .ok (.getfield 19, 3) := by decide +kernel
theorem dX5_size_4 : decode cX5_size 4 = .ok (.ireturn, 1) := by decide +kernel
theorem dX5_latestFault_0 : decode cX5_latestFault 0 = .ok (.aload_n 0, 1) := by decide +kernel
theorem dX5_latestFault_1 : decode cX5_latestFault 1 = .ok (.getfield 22, 3) := by decide +kernel
theorem dX5_latestFault_4 : decode cX5_latestFault 4 = .ok (.ireturn, 1) := by decide +kernel
theorem dX5_add_0 : decode cX5_add 0 = .ok (.aload_n 0, 1) := by decide +kernel
theorem dX5_add_1 : decode cX5_add 1 = .ok (.getfield 11, 3) := by decide +kernel
theorem dX5_add_4 : decode cX5_add 4 = .ok (.aload_n 0, 1) := by decide +kernel
theorem dX5_add_5 : decode cX5_add 5 = .ok (.getfield 19, 3) := by decide +kernel
theorem dX5_add_8 : decode cX5_add 8 = .ok (.iload_n 1, 1) := by decide +kernel
theorem dX5_add_9 : decode cX5_add 9 = .ok (.iastore, 1) := by decide +kernel
theorem dX5_add_10 : decode cX5_add 10 = .ok (.aload_n 0, 1) := by decide +kernel
theorem dX5_add_11 : decode cX5_add 11 = .ok (.dup, 1) := by decide +kernel
theorem dX5_add_12 : decode cX5_add 12 = .ok (.getfield 19, 3) := by decide +kernel
theorem dX5_add_15 : decode cX5_add 15 = .ok (.iconst 1, 1) := by decide +kernel
theorem dX5_add_16 : decode cX5_add 16 = .ok (.iadd, 1) := by decide +kernel
theorem dX5_add_17 : decode cX5_add 17 = .ok (.putfield 19, 3) := by decide +kernel
theorem dX5_add_20 : decode cX5_add 20 = .ok (.aload_n 0, 1) := by decide +kernel
theorem dX5_add_21 : decode cX5_add 21 = .ok (.getfield 19, 3) := by decide +kernel
theorem dX5_add_24 : decode cX5_add 24 = .ok (.ireturn, 1) := by decide +kernel
set_option maxRecDepth 20000 in
theorem ggX5_readInto_X2_clear : GoodIn wsX5_readInto wsX2_clear := goodIn_r _ [8, 9, 10, 11, 12, 13, 67, 68, 69, 70, 71, 72, 73, 74, 75] (by decide +kernel) (by decide +kernel)
set_option maxRecDepth 20000 in
theorem gX5_readInto_X2_clear : GoodIn wsX5_readInto (wsV RX5 28 RX2 yX2_clear wsX2_clear) := goodIn_app (goodIn_of _ (by decide +kernel)) ggX5_readInto_X2_clear
set_option maxRecDepth 20000 in
theorem ggX5_readInto_X5_readLaw : GoodIn wsX5_readInto wsX5_readLaw := goodIn_r _ [18, 19, 20, 21, 22, 23, 17, 24, 1, 3, 25, 26, 27, 28, 29, 30, 2, 31, 32, 33, 34, 35, 36, 37, 67, 68, 69, 70, 71, 72, 73, 74, 75, 62, 63, 64, 65, 66] (by decide +kernel) (by decide +kernel)
set_option maxRecDepth 20000 in
theorem gX5_readInto_X5_readLaw : GoodIn wsX5_readInto (wsV RX5 33 RX5 yX5_readLaw wsX5_readLaw) := goodIn_app (goodIn_of _ (by decide +kernel)) ggX5_readInto_X5_readLaw
set_option maxRecDepth 20000 in
theorem ggX5_readInto_X5_readClues : GoodIn wsX5_readInto wsX5_readClues := goodIn_r _ [41, 1, 3, 42, 43, 44, 17, 45, 25, 46, 47, 48, 49, 26, 27, 28, 29, 30, 2, 50, 51, 52, 7, 53, 9, 31, 32, 33, 34, 35, 36, 37, 21, 22, 23, 24, 54, 55, 56, 57, 58, 12, 59, 60, 61, 62, 63, 64, 65, 66, 67, 68, 69, 70, 71, 72, 73, 74, 75] (by decide +kernel) (by decide +kernel)
set_option maxRecDepth 20000 in
theorem gX5_readInto_X5_readClues : GoodIn wsX5_readInto (wsV RX5 37 RX5 yX5_readClues wsX5_readClues) := goodIn_app (goodIn_of _ (by decide +kernel)) ggX5_readInto_X5_readClues
theorem dX5_readInto_0 : decode cX5_readInto 0 = .ok (.aload_n 0, 1) := by decide +kernel
theorem dX5_readInto_1 : decode cX5_readInto 1 = .ok (.iconst 0, 1) := by decide +kernel
theorem dX5_readInto_2 : decode cX5_readInto 2 = .ok (.putfield 25, 3) := by decide +kernel
theorem dX5_readInto_5 : decode cX5_readInto 5 = .ok (.aload_n 0, 1) := by decide +kernel
theorem dX5_readInto_6 : decode cX5_readInto 6 = .ok (.iconst (-1), 1) := by decide +kernel
theorem dX5_readInto_7 : decode cX5_readInto 7 = .ok (.putfield 15, 3) := by decide +kernel
theorem dX5_readInto_10 : decode cX5_readInto 10 = .ok (.aload_n 1, 1) := by decide +kernel
theorem dX5_readInto_11 : decode cX5_readInto 11 = .ok (.invokevirtual 28, 3) := by decide +kernel
theorem dX5_readInto_14 : decode cX5_readInto 14 = .ok (.aload_n 0, 1) := by decide +kernel
theorem dX5_readInto_15 : decode cX5_readInto 15 = .ok (.aload_n 1, 1) := by decide +kernel
theorem dX5_readInto_16 : decode cX5_readInto 16 = .ok (.invokevirtual 33, 3) := by decide +kernel
theorem dX5_readInto_19 : decode cX5_readInto 19 = .ok (.ifCond .eq 8, 3) := by decide +kernel
theorem dX5_readInto_22 : decode cX5_readInto 22 = .ok (.aload_n 0, 1) := by decide +kernel
theorem dX5_readInto_23 : decode cX5_readInto 23 = .ok (.aload_n 1, 1) := by decide +kernel
theorem dX5_readInto_24 : decode cX5_readInto 24 = .ok (.invokevirtual 37, 3) := by decide +kernel
theorem dX5_readInto_27 : decode cX5_readInto 27 = .ok (.aload_n 0, 1) := by decide +kernel
theorem dX5_readInto_28 : decode cX5_readInto 28 = .ok (.iconst 0, 1) := by decide +kernel
theorem dX5_readInto_29 : decode cX5_readInto 29 = .ok (.putfield 19, 3) := by decide +kernel
theorem dX5_readInto_32 : decode cX5_readInto 32 = .ok (.aload_n 0, 1) := by decide +kernel
theorem dX5_readInto_33 : decode cX5_readInto 33 = .ok (.getfield 15, 3) := by decide +kernel
theorem dX5_readInto_36 : decode cX5_readInto 36 = .ok (.ireturn, 1) := by decide +kernel
set_option maxRecDepth 20000 in
theorem ggX5_readLaw_X5_take : GoodIn wsX5_readLaw wsX5_take := goodIn_r _ [7, 8, 9, 10, 11, 12, 13, 6, 14, 15, 16, 33, 34, 35, 36, 37] (by decide +kernel) (by decide +kernel)
set_option maxRecDepth 20000 in
theorem gX5_readLaw_X5_take : GoodIn wsX5_readLaw (wsV RX5 41 RX5 yX5_take wsX5_take) := goodIn_app (goodIn_of _ (by decide +kernel)) ggX5_readLaw_X5_take
set_option maxRecDepth 20000 in
theorem ggX5_readLaw_X5_takeNumber : GoodIn wsX5_readLaw wsX5_takeNumber := goodIn_r _ [20, 8, 9, 10, 21, 22, 23, 11, 12, 13, 6, 14, 15, 16, 33, 34, 35, 36, 37] (by decide +kernel) (by decide +kernel)
set_option maxRecDepth 20000 in
theorem gX5_readLaw_X5_takeNumber : GoodIn wsX5_readLaw (wsV RX5 45 RX5 yX5_takeNumber wsX5_takeNumber) := goodIn_app (goodIn_of _ (by decide +kernel)) ggX5_readLaw_X5_takeNumber
theorem dX5_readLaw_0 : decode cX5_readLaw 0 = .ok (.aload_n 0, 1) := by decide +kernel
theorem dX5_readLaw_1 : decode cX5_readLaw 1 = .ok (.bipush 99, 2) := by decide +kernel
theorem dX5_readLaw_3 : decode cX5_readLaw 3 = .ok (.invokevirtual 41, 3) := by decide +kernel
theorem dX5_readLaw_6 : decode cX5_readLaw 6 = .ok (.ifCond .ne 5, 3) := by decide +kernel
theorem dX5_readLaw_9 : decode cX5_readLaw 9 = .ok (.iconst 0, 1) := by decide +kernel
theorem dX5_readLaw_10 : decode cX5_readLaw 10 = .ok (.ireturn, 1) := by decide +kernel
theorem dX5_readLaw_11 : decode cX5_readLaw 11 = .ok (.aload_n 1, 1) := by decide +kernel
theorem dX5_readLaw_12 : decode cX5_readLaw 12 = .ok (.aload_n 0, 1) := by decide +kernel
theorem dX5_readLaw_13 : decode cX5_readLaw 13 = .ok (.iconst 2, 1) := by decide +kernel
theorem dX5_readLaw_14 : decode cX5_readLaw 14 = .ok (.bipush 6, 2) := by decide +kernel
theorem dX5_readLaw_16 : decode cX5_readLaw 16 = .ok (.invokevirtual 45, 3) := by decide +kernel
theorem dX5_readLaw_19 : decode cX5_readLaw 19 = .ok (.putfield 49, 3) := by decide +kernel
theorem dX5_readLaw_22 : decode cX5_readLaw 22 = .ok (.aload_n 1, 1) := by decide +kernel
theorem dX5_readLaw_23 : decode cX5_readLaw 23 = .ok (.getfield 49, 3) := by decide +kernel
theorem dX5_readLaw_26 : decode cX5_readLaw 26 = .ok (.iconst (-1), 1) := by decide +kernel
theorem dX5_readLaw_27 : decode cX5_readLaw 27 = .ok (.if_icmp .eq 12, 3) := by decide +kernel
theorem dX5_readLaw_30 : decode cX5_readLaw 30 = .ok (.aload_n 0, 1) := by decide +kernel
theorem dX5_readLaw_31 : decode cX5_readLaw 31 = .ok (.bipush 44, 2) := by decide +kernel
theorem dX5_readLaw_33 : decode cX5_readLaw 33 = .ok (.invokevirtual 41, 3) := by decide +kernel
theorem dX5_readLaw_36 : decode cX5_readLaw 36 = .ok (.ifCond .ne 5, 3) := by decide +kernel
theorem dX5_readLaw_39 : decode cX5_readLaw 39 = .ok (.iconst 0, 1) := by decide +kernel
theorem dX5_readLaw_40 : decode cX5_readLaw 40 = .ok (.ireturn, 1) := by decide +kernel
theorem dX5_readLaw_41 : decode cX5_readLaw 41 = .ok (.aload_n 1, 1) := by decide +kernel
theorem dX5_readLaw_42 : decode cX5_readLaw 42 = .ok (.aload_n 0, 1) := by decide +kernel
theorem dX5_readLaw_43 : decode cX5_readLaw 43 = .ok (.iconst 0, 1) := by decide +kernel
theorem dX5_readLaw_44 : decode cX5_readLaw 44 = .ok (.bipush 6, 2) := by decide +kernel
theorem dX5_readLaw_46 : decode cX5_readLaw 46 = .ok (.invokevirtual 45, 3) := by decide +kernel
theorem dX5_readLaw_49 : decode cX5_readLaw 49 = .ok (.putfield 52, 3) := by decide +kernel
theorem dX5_readLaw_52 : decode cX5_readLaw 52 = .ok (.aload_n 1, 1) := by decide +kernel
theorem dX5_readLaw_53 : decode cX5_readLaw 53 = .ok (.getfield 52, 3) := by decide +kernel
theorem dX5_readLaw_56 : decode cX5_readLaw 56 = .ok (.iconst (-1), 1) := by decide +kernel
theorem dX5_readLaw_57 : decode cX5_readLaw 57 = .ok (.if_icmp .eq 16, 3) := by decide +kernel
theorem dX5_readLaw_60 : decode cX5_readLaw 60 = .ok (.aload_n 0, 1) := by decide +kernel
theorem dX5_readLaw_61 : decode cX5_readLaw 61 = .ok (.bipush 59, 2) := by decide +kernel
theorem dX5_readLaw_63 : decode cX5_readLaw 63 = .ok (.invokevirtual 41, 3) := by decide +kernel
theorem dX5_readLaw_66 : decode cX5_readLaw 66 = .ok (.ifCond .eq 7, 3) := by decide +kernel
theorem dX5_readLaw_69 : decode cX5_readLaw 69 = .ok (.iconst 1, 1) := by decide +kernel
theorem dX5_readLaw_70 : decode cX5_readLaw 70 = .ok (.goto 4, 3) := by decide +kernel
theorem dX5_readLaw_73 : decode cX5_readLaw 73 = .ok (.iconst 0, 1) := by decide +kernel
theorem dX5_readLaw_74 : decode cX5_readLaw 74 = .ok (.ireturn, 1) := by decide +kernel
set_option maxRecDepth 20000 in
theorem ggX5_readClues_X5_readClue : GoodIn wsX5_readClues wsX5_readClue := goodIn_r _ [7, 8, 1, 9, 10, 11, 6, 12, 13, 14, 15, 16, 17, 18, 19, 20, 21, 22, 23, 24, 25, 26, 27, 28, 2, 29, 30, 31, 32, 33, 34, 35, 36, 37, 38, 39, 40, 41, 42, 43, 44, 45, 46, 47, 48, 49, 50, 51, 52, 53, 54, 55, 56, 57, 58] (by decide +kernel) (by decide +kernel)
set_option maxRecDepth 20000 in
theorem gX5_readClues_X5_readClue : GoodIn wsX5_readClues (wsV RX5 55 RX5 yX5_readClue wsX5_readClue) := goodIn_app (goodIn_of _ (by decide +kernel)) ggX5_readClues_X5_readClue
theorem dX5_readClues_0 : decode cX5_readClues 0 = .ok (.iconst 0, 1) := by decide +kernel
theorem dX5_readClues_1 : decode cX5_readClues 1 = .ok (.istore_n 2, 1) := by decide +kernel
theorem dX5_readClues_2 : decode cX5_readClues 2 = .ok (.iload_n 2, 1) := by decide +kernel
theorem dX5_readClues_3 : decode cX5_readClues 3 = .ok (.bipush 6, 2) := by decide +kernel
theorem dX5_readClues_5 : decode cX5_readClues 5 = .ok (.if_icmp .gt 29, 3) := by decide +kernel
theorem dX5_readClues_8 : decode cX5_readClues 8 = .ok (.aload_n 0, 1) := by decide +kernel
theorem dX5_readClues_9 : decode cX5_readClues 9 = .ok (.getfield 25, 3) := by decide +kernel
theorem dX5_readClues_12 : decode cX5_readClues 12 = .ok (.aload_n 0, 1) := by decide +kernel
theorem dX5_readClues_13 : decode cX5_readClues 13 = .ok (.getfield 19, 3) := by decide +kernel
theorem dX5_readClues_16 : decode cX5_readClues 16 = .ok (.if_icmp .ge 18, 3) := by decide +kernel
theorem dX5_readClues_19 : decode cX5_readClues 19 = .ok (.aload_n 0, 1) := by decide +kernel
theorem dX5_readClues_20 : decode cX5_readClues 20 = .ok (.aload_n 1, 1) := by decide +kernel
theorem dX5_readClues_21 : decode cX5_readClues 21 = .ok (.invokevirtual 55, 3) := by decide +kernel
theorem dX5_readClues_24 : decode cX5_readClues 24 = .ok (.ifCond .ne 4, 3) := by decide +kernel
theorem dX5_readClues_27 : decode cX5_readClues 27 = .ok (.return_, 1) := by decide +kernel
theorem dX5_readClues_28 : decode cX5_readClues 28 = .ok (.iinc 2 1, 3) := by decide +kernel
theorem dX5_readClues_31 : decode cX5_readClues 31 = .ok (.goto (-29), 3) := by decide +kernel
theorem dX5_readClues_34 : decode cX5_readClues 34 = .ok (.return_, 1) := by decide +kernel
set_option maxRecDepth 20000 in
theorem ggX5_readClue_X5_kindBy : GoodIn wsX5_readClue wsX5_kindBy := goodIn_r _ [7] (by decide +kernel) (by decide +kernel)
set_option maxRecDepth 20000 in
theorem gX5_readClue_X5_kindBy : GoodIn wsX5_readClue (va_wsS RX5 58 yX5_kindBy wsX5_kindBy) := goodIn_app (goodIn_of _ (by decide +kernel)) ggX5_readClue_X5_kindBy
set_option maxRecDepth 20000 in
theorem ggX5_readClue_X5_blame : GoodIn wsX5_readClue wsX5_blame := goodIn_r _ [11, 12, 2, 13, 41, 42, 43, 44, 45] (by decide +kernel) (by decide +kernel)
set_option maxRecDepth 20000 in
theorem gX5_readClue_X5_blame : GoodIn wsX5_readClue (wsV RX5 62 RX5 yX5_blame wsX5_blame) := goodIn_app (goodIn_of _ (by decide +kernel)) ggX5_readClue_X5_blame
set_option maxRecDepth 20000 in
theorem ggX5_readClue_X2_everyone : GoodIn wsX5_readClue wsX2_everyone := goodIn_r _ [18, 19, 46, 47, 48, 49, 50, 51, 52, 53, 54] (by decide +kernel) (by decide +kernel)
set_option maxRecDepth 20000 in
theorem gX5_readClue_X2_everyone : GoodIn wsX5_readClue (wsV RX5 68 RX2 yX2_everyone wsX2_everyone) := goodIn_app (goodIn_of _ (by decide +kernel)) ggX5_readClue_X2_everyone
set_option maxRecDepth 20000 in
theorem ggX5_readClue_X5_takeNumber : GoodIn wsX5_readClue wsX5_takeNumber := goodIn_r _ [23, 2, 24, 1, 25, 26, 27, 8, 9, 10, 6, 11, 12, 13, 41, 42, 43, 44, 45] (by decide +kernel) (by decide +kernel)
set_option maxRecDepth 20000 in
theorem gX5_readClue_X5_takeNumber : GoodIn wsX5_readClue (wsV RX5 45 RX5 yX5_takeNumber wsX5_takeNumber) := goodIn_app (goodIn_of _ (by decide +kernel)) ggX5_readClue_X5_takeNumber
set_option maxRecDepth 20000 in
theorem ggX5_readClue_X5_take : GoodIn wsX5_readClue wsX5_take := goodIn_r _ [31, 2, 24, 1, 8, 9, 10, 6, 11, 12, 13, 41, 42, 43, 44, 45] (by decide +kernel) (by decide +kernel)
set_option maxRecDepth 20000 in
theorem gX5_readClue_X5_take : GoodIn wsX5_readClue (wsV RX5 41 RX5 yX5_take wsX5_take) := goodIn_app (goodIn_of _ (by decide +kernel)) ggX5_readClue_X5_take
set_option maxRecDepth 20000 in
theorem ggX5_readClue_X2_add : GoodIn wsX5_readClue wsX2_add := goodIn_r _ [35, 36, 37, 38, 39, 40, 46, 47, 48, 49, 50, 51, 52, 53, 54] (by decide +kernel) (by decide +kernel)
set_option maxRecDepth 20000 in
theorem gX5_readClue_X2_add : GoodIn wsX5_readClue (wsV RX5 72 RX2 yX2_add wsX2_add) := goodIn_app (goodIn_of _ (by decide +kernel)) ggX5_readClue_X2_add
theorem dX5_readClue_0 : decode cX5_readClue 0 = .ok (.aload_n 0, 1) := by decide +kernel
theorem dX5_readClue_1 : decode cX5_readClue 1 = .ok (.getfield 11, 3) := by decide +kernel
theorem dX5_readClue_4 : decode cX5_readClue 4 = .ok (.aload_n 0, 1) := by decide +kernel
theorem dX5_readClue_5 : decode cX5_readClue 5 = .ok (.getfield 25, 3) := by decide +kernel
theorem dX5_readClue_8 : decode cX5_readClue 8 = .ok (.iaload, 1) := by decide +kernel
theorem dX5_readClue_9 : decode cX5_readClue 9 = .ok (.invokestatic 58, 3) := by decide +kernel
theorem dX5_readClue_12 : decode cX5_readClue 12 = .ok (.istore_n 2, 1) := by decide +kernel
theorem dX5_readClue_13 : decode cX5_readClue 13 = .ok (.iload_n 2, 1) := by decide +kernel
theorem dX5_readClue_14 : decode cX5_readClue 14 = .ok (.ifCond .ne 9, 3) := by decide +kernel
theorem dX5_readClue_17 : decode cX5_readClue 17 = .ok (.aload_n 0, 1) := by decide +kernel
theorem dX5_readClue_18 : decode cX5_readClue 18 = .ok (.iconst 1, 1) := by decide +kernel
theorem dX5_readClue_19 : decode cX5_readClue 19 = .ok (.invokevirtual 62, 3) := by decide +kernel
theorem dX5_readClue_22 : decode cX5_readClue 22 = .ok (.ireturn, 1) := by decide +kernel
theorem dX5_readClue_23 : decode cX5_readClue 23 = .ok (.aload_n 1, 1) := by decide +kernel
theorem dX5_readClue_24 : decode cX5_readClue 24 = .ok (.getfield 65, 3) := by decide +kernel
theorem dX5_readClue_27 : decode cX5_readClue 27 = .ok (.bipush 6, 2) := by decide +kernel
theorem dX5_readClue_29 : decode cX5_readClue 29 = .ok (.if_icmp .lt 9, 3) := by decide +kernel
theorem dX5_readClue_32 : decode cX5_readClue 32 = .ok (.aload_n 0, 1) := by decide +kernel
theorem dX5_readClue_33 : decode cX5_readClue 33 = .ok (.iconst 3, 1) := by decide +kernel
theorem dX5_readClue_34 : decode cX5_readClue 34 = .ok (.invokevirtual 62, 3) := by decide +kernel
theorem dX5_readClue_37 : decode cX5_readClue 37 = .ok (.ireturn, 1) := by decide +kernel
theorem dX5_readClue_38 : decode cX5_readClue 38 = .ok (.aload_n 0, 1) := by decide +kernel
theorem dX5_readClue_39 : decode cX5_readClue 39 = .ok (.dup, 1) := by decide +kernel
theorem dX5_readClue_40 : decode cX5_readClue 40 = .ok (.getfield 25, 3) := by decide +kernel
theorem dX5_readClue_43 : decode cX5_readClue 43 = .ok (.iconst 1, 1) := by decide +kernel
theorem dX5_readClue_44 : decode cX5_readClue 44 = .ok (.iadd, 1) := by decide +kernel
theorem dX5_readClue_45 : decode cX5_readClue 45 = .ok (.putfield 25, 3) := by decide +kernel
theorem dX5_readClue_48 : decode cX5_readClue 48 = .ok (.aload_n 0, 1) := by decide +kernel
theorem dX5_readClue_49 : decode cX5_readClue 49 = .ok (.iconst 1, 1) := by decide +kernel
theorem dX5_readClue_50 : decode cX5_readClue 50 = .ok (.aload_n 1, 1) := by decide +kernel
theorem dX5_readClue_51 : decode cX5_readClue 51 = .ok (.invokevirtual 68, 3) := by decide +kernel
theorem dX5_readClue_54 : decode cX5_readClue 54 = .ok (.invokevirtual 45, 3) := by decide +kernel
theorem dX5_readClue_57 : decode cX5_readClue 57 = .ok (.istore_n 3, 1) := by decide +kernel
theorem dX5_readClue_58 : decode cX5_readClue 58 = .ok (.iload_n 3, 1) := by decide +kernel
theorem dX5_readClue_59 : decode cX5_readClue 59 = .ok (.iconst (-1), 1) := by decide +kernel
theorem dX5_readClue_60 : decode cX5_readClue 60 = .ok (.if_icmp .eq 12, 3) := by decide +kernel
theorem dX5_readClue_63 : decode cX5_readClue 63 = .ok (.aload_n 0, 1) := by decide +kernel
theorem dX5_readClue_64 : decode cX5_readClue 64 = .ok (.bipush 44, 2) := by decide +kernel
theorem dX5_readClue_66 : decode cX5_readClue 66 = .ok (.invokevirtual 41, 3) := by decide +kernel
theorem dX5_readClue_69 : decode cX5_readClue 69 = .ok (.ifCond .ne 5, 3) := by decide +kernel
theorem dX5_readClue_72 : decode cX5_readClue 72 = .ok (.iconst 0, 1) := by decide +kernel
theorem dX5_readClue_73 : decode cX5_readClue 73 = .ok (.ireturn, 1) := by decide +kernel
theorem dX5_readClue_74 : decode cX5_readClue 74 = .ok (.aload_n 0, 1) := by decide +kernel
theorem dX5_readClue_75 : decode cX5_readClue 75 = .ok (.iconst 2, 1) := by decide +kernel
theorem dX5_readClue_76 : decode cX5_readClue 76 = .ok (.iconst 4, 1) := by decide +kernel
theorem dX5_readClue_77 : decode cX5_readClue 77 = .ok (.invokevirtual 45, 3) := by decide +kernel
theorem dX5_readClue_80 : decode cX5_readClue 80 = .ok (.istore 4, 2) := by decide +kernel
theorem dX5_readClue_82 : decode cX5_readClue 82 = .ok (.iload 4, 2) := by decide +kernel
theorem dX5_readClue_84 : decode cX5_readClue 84 = .ok (.iconst (-1), 1) := by decide +kernel
theorem dX5_readClue_85 : decode cX5_readClue 85 = .ok (.if_icmp .eq 12, 3) := by decide +kernel
theorem dX5_readClue_88 : decode cX5_readClue 88 = .ok (.aload_n 0, 1) := by decide +kernel
theorem dX5_readClue_89 : decode cX5_readClue 89 = .ok (.bipush 44, 2) := by decide +kernel
theorem dX5_readClue_91 : decode cX5_readClue 91 = .ok (.invokevirtual 41, 3) := by decide +kernel
theorem dX5_readClue_94 : decode cX5_readClue 94 = .ok (.ifCond .ne 5, 3) := by decide +kernel
theorem dX5_readClue_97 : decode cX5_readClue 97 = .ok (.iconst 0, 1) := by decide +kernel
theorem dX5_readClue_98 : decode cX5_readClue 98 = .ok (.ireturn, 1) := by decide +kernel
theorem dX5_readClue_99 : decode cX5_readClue 99 = .ok (.aload_n 0, 1) := by decide +kernel
theorem dX5_readClue_100 : decode cX5_readClue 100 = .ok (.iconst 0, 1) := by decide +kernel
theorem dX5_readClue_101 : decode cX5_readClue 101 = .ok (.iload 4, 2) := by decide +kernel
theorem dX5_readClue_103 : decode cX5_readClue 103 = .ok (.iconst 1, 1) := by decide +kernel
theorem dX5_readClue_104 : decode cX5_readClue 104 = .ok (.isub, 1) := by decide +kernel
theorem dX5_readClue_105 : decode cX5_readClue 105 = .ok (.invokevirtual 45, 3) := by decide +kernel
theorem dX5_readClue_108 : decode cX5_readClue 108 = .ok (.istore 5, 2) := by decide +kernel
theorem dX5_readClue_110 : decode cX5_readClue 110 = .ok (.iload 5, 2) := by decide +kernel
theorem dX5_readClue_112 : decode cX5_readClue 112 = .ok (.iconst (-1), 1) := by decide +kernel
theorem dX5_readClue_113 : decode cX5_readClue 113 = .ok (.if_icmp .eq 12, 3) := by decide +kernel
theorem dX5_readClue_116 : decode cX5_readClue 116 = .ok (.aload_n 0, 1) := by decide +kernel
theorem dX5_readClue_117 : decode cX5_readClue 117 = .ok (.bipush 59, 2) := by decide +kernel
theorem dX5_readClue_119 : decode cX5_readClue 119 = .ok (.invokevirtual 41, 3) := by decide +kernel
theorem dX5_readClue_122 : decode cX5_readClue 122 = .ok (.ifCond .ne 5, 3) := by decide +kernel
theorem dX5_readClue_125 : decode cX5_readClue 125 = .ok (.iconst 0, 1) := by decide +kernel
theorem dX5_readClue_126 : decode cX5_readClue 126 = .ok (.ireturn, 1) := by decide +kernel
theorem dX5_readClue_127 : decode cX5_readClue 127 = .ok (.aload_n 1, 1) := by decide +kernel
theorem dX5_readClue_128 : decode cX5_readClue 128 = .ok (.iload_n 2, 1) := by decide +kernel
theorem dX5_readClue_129 : decode cX5_readClue 129 = .ok (.iload_n 3, 1) := by decide +kernel
theorem dX5_readClue_130 : decode cX5_readClue 130 = .ok (.iload 4, 2) := by decide +kernel
theorem dX5_readClue_132 : decode cX5_readClue 132 = .ok (.iload 5, 2) := by decide +kernel
theorem dX5_readClue_134 : decode cX5_readClue 134 = .ok (.invokevirtual 72, 3) := by decide +kernel
theorem dX5_readClue_137 : decode cX5_readClue 137 = .ok (.iconst 1, 1) := by decide +kernel
theorem dX5_readClue_138 : decode cX5_readClue 138 = .ok (.ireturn, 1) := by decide +kernel
theorem dX5_kindBy_0 : decode cX5_kindBy 0 = .ok (.iload_n 0, 1) := by decide +kernel
theorem dX5_kindBy_1 : decode cX5_kindBy 1 = .ok (.lookupswitch 61 #[(97, 59), (103, 53), (115, 57), (116, 51), (118, 55)], 51) := by decide +kernel
theorem dX5_kindBy_52 : decode cX5_kindBy 52 = .ok (.iconst 1, 1) := by decide +kernel
theorem dX5_kindBy_53 : decode cX5_kindBy 53 = .ok (.ireturn, 1) := by decide +kernel
theorem dX5_kindBy_54 : decode cX5_kindBy 54 = .ok (.iconst 2, 1) := by decide +kernel
theorem dX5_kindBy_55 : decode cX5_kindBy 55 = .ok (.ireturn, 1) := by decide +kernel
theorem dX5_kindBy_56 : decode cX5_kindBy 56 = .ok (.iconst 3, 1) := by decide +kernel
theorem dX5_kindBy_57 : decode cX5_kindBy 57 = .ok (.ireturn, 1) := by decide +kernel
theorem dX5_kindBy_58 : decode cX5_kindBy 58 = .ok (.iconst 4, 1) := by decide +kernel
theorem dX5_kindBy_59 : decode cX5_kindBy 59 = .ok (.ireturn, 1) := by decide +kernel
theorem dX5_kindBy_60 : decode cX5_kindBy 60 = .ok (.iconst 5, 1) := by decide +kernel
theorem dX5_kindBy_61 : decode cX5_kindBy 61 = .ok (.ireturn, 1) := by decide +kernel
theorem dX5_kindBy_62 : decode cX5_kindBy 62 = .ok (.iconst 0, 1) := by decide +kernel
theorem dX5_kindBy_63 : decode cX5_kindBy 63 = .ok (.ireturn, 1) := by decide +kernel
set_option maxRecDepth 20000 in
theorem ggX5_take_X5_blame : GoodIn wsX5_take wsX5_blame := goodIn_r _ [8, 9, 1, 10, 11, 12, 13, 14, 15] (by decide +kernel) (by decide +kernel)
set_option maxRecDepth 20000 in
theorem gX5_take_X5_blame : GoodIn wsX5_take (wsV RX5 62 RX5 yX5_blame wsX5_blame) := goodIn_app (goodIn_of _ (by decide +kernel)) ggX5_take_X5_blame
theorem dX5_take_0 : decode cX5_take 0 = .ok (.aload_n 0, 1) := by decide +kernel
theorem dX5_take_1 : decode cX5_take 1 = .ok (.getfield 25, 3) := by decide +kernel
theorem dX5_take_4 : decode cX5_take 4 = .ok (.aload_n 0, 1) := by decide +kernel
theorem dX5_take_5 : decode cX5_take 5 = .ok (.getfield 19, 3) := by decide +kernel
theorem dX5_take_8 : decode cX5_take 8 = .ok (.if_icmp .ge 16, 3) := by decide +kernel
theorem dX5_take_11 : decode cX5_take 11 = .ok (.aload_n 0, 1) := by decide +kernel
theorem dX5_take_12 : decode cX5_take 12 = .ok (.getfield 11, 3) := by decide +kernel
theorem dX5_take_15 : decode cX5_take 15 = .ok (.aload_n 0, 1) := by decide +kernel
theorem dX5_take_16 : decode cX5_take 16 = .ok (.getfield 25, 3) := by decide +kernel
theorem dX5_take_19 : decode cX5_take 19 = .ok (.iaload, 1) := by decide +kernel
theorem dX5_take_20 : decode cX5_take 20 = .ok (.iload_n 1, 1) := by decide +kernel
theorem dX5_take_21 : decode cX5_take 21 = .ok (.if_icmp .eq 9, 3) := by decide +kernel
theorem dX5_take_24 : decode cX5_take 24 = .ok (.aload_n 0, 1) := by decide +kernel
theorem dX5_take_25 : decode cX5_take 25 = .ok (.iconst 1, 1) := by decide +kernel
theorem dX5_take_26 : decode cX5_take 26 = .ok (.invokevirtual 62, 3) := by decide +kernel
theorem dX5_take_29 : decode cX5_take 29 = .ok (.ireturn, 1) := by decide +kernel
theorem dX5_take_30 : decode cX5_take 30 = .ok (.aload_n 0, 1) := by decide +kernel
theorem dX5_take_31 : decode cX5_take 31 = .ok (.dup, 1) := by decide +kernel
theorem dX5_take_32 : decode cX5_take 32 = .ok (.getfield 25, 3) := by decide +kernel
theorem dX5_take_35 : decode cX5_take 35 = .ok (.iconst 1, 1) := by decide +kernel
theorem dX5_take_36 : decode cX5_take 36 = .ok (.iadd, 1) := by decide +kernel
theorem dX5_take_37 : decode cX5_take 37 = .ok (.putfield 25, 3) := by decide +kernel
theorem dX5_take_40 : decode cX5_take 40 = .ok (.iconst 1, 1) := by decide +kernel
theorem dX5_take_41 : decode cX5_take 41 = .ok (.ireturn, 1) := by decide +kernel
set_option maxRecDepth 20000 in
theorem ggX5_takeNumber_X6_isWithin : GoodIn wsX5_takeNumber wsX6_isWithin := goodIn_r _ [6] (by decide +kernel) (by decide +kernel)
set_option maxRecDepth 20000 in
theorem gX5_takeNumber_X6_isWithin_n76 : GoodIn wsX5_takeNumber (wsX6_isWithin) := ggX5_takeNumber_X6_isWithin
set_option maxRecDepth 20000 in
theorem ggX5_takeNumber_X5_blame : GoodIn wsX5_takeNumber wsX5_blame := goodIn_r _ [11, 12, 1, 13, 14, 15, 16, 17, 18] (by decide +kernel) (by decide +kernel)
set_option maxRecDepth 20000 in
theorem gX5_takeNumber_X5_blame : GoodIn wsX5_takeNumber (wsV RX5 62 RX5 yX5_blame wsX5_blame) := goodIn_app (goodIn_of _ (by decide +kernel)) ggX5_takeNumber_X5_blame
theorem dX5_takeNumber_0 : decode cX5_takeNumber 0 = .ok (.aload_n 0, 1) := by decide +kernel
theorem dX5_takeNumber_1 : decode cX5_takeNumber 1 = .ok (.getfield 25, 3) := by decide +kernel
theorem dX5_takeNumber_4 : decode cX5_takeNumber 4 = .ok (.istore_n 3, 1) := by decide +kernel
theorem dX5_takeNumber_5 : decode cX5_takeNumber 5 = .ok (.iconst 0, 1) := by decide +kernel
theorem dX5_takeNumber_6 : decode cX5_takeNumber 6 = .ok (.istore 4, 2) := by decide +kernel
theorem dX5_takeNumber_8 : decode cX5_takeNumber 8 = .ok (.iload_n 3, 1) := by decide +kernel
theorem dX5_takeNumber_9 : decode cX5_takeNumber 9 = .ok (.aload_n 0, 1) := by decide +kernel
theorem dX5_takeNumber_10 : decode cX5_takeNumber 10 = .ok (.getfield 19, 3) := by decide +kernel
theorem dX5_takeNumber_13 : decode cX5_takeNumber 13 = .ok (.if_icmp .ge 42, 3) := by decide +kernel
theorem dX5_takeNumber_16 : decode cX5_takeNumber 16 = .ok (.aload_n 0, 1) := by decide +kernel
theorem dX5_takeNumber_17 : decode cX5_takeNumber 17 = .ok (.getfield 11, 3) := by decide +kernel
theorem dX5_takeNumber_20 : decode cX5_takeNumber 20 = .ok (.iload_n 3, 1) := by decide +kernel
theorem dX5_takeNumber_21 : decode cX5_takeNumber 21 = .ok (.iaload, 1) := by decide +kernel
theorem dX5_takeNumber_22 : decode cX5_takeNumber 22 = .ok (.bipush 48, 2) := by decide +kernel
theorem dX5_takeNumber_24 : decode cX5_takeNumber 24 = .ok (.bipush 57, 2) := by decide +kernel
theorem dX5_takeNumber_26 : decode cX5_takeNumber 26 = .ok (.invokestatic 76, 3) := by decide +kernel
theorem dX5_takeNumber_29 : decode cX5_takeNumber 29 = .ok (.ifCond .eq 26, 3) := by decide +kernel
theorem dX5_takeNumber_32 : decode cX5_takeNumber 32 = .ok (.iload 4, 2) := by decide +kernel
theorem dX5_takeNumber_34 : decode cX5_takeNumber 34 = .ok (.bipush 10, 2) := by decide +kernel
theorem dX5_takeNumber_36 : decode cX5_takeNumber 36 = .ok (.imul, 1) := by decide +kernel
theorem dX5_takeNumber_37 : decode cX5_takeNumber 37 = .ok (.aload_n 0, 1) := by decide +kernel
theorem dX5_takeNumber_38 : decode cX5_takeNumber 38 = .ok (.getfield 11, 3) := by decide +kernel
theorem dX5_takeNumber_41 : decode cX5_takeNumber 41 = .ok (.iload_n 3, 1) := by decide +kernel
theorem dX5_takeNumber_42 : decode cX5_takeNumber 42 = .ok (.iaload, 1) := by decide +kernel
theorem dX5_takeNumber_43 : decode cX5_takeNumber 43 = .ok (.iadd, 1) := by decide +kernel
theorem dX5_takeNumber_44 : decode cX5_takeNumber 44 = .ok (.bipush 48, 2) := by decide +kernel
theorem dX5_takeNumber_46 : decode cX5_takeNumber 46 = .ok (.isub, 1) := by decide +kernel
theorem dX5_takeNumber_47 : decode cX5_takeNumber 47 = .ok (.istore 4, 2) := by decide +kernel
theorem dX5_takeNumber_49 : decode cX5_takeNumber 49 = .ok (.iinc 3 1, 3) := by decide +kernel
theorem dX5_takeNumber_52 : decode cX5_takeNumber 52 = .ok (.goto (-44), 3) := by decide +kernel
theorem dX5_takeNumber_55 : decode cX5_takeNumber 55 = .ok (.iload_n 3, 1) := by decide +kernel
theorem dX5_takeNumber_56 : decode cX5_takeNumber 56 = .ok (.aload_n 0, 1) := by decide +kernel
theorem dX5_takeNumber_57 : decode cX5_takeNumber 57 = .ok (.getfield 25, 3) := by decide +kernel
theorem dX5_takeNumber_60 : decode cX5_takeNumber 60 = .ok (.if_icmp .eq 13, 3) := by decide +kernel
theorem dX5_takeNumber_63 : decode cX5_takeNumber 63 = .ok (.iload_n 3, 1) := by decide +kernel
theorem dX5_takeNumber_64 : decode cX5_takeNumber 64 = .ok (.aload_n 0, 1) := by decide +kernel
theorem dX5_takeNumber_65 : decode cX5_takeNumber 65 = .ok (.getfield 25, 3) := by decide +kernel
theorem dX5_takeNumber_68 : decode cX5_takeNumber 68 = .ok (.isub, 1) := by decide +kernel
theorem dX5_takeNumber_69 : decode cX5_takeNumber 69 = .ok (.iconst 2, 1) := by decide +kernel
theorem dX5_takeNumber_70 : decode cX5_takeNumber 70 = .ok (.if_icmp .le 11, 3) := by decide +kernel
theorem dX5_takeNumber_73 : decode cX5_takeNumber 73 = .ok (.aload_n 0, 1) := by decide +kernel
theorem dX5_takeNumber_74 : decode cX5_takeNumber 74 = .ok (.iconst 1, 1) := by decide +kernel
theorem dX5_takeNumber_75 : decode cX5_takeNumber 75 = .ok (.invokevirtual 62, 3) := by decide +kernel
theorem dX5_takeNumber_78 : decode cX5_takeNumber 78 = .ok (.pop, 1) := by decide +kernel
theorem dX5_takeNumber_79 : decode cX5_takeNumber 79 = .ok (.iconst (-1), 1) := by decide +kernel
theorem dX5_takeNumber_80 : decode cX5_takeNumber 80 = .ok (.ireturn, 1) := by decide +kernel
theorem dX5_takeNumber_81 : decode cX5_takeNumber 81 = .ok (.iload 4, 2) := by decide +kernel
theorem dX5_takeNumber_83 : decode cX5_takeNumber 83 = .ok (.iload_n 1, 1) := by decide +kernel
theorem dX5_takeNumber_84 : decode cX5_takeNumber 84 = .ok (.iload_n 2, 1) := by decide +kernel
theorem dX5_takeNumber_85 : decode cX5_takeNumber 85 = .ok (.invokestatic 76, 3) := by decide +kernel
theorem dX5_takeNumber_88 : decode cX5_takeNumber 88 = .ok (.ifCond .ne 11, 3) := by decide +kernel
theorem dX5_takeNumber_91 : decode cX5_takeNumber 91 = .ok (.aload_n 0, 1) := by decide +kernel
theorem dX5_takeNumber_92 : decode cX5_takeNumber 92 = .ok (.iconst 2, 1) := by decide +kernel
theorem dX5_takeNumber_93 : decode cX5_takeNumber 93 = .ok (.invokevirtual 62, 3) := by decide +kernel
theorem dX5_takeNumber_96 : decode cX5_takeNumber 96 = .ok (.pop, 1) := by decide +kernel
theorem dX5_takeNumber_97 : decode cX5_takeNumber 97 = .ok (.iconst (-1), 1) := by decide +kernel
theorem dX5_takeNumber_98 : decode cX5_takeNumber 98 = .ok (.ireturn, 1) := by decide +kernel
theorem dX5_takeNumber_99 : decode cX5_takeNumber 99 = .ok (.aload_n 0, 1) := by decide +kernel
theorem dX5_takeNumber_100 : decode cX5_takeNumber 100 = .ok (.iload_n 3, 1) := by decide +kernel
theorem dX5_takeNumber_101 : decode cX5_takeNumber 101 = .ok (.putfield 25, 3) := by decide +kernel
theorem dX5_takeNumber_104 : decode cX5_takeNumber 104 = .ok (.iload 4, 2) := by decide +kernel
theorem dX5_takeNumber_106 : decode cX5_takeNumber 106 = .ok (.ireturn, 1) := by decide +kernel
theorem dX5_blame_0 : decode cX5_blame 0 = .ok (.aload_n 0, 1) := by decide +kernel
theorem dX5_blame_1 : decode cX5_blame 1 = .ok (.iload_n 1, 1) := by decide +kernel
theorem dX5_blame_2 : decode cX5_blame 2 = .ok (.putfield 22, 3) := by decide +kernel
theorem dX5_blame_5 : decode cX5_blame 5 = .ok (.aload_n 0, 1) := by decide +kernel
theorem dX5_blame_6 : decode cX5_blame 6 = .ok (.aload_n 0, 1) := by decide +kernel
theorem dX5_blame_7 : decode cX5_blame 7 = .ok (.getfield 25, 3) := by decide +kernel
theorem dX5_blame_10 : decode cX5_blame 10 = .ok (.putfield 15, 3) := by decide +kernel
theorem dX5_blame_13 : decode cX5_blame 13 = .ok (.iconst 0, 1) := by decide +kernel
theorem dX5_blame_14 : decode cX5_blame 14 = .ok (.ireturn, 1) := by decide +kernel
set_option maxRecDepth 20000 in
theorem ggX6_init_X4_init : GoodIn wsX6_init wsX4_init := goodIn_r _ [32, 33, 2, 3, 34, 35, 36, 37, 38, 39, 40, 41, 42, 72, 73, 74] (by decide +kernel) (by decide +kernel)
set_option maxRecDepth 20000 in
theorem gX6_init_X4_init : GoodIn wsX6_init (wsX4_init) := ggX6_init_X4_init
set_option maxRecDepth 20000 in
theorem ggX6_init_X5_init : GoodIn wsX6_init wsX5_init := goodIn_r _ [44, 45, 2, 3, 34, 46, 47, 84, 85, 86, 87, 88] (by decide +kernel) (by decide +kernel)
set_option maxRecDepth 20000 in
theorem gX6_init_X5_init_n18 : GoodIn wsX6_init (wsX5_init) := ggX6_init_X5_init
set_option maxRecDepth 20000 in
theorem ggX6_init_X0_init : GoodIn wsX6_init wsX0_init := goodIn_r _ [49, 50, 2, 3, 34, 51, 52, 53, 89, 90, 91, 92, 93] (by decide +kernel) (by decide +kernel)
set_option maxRecDepth 20000 in
theorem gX6_init_X0_init_n25 : GoodIn wsX6_init (wsX0_init) := ggX6_init_X0_init
set_option maxRecDepth 20000 in
theorem ggX6_init_X3_init : GoodIn wsX6_init wsX3_init := goodIn_r _ [55, 56, 2, 3, 57, 34, 58, 59, 60, 94, 95, 96, 97] (by decide +kernel) (by decide +kernel)
set_option maxRecDepth 20000 in
theorem gX6_init_X3_init_n32 : GoodIn wsX6_init (wsX3_init) := ggX6_init_X3_init
set_option maxRecDepth 20000 in
theorem ggX6_init_X1_init : GoodIn wsX6_init wsX1_init := goodIn_r _ [62, 63, 2, 3, 34, 64, 98, 99] (by decide +kernel) (by decide +kernel)
set_option maxRecDepth 20000 in
theorem gX6_init_X1_init_n39 : GoodIn wsX6_init (wsX1_init) := ggX6_init_X1_init
set_option maxRecDepth 20000 in
theorem ggX6_init_X2_init : GoodIn wsX6_init wsX2_init := goodIn_r _ [66, 67, 2, 3, 34, 68, 69, 70, 71, 100, 101, 102, 103, 104, 105, 106, 107, 108] (by decide +kernel) (by decide +kernel)
set_option maxRecDepth 20000 in
theorem gX6_init_X2_init_n46 : GoodIn wsX6_init (wsX2_init) := ggX6_init_X2_init
theorem dX6_init_0 : decode cX6_init 0 = .ok (.aload_n 0, 1) := by decide +kernel
theorem dX6_init_1 : decode cX6_init 1 = .ok (.invokespecial 1, 3) := by decide +kernel
theorem dX6_init_4 : decode cX6_init 4 = .ok (.aload_n 0, 1) := by decide +kernel
theorem dX6_init_5 : decode cX6_init 5 = .ok (.new 7, 3) := by decide +kernel
theorem dX6_init_8 : decode cX6_init 8 = .ok (.dup, 1) := by decide +kernel
theorem dX6_init_9 : decode cX6_init 9 = .ok (.invokespecial 9, 3) := by decide +kernel
theorem dX6_init_12 : decode cX6_init 12 = .ok (.putfield 10, 3) := by decide +kernel
theorem dX6_init_15 : decode cX6_init 15 = .ok (.aload_n 0, 1) := by decide +kernel
theorem dX6_init_16 : decode cX6_init 16 = .ok (.new 16, 3) := by decide +kernel
theorem dX6_init_19 : decode cX6_init 19 = .ok (.dup, 1) := by decide +kernel
theorem dX6_init_20 : decode cX6_init 20 = .ok (.invokespecial 18, 3) := by decide +kernel
theorem dX6_init_23 : decode cX6_init 23 = .ok (.putfield 19, 3) := by decide +kernel
theorem dX6_init_26 : decode cX6_init 26 = .ok (.aload_n 0, 1) := by decide +kernel
theorem dX6_init_27 : decode cX6_init 27 = .ok (.new 23, 3) := by decide +kernel
theorem dX6_init_30 : decode cX6_init 30 = .ok (.dup, 1) := by decide +kernel
theorem dX6_init_31 : decode cX6_init 31 = .ok (.invokespecial 25, 3) := by decide +kernel
theorem dX6_init_34 : decode cX6_init 34 = .ok (.putfield 26, 3) := by decide +kernel
theorem dX6_init_37 : decode cX6_init 37 = .ok (.aload_n 0, 1) := by decide +kernel
theorem dX6_init_38 : decode cX6_init 38 = .ok (.new 30, 3) := by decide +kernel
theorem dX6_init_41 : decode cX6_init 41 = .ok (.dup, 1) := by decide +kernel
theorem dX6_init_42 : decode cX6_init 42 = .ok (.invokespecial 32, 3) := by decide +kernel
theorem dX6_init_45 : decode cX6_init 45 = .ok (.putfield 33, 3) := by decide +kernel
theorem dX6_init_48 : decode cX6_init 48 = .ok (.aload_n 0, 1) := by decide +kernel
theorem dX6_init_49 : decode cX6_init 49 = .ok (.new 37, 3) := by decide +kernel
theorem dX6_init_52 : decode cX6_init 52 = .ok (.dup, 1) := by decide +kernel
theorem dX6_init_53 : decode cX6_init 53 = .ok (.invokespecial 39, 3) := by decide +kernel
theorem dX6_init_56 : decode cX6_init 56 = .ok (.putfield 40, 3) := by decide +kernel
theorem dX6_init_59 : decode cX6_init 59 = .ok (.aload_n 0, 1) := by decide +kernel
theorem dX6_init_60 : decode cX6_init 60 = .ok (.new 44, 3) := by decide +kernel
theorem dX6_init_63 : decode cX6_init 63 = .ok (.dup, 1) := by decide +kernel
theorem dX6_init_64 : decode cX6_init 64 = .ok (.invokespecial 46, 3) := by decide +kernel
theorem dX6_init_67 : decode cX6_init 67 = .ok (.putfield 47, 3) := by decide +kernel
theorem dX6_init_70 : decode cX6_init 70 = .ok (.aload_n 0, 1) := by decide +kernel
theorem dX6_init_71 : decode cX6_init 71 = .ok (.new 44, 3) := by decide +kernel
theorem dX6_init_74 : decode cX6_init 74 = .ok (.dup, 1) := by decide +kernel
theorem dX6_init_75 : decode cX6_init 75 = .ok (.invokespecial 46, 3) := by decide +kernel
theorem dX6_init_78 : decode cX6_init 78 = .ok (.putfield 51, 3) := by decide +kernel
theorem dX6_init_81 : decode cX6_init 81 = .ok (.aload_n 0, 1) := by decide +kernel
theorem dX6_init_82 : decode cX6_init 82 = .ok (.iconst 2, 1) := by decide +kernel
theorem dX6_init_83 : decode cX6_init 83 = .ok (.anewarray 44, 3) := by decide +kernel
theorem dX6_init_86 : decode cX6_init 86 = .ok (.dup, 1) := by decide +kernel
theorem dX6_init_87 : decode cX6_init 87 = .ok (.iconst 0, 1) := by decide +kernel
theorem dX6_init_88 : decode cX6_init 88 = .ok (.new 44, 3) := by decide +kernel
theorem dX6_init_91 : decode cX6_init 91 = .ok (.dup, 1) := by decide +kernel
theorem dX6_init_92 : decode cX6_init 92 = .ok (.invokespecial 46, 3) := by decide +kernel
theorem dX6_init_95 : decode cX6_init 95 = .ok (.aastore, 1) := by decide +kernel
theorem dX6_init_96 : decode cX6_init 96 = .ok (.dup, 1) := by decide +kernel
theorem dX6_init_97 : decode cX6_init 97 = .ok (.iconst 1, 1) := by decide +kernel
theorem dX6_init_98 : decode cX6_init 98 = .ok (.new 44, 3) := by decide +kernel
theorem dX6_init_101 : decode cX6_init 101 = .ok (.dup, 1) := by decide +kernel
theorem dX6_init_102 : decode cX6_init 102 = .ok (.invokespecial 46, 3) := by decide +kernel
theorem dX6_init_105 : decode cX6_init 105 = .ok (.aastore, 1) := by decide +kernel
theorem dX6_init_106 : decode cX6_init 106 = .ok (.putfield 54, 3) := by decide +kernel
theorem dX6_init_109 : decode cX6_init 109 = .ok (.return_, 1) := by decide +kernel
set_option maxRecDepth 20000 in
theorem ggX6_row_X4_isRow : GoodIn wsX6_row wsX4_isRow := goodIn_r _ [7] (by decide +kernel) (by decide +kernel)
set_option maxRecDepth 20000 in
theorem gX6_row_X4_isRow : GoodIn wsX6_row (wsV RX6 58 RX4 yX4_isRow wsX4_isRow) := goodIn_app (goodIn_of _ (by decide +kernel)) ggX6_row_X4_isRow
set_option maxRecDepth 20000 in
theorem ggX6_row_X6_isWithin : GoodIn wsX6_row wsX6_isWithin := goodIn_r _ [11] (by decide +kernel) (by decide +kernel)
set_option maxRecDepth 20000 in
theorem gX6_row_X6_isWithin : GoodIn wsX6_row (va_wsS RX6 62 yX6_isWithin wsX6_isWithin) := goodIn_app (goodIn_of _ (by decide +kernel)) ggX6_row_X6_isWithin
set_option maxRecDepth 20000 in
theorem ggX6_row_X6_found : GoodIn wsX6_row wsX6_found := goodIn_r _ [15, 16, 17, 33, 34, 35, 36, 37, 38, 39, 40, 41] (by decide +kernel) (by decide +kernel)
set_option maxRecDepth 20000 in
theorem gX6_row_X6_found : GoodIn wsX6_row (wsV RX6 67 RX6 yX6_found wsX6_found) := goodIn_app (goodIn_of _ (by decide +kernel)) ggX6_row_X6_found
set_option maxRecDepth 20000 in
theorem ggX6_row_X4_make : GoodIn wsX6_row wsX4_make := goodIn_r _ [21, 22, 23, 24, 25, 26, 27, 28, 42, 43, 44] (by decide +kernel) (by decide +kernel)
set_option maxRecDepth 20000 in
theorem gX6_row_X4_make : GoodIn wsX6_row (wsV RX6 71 RX4 yX4_make wsX4_make) := goodIn_app (goodIn_of _ (by decide +kernel)) ggX6_row_X4_make
set_option maxRecDepth 20000 in
theorem ggX6_row_X6_sound : GoodIn wsX6_row wsX6_sound := goodIn_r _ [32, 16, 33, 34, 35, 36, 37, 38, 39, 40, 41] (by decide +kernel) (by decide +kernel)
set_option maxRecDepth 20000 in
theorem gX6_row_X6_sound : GoodIn wsX6_row (wsV RX6 75 RX6 yX6_sound wsX6_sound) := goodIn_app (goodIn_of _ (by decide +kernel)) ggX6_row_X6_sound
theorem dX6_row_0 : decode cX6_row 0 = .ok (.aload_n 0, 1) := by decide +kernel
theorem dX6_row_1 : decode cX6_row 1 = .ok (.getfield 10, 3) := by decide +kernel
theorem dX6_row_4 : decode cX6_row 4 = .ok (.iload_n 1, 1) := by decide +kernel
theorem dX6_row_5 : decode cX6_row 5 = .ok (.invokevirtual 58, 3) := by decide +kernel
theorem dX6_row_8 : decode cX6_row 8 = .ok (.ifCond .eq 18, 3) := by decide +kernel
theorem dX6_row_11 : decode cX6_row 11 = .ok (.iload_n 2, 1) := by decide +kernel
theorem dX6_row_12 : decode cX6_row 12 = .ok (.iconst 0, 1) := by decide +kernel
theorem dX6_row_13 : decode cX6_row 13 = .ok (.iconst 2, 1) := by decide +kernel
theorem dX6_row_14 : decode cX6_row 14 = .ok (.invokestatic 62, 3) := by decide +kernel
theorem dX6_row_17 : decode cX6_row 17 = .ok (.ifCond .eq 9, 3) := by decide +kernel
theorem dX6_row_20 : decode cX6_row 20 = .ok (.iload_n 3, 1) := by decide +kernel
theorem dX6_row_21 : decode cX6_row 21 = .ok (.bipush 40, 2) := by decide +kernel
theorem dX6_row_23 : decode cX6_row 23 = .ok (.if_icmp .le 6, 3) := by decide +kernel
theorem dX6_row_26 : decode cX6_row 26 = .ok (.ldc 66, 2) := by decide +kernel
theorem dX6_row_28 : decode cX6_row 28 = .ok (.ireturn, 1) := by decide +kernel
theorem dX6_row_29 : decode cX6_row 29 = .ok (.iload_n 3, 1) := by decide +kernel
theorem dX6_row_30 : decode cX6_row 30 = .ok (.ifCond .ge 9, 3) := by decide +kernel
theorem dX6_row_33 : decode cX6_row 33 = .ok (.aload_n 0, 1) := by decide +kernel
theorem dX6_row_34 : decode cX6_row 34 = .ok (.iconst 4, 1) := by decide +kernel
theorem dX6_row_35 : decode cX6_row 35 = .ok (.invokevirtual 67, 3) := by decide +kernel
theorem dX6_row_38 : decode cX6_row 38 = .ok (.ireturn, 1) := by decide +kernel
theorem dX6_row_39 : decode cX6_row 39 = .ok (.aload_n 0, 1) := by decide +kernel
theorem dX6_row_40 : decode cX6_row 40 = .ok (.getfield 10, 3) := by decide +kernel
theorem dX6_row_43 : decode cX6_row 43 = .ok (.iload_n 1, 1) := by decide +kernel
theorem dX6_row_44 : decode cX6_row 44 = .ok (.iload_n 2, 1) := by decide +kernel
theorem dX6_row_45 : decode cX6_row 45 = .ok (.iload_n 3, 1) := by decide +kernel
theorem dX6_row_46 : decode cX6_row 46 = .ok (.invokevirtual 71, 3) := by decide +kernel
theorem dX6_row_49 : decode cX6_row 49 = .ok (.aload_n 0, 1) := by decide +kernel
theorem dX6_row_50 : decode cX6_row 50 = .ok (.iload_n 3, 1) := by decide +kernel
theorem dX6_row_51 : decode cX6_row 51 = .ok (.invokevirtual 75, 3) := by decide +kernel
theorem dX6_row_54 : decode cX6_row 54 = .ok (.ireturn, 1) := by decide +kernel
set_option maxRecDepth 20000 in
theorem ggX6_set_X4_isRow : GoodIn wsX6_set wsX4_isRow := goodIn_r _ [7] (by decide +kernel) (by decide +kernel)
set_option maxRecDepth 20000 in
theorem gX6_set_X4_isRow : GoodIn wsX6_set (wsV RX6 58 RX4 yX4_isRow wsX4_isRow) := goodIn_app (goodIn_of _ (by decide +kernel)) ggX6_set_X4_isRow
set_option maxRecDepth 20000 in
theorem ggX6_set_X4_isMissing : GoodIn wsX6_set wsX4_isMissing := goodIn_r _ [11, 12, 46, 47, 48] (by decide +kernel) (by decide +kernel)
set_option maxRecDepth 20000 in
theorem gX6_set_X4_isMissing : GoodIn wsX6_set (wsV RX6 78 RX4 yX4_isMissing wsX4_isMissing) := goodIn_app (goodIn_of _ (by decide +kernel)) ggX6_set_X4_isMissing
set_option maxRecDepth 20000 in
theorem ggX6_set_X6_found : GoodIn wsX6_set wsX6_found := goodIn_r _ [17, 18, 19, 37, 38, 39, 40, 41, 42, 43, 44, 45] (by decide +kernel) (by decide +kernel)
set_option maxRecDepth 20000 in
theorem gX6_set_X6_found : GoodIn wsX6_set (wsV RX6 67 RX6 yX6_found wsX6_found) := goodIn_app (goodIn_of _ (by decide +kernel)) ggX6_set_X6_found
set_option maxRecDepth 20000 in
theorem ggX6_set_X4_hasPlaces : GoodIn wsX6_set wsX4_hasPlaces := goodIn_r _ [23, 24, 46, 47, 48] (by decide +kernel) (by decide +kernel)
set_option maxRecDepth 20000 in
theorem gX6_set_X4_hasPlaces : GoodIn wsX6_set (wsV RX6 81 RX4 yX4_hasPlaces wsX4_hasPlaces) := goodIn_app (goodIn_of _ (by decide +kernel)) ggX6_set_X4_hasPlaces
set_option maxRecDepth 20000 in
theorem ggX6_set_X4_put : GoodIn wsX6_set wsX4_put := goodIn_r _ [28, 29, 12, 30, 31, 6, 32, 46, 47, 48] (by decide +kernel) (by decide +kernel)
set_option maxRecDepth 20000 in
theorem gX6_set_X4_put : GoodIn wsX6_set (wsV RX6 84 RX4 yX4_put wsX4_put) := goodIn_app (goodIn_of _ (by decide +kernel)) ggX6_set_X4_put
set_option maxRecDepth 20000 in
theorem ggX6_set_X6_sound : GoodIn wsX6_set wsX6_sound := goodIn_r _ [36, 18, 37, 38, 39, 40, 41, 42, 43, 44, 45] (by decide +kernel) (by decide +kernel)
set_option maxRecDepth 20000 in
theorem gX6_set_X6_sound : GoodIn wsX6_set (wsV RX6 75 RX6 yX6_sound wsX6_sound) := goodIn_app (goodIn_of _ (by decide +kernel)) ggX6_set_X6_sound
theorem dX6_set_0 : decode cX6_set 0 = .ok (.aload_n 0, 1) := by decide +kernel
theorem dX6_set_1 : decode cX6_set 1 = .ok (.getfield 10, 3) := by decide +kernel
theorem dX6_set_4 : decode cX6_set 4 = .ok (.iload_n 1, 1) := by decide +kernel
theorem dX6_set_5 : decode cX6_set 5 = .ok (.invokevirtual 58, 3) := by decide +kernel
theorem dX6_set_8 : decode cX6_set 8 = .ok (.ifCond .ne 6, 3) := by decide +kernel
theorem dX6_set_11 : decode cX6_set 11 = .ok (.ldc 66, 2) := by decide +kernel
theorem dX6_set_13 : decode cX6_set 13 = .ok (.ireturn, 1) := by decide +kernel
theorem dX6_set_14 : decode cX6_set 14 = .ok (.aload_n 0, 1) := by decide +kernel
theorem dX6_set_15 : decode cX6_set 15 = .ok (.getfield 10, 3) := by decide +kernel
theorem dX6_set_18 : decode cX6_set 18 = .ok (.iload_n 1, 1) := by decide +kernel
theorem dX6_set_19 : decode cX6_set 19 = .ok (.invokevirtual 78, 3) := by decide +kernel
theorem dX6_set_22 : decode cX6_set 22 = .ok (.ifCond .eq 9, 3) := by decide +kernel
theorem dX6_set_25 : decode cX6_set 25 = .ok (.aload_n 0, 1) := by decide +kernel
theorem dX6_set_26 : decode cX6_set 26 = .ok (.iconst 1, 1) := by decide +kernel
theorem dX6_set_27 : decode cX6_set 27 = .ok (.invokevirtual 67, 3) := by decide +kernel
theorem dX6_set_30 : decode cX6_set 30 = .ok (.ireturn, 1) := by decide +kernel
theorem dX6_set_31 : decode cX6_set 31 = .ok (.aload_n 0, 1) := by decide +kernel
theorem dX6_set_32 : decode cX6_set 32 = .ok (.getfield 10, 3) := by decide +kernel
theorem dX6_set_35 : decode cX6_set 35 = .ok (.iload_n 1, 1) := by decide +kernel
theorem dX6_set_36 : decode cX6_set 36 = .ok (.iload_n 2, 1) := by decide +kernel
theorem dX6_set_37 : decode cX6_set 37 = .ok (.iconst 1, 1) := by decide +kernel
theorem dX6_set_38 : decode cX6_set 38 = .ok (.invokevirtual 81, 3) := by decide +kernel
theorem dX6_set_41 : decode cX6_set 41 = .ok (.ifCond .ne 9, 3) := by decide +kernel
theorem dX6_set_44 : decode cX6_set 44 = .ok (.aload_n 0, 1) := by decide +kernel
theorem dX6_set_45 : decode cX6_set 45 = .ok (.iconst 2, 1) := by decide +kernel
theorem dX6_set_46 : decode cX6_set 46 = .ok (.invokevirtual 67, 3) := by decide +kernel
theorem dX6_set_49 : decode cX6_set 49 = .ok (.ireturn, 1) := by decide +kernel
theorem dX6_set_50 : decode cX6_set 50 = .ok (.aload_n 0, 1) := by decide +kernel
theorem dX6_set_51 : decode cX6_set 51 = .ok (.aload_n 0, 1) := by decide +kernel
theorem dX6_set_52 : decode cX6_set 52 = .ok (.getfield 10, 3) := by decide +kernel
theorem dX6_set_55 : decode cX6_set 55 = .ok (.iload_n 1, 1) := by decide +kernel
theorem dX6_set_56 : decode cX6_set 56 = .ok (.iload_n 2, 1) := by decide +kernel
theorem dX6_set_57 : decode cX6_set 57 = .ok (.iload_n 3, 1) := by decide +kernel
theorem dX6_set_58 : decode cX6_set 58 = .ok (.invokevirtual 84, 3) := by decide +kernel
theorem dX6_set_61 : decode cX6_set 61 = .ok (.invokevirtual 75, 3) := by decide +kernel
theorem dX6_set_64 : decode cX6_set 64 = .ok (.ireturn, 1) := by decide +kernel
set_option maxRecDepth 20000 in
theorem ggX6_copy_X4_isRow : GoodIn wsX6_copy wsX4_isRow := goodIn_r _ [7] (by decide +kernel) (by decide +kernel)
set_option maxRecDepth 20000 in
theorem gX6_copy_X4_isRow : GoodIn wsX6_copy (wsV RX6 58 RX4 yX4_isRow wsX4_isRow) := goodIn_app (goodIn_of _ (by decide +kernel)) ggX6_copy_X4_isRow
set_option maxRecDepth 20000 in
theorem ggX6_copy_X4_isMissing : GoodIn wsX6_copy wsX4_isMissing := goodIn_r _ [11, 12, 51, 52, 53] (by decide +kernel) (by decide +kernel)
set_option maxRecDepth 20000 in
theorem gX6_copy_X4_isMissing : GoodIn wsX6_copy (wsV RX6 78 RX4 yX4_isMissing wsX4_isMissing) := goodIn_app (goodIn_of _ (by decide +kernel)) ggX6_copy_X4_isMissing
set_option maxRecDepth 20000 in
theorem ggX6_copy_X6_found : GoodIn wsX6_copy wsX6_found := goodIn_r _ [17, 18, 19, 42, 43, 44, 45, 46, 47, 48, 49, 50] (by decide +kernel) (by decide +kernel)
set_option maxRecDepth 20000 in
theorem gX6_copy_X6_found : GoodIn wsX6_copy (wsV RX6 67 RX6 yX6_found wsX6_found) := goodIn_app (goodIn_of _ (by decide +kernel)) ggX6_copy_X6_found
set_option maxRecDepth 20000 in
theorem ggX6_copy_X4_laneOf : GoodIn wsX6_copy wsX4_laneOf := goodIn_r _ [23, 12, 51, 52, 53] (by decide +kernel) (by decide +kernel)
set_option maxRecDepth 20000 in
theorem gX6_copy_X4_laneOf : GoodIn wsX6_copy (wsV RX6 88 RX4 yX4_laneOf wsX4_laneOf) := goodIn_app (goodIn_of _ (by decide +kernel)) ggX6_copy_X4_laneOf
set_option maxRecDepth 20000 in
theorem ggX6_copy_X4_hasPlaces : GoodIn wsX6_copy wsX4_hasPlaces := goodIn_r _ [27, 28, 51, 52, 53] (by decide +kernel) (by decide +kernel)
set_option maxRecDepth 20000 in
theorem gX6_copy_X4_hasPlaces : GoodIn wsX6_copy (wsV RX6 81 RX4 yX4_hasPlaces wsX4_hasPlaces) := goodIn_app (goodIn_of _ (by decide +kernel)) ggX6_copy_X4_hasPlaces
set_option maxRecDepth 20000 in
theorem ggX6_copy_X4_move : GoodIn wsX6_copy wsX4_move := goodIn_r _ [32, 33, 34, 35, 36, 37, 51, 52, 53] (by decide +kernel) (by decide +kernel)
set_option maxRecDepth 20000 in
theorem gX6_copy_X4_move : GoodIn wsX6_copy (wsV RX6 91 RX4 yX4_move wsX4_move) := goodIn_app (goodIn_of _ (by decide +kernel)) ggX6_copy_X4_move
set_option maxRecDepth 20000 in
theorem ggX6_copy_X6_sound : GoodIn wsX6_copy wsX6_sound := goodIn_r _ [41, 18, 42, 43, 44, 45, 46, 47, 48, 49, 50] (by decide +kernel) (by decide +kernel)
set_option maxRecDepth 20000 in
theorem gX6_copy_X6_sound : GoodIn wsX6_copy (wsV RX6 75 RX6 yX6_sound wsX6_sound) := goodIn_app (goodIn_of _ (by decide +kernel)) ggX6_copy_X6_sound
theorem dX6_copy_0 : decode cX6_copy 0 = .ok (.aload_n 0, 1) := by decide +kernel
theorem dX6_copy_1 : decode cX6_copy 1 = .ok (.getfield 10, 3) := by decide +kernel
theorem dX6_copy_4 : decode cX6_copy 4 = .ok (.iload_n 1, 1) := by decide +kernel
theorem dX6_copy_5 : decode cX6_copy 5 = .ok (.invokevirtual 58, 3) := by decide +kernel
theorem dX6_copy_8 : decode cX6_copy 8 = .ok (.ifCond .eq 14, 3) := by decide +kernel
theorem dX6_copy_11 : decode cX6_copy 11 = .ok (.aload_n 0, 1) := by decide +kernel
theorem dX6_copy_12 : decode cX6_copy 12 = .ok (.getfield 10, 3) := by decide +kernel
theorem dX6_copy_15 : decode cX6_copy 15 = .ok (.iload_n 3, 1) := by decide +kernel
theorem dX6_copy_16 : decode cX6_copy 16 = .ok (.invokevirtual 58, 3) := by decide +kernel
theorem dX6_copy_19 : decode cX6_copy 19 = .ok (.ifCond .ne 6, 3) := by decide +kernel
theorem dX6_copy_22 : decode cX6_copy 22 = .ok (.ldc 66, 2) := by decide +kernel
theorem dX6_copy_24 : decode cX6_copy 24 = .ok (.ireturn, 1) := by decide +kernel
theorem dX6_copy_25 : decode cX6_copy 25 = .ok (.aload_n 0, 1) := by decide +kernel
theorem dX6_copy_26 : decode cX6_copy 26 = .ok (.getfield 10, 3) := by decide +kernel
theorem dX6_copy_29 : decode cX6_copy 29 = .ok (.iload_n 1, 1) := by decide +kernel
theorem dX6_copy_30 : decode cX6_copy 30 = .ok (.invokevirtual 78, 3) := by decide +kernel
theorem dX6_copy_33 : decode cX6_copy 33 = .ok (.ifCond .ne 14, 3) := by decide +kernel
theorem dX6_copy_36 : decode cX6_copy 36 = .ok (.aload_n 0, 1) := by decide +kernel
theorem dX6_copy_37 : decode cX6_copy 37 = .ok (.getfield 10, 3) := by decide +kernel
theorem dX6_copy_40 : decode cX6_copy 40 = .ok (.iload_n 3, 1) := by decide +kernel
theorem dX6_copy_41 : decode cX6_copy 41 = .ok (.invokevirtual 78, 3) := by decide +kernel
theorem dX6_copy_44 : decode cX6_copy 44 = .ok (.ifCond .eq 9, 3) := by decide +kernel
theorem dX6_copy_47 : decode cX6_copy 47 = .ok (.aload_n 0, 1) := by decide +kernel
theorem dX6_copy_48 : decode cX6_copy 48 = .ok (.iconst 1, 1) := by decide +kernel
theorem dX6_copy_49 : decode cX6_copy 49 = .ok (.invokevirtual 67, 3) := by decide +kernel
theorem dX6_copy_52 : decode cX6_copy 52 = .ok (.ireturn, 1) := by decide +kernel
theorem dX6_copy_53 : decode cX6_copy 53 = .ok (.aload_n 0, 1) := by decide +kernel
theorem dX6_copy_54 : decode cX6_copy 54 = .ok (.getfield 10, 3) := by decide +kernel
theorem dX6_copy_57 : decode cX6_copy 57 = .ok (.iload_n 1, 1) := by decide +kernel
theorem dX6_copy_58 : decode cX6_copy 58 = .ok (.invokevirtual 88, 3) := by decide +kernel
theorem dX6_copy_61 : decode cX6_copy 61 = .ok (.aload_n 0, 1) := by decide +kernel
theorem dX6_copy_62 : decode cX6_copy 62 = .ok (.getfield 10, 3) := by decide +kernel
theorem dX6_copy_65 : decode cX6_copy 65 = .ok (.iload_n 3, 1) := by decide +kernel
theorem dX6_copy_66 : decode cX6_copy 66 = .ok (.invokevirtual 88, 3) := by decide +kernel
theorem dX6_copy_69 : decode cX6_copy 69 = .ok (.if_icmp .eq 9, 3) := by decide +kernel
theorem dX6_copy_72 : decode cX6_copy 72 = .ok (.aload_n 0, 1) := by decide +kernel
theorem dX6_copy_73 : decode cX6_copy 73 = .ok (.iconst 5, 1) := by decide +kernel
theorem dX6_copy_74 : decode cX6_copy 74 = .ok (.invokevirtual 67, 3) := by decide +kernel
theorem dX6_copy_77 : decode cX6_copy 77 = .ok (.ireturn, 1) := by decide +kernel
theorem dX6_copy_78 : decode cX6_copy 78 = .ok (.aload_n 0, 1) := by decide +kernel
theorem dX6_copy_79 : decode cX6_copy 79 = .ok (.getfield 10, 3) := by decide +kernel
theorem dX6_copy_82 : decode cX6_copy 82 = .ok (.iload_n 1, 1) := by decide +kernel
theorem dX6_copy_83 : decode cX6_copy 83 = .ok (.iload_n 2, 1) := by decide +kernel
theorem dX6_copy_84 : decode cX6_copy 84 = .ok (.iload 5, 2) := by decide +kernel
theorem dX6_copy_86 : decode cX6_copy 86 = .ok (.invokevirtual 81, 3) := by decide +kernel
theorem dX6_copy_89 : decode cX6_copy 89 = .ok (.ifCond .eq 18, 3) := by decide +kernel
theorem dX6_copy_92 : decode cX6_copy 92 = .ok (.aload_n 0, 1) := by decide +kernel
theorem dX6_copy_93 : decode cX6_copy 93 = .ok (.getfield 10, 3) := by decide +kernel
theorem dX6_copy_96 : decode cX6_copy 96 = .ok (.iload_n 3, 1) := by decide +kernel
theorem dX6_copy_97 : decode cX6_copy 97 = .ok (.iload 4, 2) := by decide +kernel
theorem dX6_copy_99 : decode cX6_copy 99 = .ok (.iload 5, 2) := by decide +kernel
theorem dX6_copy_101 : decode cX6_copy 101 = .ok (.invokevirtual 81, 3) := by decide +kernel
theorem dX6_copy_104 : decode cX6_copy 104 = .ok (.ifCond .ne 9, 3) := by decide +kernel
theorem dX6_copy_107 : decode cX6_copy 107 = .ok (.aload_n 0, 1) := by decide +kernel
theorem dX6_copy_108 : decode cX6_copy 108 = .ok (.iconst 2, 1) := by decide +kernel
theorem dX6_copy_109 : decode cX6_copy 109 = .ok (.invokevirtual 67, 3) := by decide +kernel
theorem dX6_copy_112 : decode cX6_copy 112 = .ok (.ireturn, 1) := by decide +kernel
theorem dX6_copy_113 : decode cX6_copy 113 = .ok (.aload_n 0, 1) := by decide +kernel
theorem dX6_copy_114 : decode cX6_copy 114 = .ok (.getfield 10, 3) := by decide +kernel
theorem dX6_copy_117 : decode cX6_copy 117 = .ok (.iload_n 1, 1) := by decide +kernel
theorem dX6_copy_118 : decode cX6_copy 118 = .ok (.iload_n 2, 1) := by decide +kernel
theorem dX6_copy_119 : decode cX6_copy 119 = .ok (.iload_n 3, 1) := by decide +kernel
theorem dX6_copy_120 : decode cX6_copy 120 = .ok (.iload 4, 2) := by decide +kernel
theorem dX6_copy_122 : decode cX6_copy 122 = .ok (.iload 5, 2) := by decide +kernel
theorem dX6_copy_124 : decode cX6_copy 124 = .ok (.invokevirtual 91, 3) := by decide +kernel
theorem dX6_copy_127 : decode cX6_copy 127 = .ok (.aload_n 0, 1) := by decide +kernel
theorem dX6_copy_128 : decode cX6_copy 128 = .ok (.iload 5, 2) := by decide +kernel
theorem dX6_copy_130 : decode cX6_copy 130 = .ok (.invokevirtual 75, 3) := by decide +kernel
theorem dX6_copy_133 : decode cX6_copy 133 = .ok (.ireturn, 1) := by decide +kernel
set_option maxRecDepth 20000 in
theorem ggX6_drop_X4_isRow : GoodIn wsX6_drop wsX4_isRow := goodIn_r _ [7] (by decide +kernel) (by decide +kernel)
set_option maxRecDepth 20000 in
theorem gX6_drop_X4_isRow : GoodIn wsX6_drop (wsV RX6 58 RX4 yX4_isRow wsX4_isRow) := goodIn_app (goodIn_of _ (by decide +kernel)) ggX6_drop_X4_isRow
set_option maxRecDepth 20000 in
theorem ggX6_drop_X4_isMissing : GoodIn wsX6_drop wsX4_isMissing := goodIn_r _ [11, 12, 38, 39, 40] (by decide +kernel) (by decide +kernel)
set_option maxRecDepth 20000 in
theorem gX6_drop_X4_isMissing : GoodIn wsX6_drop (wsV RX6 78 RX4 yX4_isMissing wsX4_isMissing) := goodIn_app (goodIn_of _ (by decide +kernel)) ggX6_drop_X4_isMissing
set_option maxRecDepth 20000 in
theorem ggX6_drop_X6_found : GoodIn wsX6_drop wsX6_found := goodIn_r _ [17, 18, 19, 29, 30, 31, 32, 33, 34, 35, 36, 37] (by decide +kernel) (by decide +kernel)
set_option maxRecDepth 20000 in
theorem gX6_drop_X6_found : GoodIn wsX6_drop (wsV RX6 67 RX6 yX6_found wsX6_found) := goodIn_app (goodIn_of _ (by decide +kernel)) ggX6_drop_X6_found
set_option maxRecDepth 20000 in
theorem ggX6_drop_X4_takeAway : GoodIn wsX6_drop wsX4_takeAway := goodIn_r _ [23, 12, 24, 38, 39, 40] (by decide +kernel) (by decide +kernel)
set_option maxRecDepth 20000 in
theorem gX6_drop_X4_takeAway : GoodIn wsX6_drop (wsV RX6 95 RX4 yX4_takeAway wsX4_takeAway) := goodIn_app (goodIn_of _ (by decide +kernel)) ggX6_drop_X4_takeAway
set_option maxRecDepth 20000 in
theorem ggX6_drop_X6_sound : GoodIn wsX6_drop wsX6_sound := goodIn_r _ [28, 18, 29, 30, 31, 32, 33, 34, 35, 36, 37] (by decide +kernel) (by decide +kernel)
set_option maxRecDepth 20000 in
theorem gX6_drop_X6_sound : GoodIn wsX6_drop (wsV RX6 75 RX6 yX6_sound wsX6_sound) := goodIn_app (goodIn_of _ (by decide +kernel)) ggX6_drop_X6_sound
theorem dX6_drop_0 : decode cX6_drop 0 = .ok (.aload_n 0, 1) := by decide +kernel
theorem dX6_drop_1 : decode cX6_drop 1 = .ok (.getfield 10, 3) := by decide +kernel
theorem dX6_drop_4 : decode cX6_drop 4 = .ok (.iload_n 1, 1) := by decide +kernel
theorem dX6_drop_5 : decode cX6_drop 5 = .ok (.invokevirtual 58, 3) := by decide +kernel
theorem dX6_drop_8 : decode cX6_drop 8 = .ok (.ifCond .ne 6, 3) := by decide +kernel
theorem dX6_drop_11 : decode cX6_drop 11 = .ok (.ldc 66, 2) := by decide +kernel
theorem dX6_drop_13 : decode cX6_drop 13 = .ok (.ireturn, 1) := by decide +kernel
theorem dX6_drop_14 : decode cX6_drop 14 = .ok (.aload_n 0, 1) := by decide +kernel
theorem dX6_drop_15 : decode cX6_drop 15 = .ok (.getfield 10, 3) := by decide +kernel
theorem dX6_drop_18 : decode cX6_drop 18 = .ok (.iload_n 1, 1) := by decide +kernel
theorem dX6_drop_19 : decode cX6_drop 19 = .ok (.invokevirtual 78, 3) := by decide +kernel
theorem dX6_drop_22 : decode cX6_drop 22 = .ok (.ifCond .eq 9, 3) := by decide +kernel
theorem dX6_drop_25 : decode cX6_drop 25 = .ok (.aload_n 0, 1) := by decide +kernel
theorem dX6_drop_26 : decode cX6_drop 26 = .ok (.iconst 1, 1) := by decide +kernel
theorem dX6_drop_27 : decode cX6_drop 27 = .ok (.invokevirtual 67, 3) := by decide +kernel
theorem dX6_drop_30 : decode cX6_drop 30 = .ok (.ireturn, 1) := by decide +kernel
theorem dX6_drop_31 : decode cX6_drop 31 = .ok (.aload_n 0, 1) := by decide +kernel
theorem dX6_drop_32 : decode cX6_drop 32 = .ok (.aload_n 0, 1) := by decide +kernel
theorem dX6_drop_33 : decode cX6_drop 33 = .ok (.getfield 10, 3) := by decide +kernel
theorem dX6_drop_36 : decode cX6_drop 36 = .ok (.iload_n 1, 1) := by decide +kernel
theorem dX6_drop_37 : decode cX6_drop 37 = .ok (.invokevirtual 95, 3) := by decide +kernel
theorem dX6_drop_40 : decode cX6_drop 40 = .ok (.invokevirtual 75, 3) := by decide +kernel
theorem dX6_drop_43 : decode cX6_drop 43 = .ok (.ireturn, 1) := by decide +kernel
set_option maxRecDepth 20000 in
theorem ggX6_feed_X6_isWithin : GoodIn wsX6_feed wsX6_isWithin := goodIn_r _ [7] (by decide +kernel) (by decide +kernel)
set_option maxRecDepth 20000 in
theorem gX6_feed_X6_isWithin : GoodIn wsX6_feed (va_wsS RX6 62 yX6_isWithin wsX6_isWithin) := goodIn_app (goodIn_of _ (by decide +kernel)) ggX6_feed_X6_isWithin
set_option maxRecDepth 20000 in
theorem ggX6_feed_X5_isFull : GoodIn wsX6_feed wsX5_isFull := goodIn_r _ [12, 13, 28, 29, 30, 31, 32] (by decide +kernel) (by decide +kernel)
set_option maxRecDepth 20000 in
theorem gX6_feed_X5_isFull : GoodIn wsX6_feed (wsV RX6 98 RX5 yX5_isFull wsX5_isFull) := goodIn_app (goodIn_of _ (by decide +kernel)) ggX6_feed_X5_isFull
set_option maxRecDepth 20000 in
theorem ggX6_feed_X5_add : GoodIn wsX6_feed wsX5_add := goodIn_r _ [17, 18, 13, 28, 29, 30, 31, 32] (by decide +kernel) (by decide +kernel)
set_option maxRecDepth 20000 in
theorem gX6_feed_X5_add : GoodIn wsX6_feed (wsV RX6 103 RX5 yX5_add wsX5_add) := goodIn_app (goodIn_of _ (by decide +kernel)) ggX6_feed_X5_add
theorem dX6_feed_0 : decode cX6_feed 0 = .ok (.iload_n 1, 1) := by decide +kernel
theorem dX6_feed_1 : decode cX6_feed 1 = .ok (.iconst 0, 1) := by decide +kernel
theorem dX6_feed_2 : decode cX6_feed 2 = .ok (.sipush 255, 3) := by decide +kernel
theorem dX6_feed_5 : decode cX6_feed 5 = .ok (.invokestatic 62, 3) := by decide +kernel
theorem dX6_feed_8 : decode cX6_feed 8 = .ok (.ifCond .ne 6, 3) := by decide +kernel
theorem dX6_feed_11 : decode cX6_feed 11 = .ok (.ldc 66, 2) := by decide +kernel
theorem dX6_feed_13 : decode cX6_feed 13 = .ok (.ireturn, 1) := by decide +kernel
theorem dX6_feed_14 : decode cX6_feed 14 = .ok (.aload_n 0, 1) := by decide +kernel
theorem dX6_feed_15 : decode cX6_feed 15 = .ok (.getfield 19, 3) := by decide +kernel
theorem dX6_feed_18 : decode cX6_feed 18 = .ok (.invokevirtual 98, 3) := by decide +kernel
theorem dX6_feed_21 : decode cX6_feed 21 = .ok (.ifCond .eq 6, 3) := by decide +kernel
theorem dX6_feed_24 : decode cX6_feed 24 = .ok (.ldc 102, 2) := by decide +kernel
theorem dX6_feed_26 : decode cX6_feed 26 = .ok (.ireturn, 1) := by decide +kernel
theorem dX6_feed_27 : decode cX6_feed 27 = .ok (.aload_n 0, 1) := by decide +kernel
theorem dX6_feed_28 : decode cX6_feed 28 = .ok (.getfield 19, 3) := by decide +kernel
theorem dX6_feed_31 : decode cX6_feed 31 = .ok (.iload_n 1, 1) := by decide +kernel
theorem dX6_feed_32 : decode cX6_feed 32 = .ok (.invokevirtual 103, 3) := by decide +kernel
theorem dX6_feed_35 : decode cX6_feed 35 = .ok (.ireturn, 1) := by decide +kernel
set_option maxRecDepth 20000 in
theorem ggX6_city_X5_readInto : GoodIn wsX6_city wsX5_readInto := goodIn_r _ [11, 12, 13, 14, 15, 16, 17, 18, 19, 20, 21, 22, 23, 24, 25, 26, 27, 10, 28, 29, 30, 31, 32, 33, 34, 35, 36, 37, 38, 39, 40, 41, 42, 43, 44, 45, 46, 47, 48, 49, 50, 51, 52, 53, 54, 55, 56, 57, 58, 59, 60, 61, 62, 63, 64, 65, 66, 67, 68, 69, 70, 71, 104, 105, 106, 107, 108, 95, 96, 97, 98, 99, 100, 101, 102, 103] (by decide +kernel) (by decide +kernel)
set_option maxRecDepth 20000 in
theorem gX6_city_X5_readInto : GoodIn wsX6_city (wsV RX6 106 RX5 yX5_readInto wsX5_readInto) := goodIn_app (goodIn_of _ (by decide +kernel)) ggX6_city_X5_readInto
set_option maxRecDepth 20000 in
theorem ggX6_city_X2_become : GoodIn wsX6_city wsX2_become := goodIn_r _ [75, 20, 21, 22, 23, 24, 68, 76, 77, 78, 79, 69, 70, 71, 95, 96, 97, 98, 99, 100, 101, 102, 103] (by decide +kernel) (by decide +kernel)
set_option maxRecDepth 20000 in
theorem gX6_city_X2_become : GoodIn wsX6_city (wsV RX6 111 RX2 yX2_become wsX2_become) := goodIn_app (goodIn_of _ (by decide +kernel)) ggX6_city_X2_become
set_option maxRecDepth 20000 in
theorem ggX6_city_X0_forgetAll : GoodIn wsX6_city wsX0_forgetAll := goodIn_r _ [84, 85, 109, 110, 111, 112, 113] (by decide +kernel) (by decide +kernel)
set_option maxRecDepth 20000 in
theorem gX6_city_X0_forgetAll : GoodIn wsX6_city (wsV RX6 115 RX0 yX0_forgetAll wsX0_forgetAll) := goodIn_app (goodIn_of _ (by decide +kernel)) ggX6_city_X0_forgetAll
theorem dX6_city_0 : decode cX6_city 0 = .ok (.aload_n 0, 1) := by decide +kernel
theorem dX6_city_1 : decode cX6_city 1 = .ok (.getfield 19, 3) := by decide +kernel
theorem dX6_city_4 : decode cX6_city 4 = .ok (.aload_n 0, 1) := by decide +kernel
theorem dX6_city_5 : decode cX6_city 5 = .ok (.getfield 51, 3) := by decide +kernel
theorem dX6_city_8 : decode cX6_city 8 = .ok (.invokevirtual 106, 3) := by decide +kernel
theorem dX6_city_11 : decode cX6_city 11 = .ok (.istore_n 1, 1) := by decide +kernel
theorem dX6_city_12 : decode cX6_city 12 = .ok (.iload_n 1, 1) := by decide +kernel
theorem dX6_city_13 : decode cX6_city 13 = .ok (.iconst (-1), 1) := by decide +kernel
theorem dX6_city_14 : decode cX6_city 14 = .ok (.if_icmp .eq 8, 3) := by decide +kernel
theorem dX6_city_17 : decode cX6_city 17 = .ok (.ldc 110, 2) := by decide +kernel
theorem dX6_city_19 : decode cX6_city 19 = .ok (.iload_n 1, 1) := by decide +kernel
theorem dX6_city_20 : decode cX6_city 20 = .ok (.isub, 1) := by decide +kernel
theorem dX6_city_21 : decode cX6_city 21 = .ok (.ireturn, 1) := by decide +kernel
theorem dX6_city_22 : decode cX6_city 22 = .ok (.aload_n 0, 1) := by decide +kernel
theorem dX6_city_23 : decode cX6_city 23 = .ok (.getfield 47, 3) := by decide +kernel
theorem dX6_city_26 : decode cX6_city 26 = .ok (.aload_n 0, 1) := by decide +kernel
theorem dX6_city_27 : decode cX6_city 27 = .ok (.getfield 51, 3) := by decide +kernel
theorem dX6_city_30 : decode cX6_city 30 = .ok (.invokevirtual 111, 3) := by decide +kernel
theorem dX6_city_33 : decode cX6_city 33 = .ok (.aload_n 0, 1) := by decide +kernel
theorem dX6_city_34 : decode cX6_city 34 = .ok (.getfield 26, 3) := by decide +kernel
theorem dX6_city_37 : decode cX6_city 37 = .ok (.invokevirtual 115, 3) := by decide +kernel
theorem dX6_city_40 : decode cX6_city 40 = .ok (.aload_n 0, 1) := by decide +kernel
theorem dX6_city_41 : decode cX6_city 41 = .ok (.getfield 47, 3) := by decide +kernel
theorem dX6_city_44 : decode cX6_city 44 = .ok (.getfield 118, 3) := by decide +kernel
theorem dX6_city_47 : decode cX6_city 47 = .ok (.ireturn, 1) := by decide +kernel
set_option maxRecDepth 20000 in
theorem ggX6_fault_X5_latestFault : GoodIn wsX6_fault wsX5_latestFault := goodIn_r _ [6, 7, 17, 18, 19, 20, 21] (by decide +kernel) (by decide +kernel)
set_option maxRecDepth 20000 in
theorem gX6_fault_X5_latestFault : GoodIn wsX6_fault (wsV RX6 122 RX5 yX5_latestFault wsX5_latestFault) := goodIn_app (goodIn_of _ (by decide +kernel)) ggX6_fault_X5_latestFault
theorem dX6_fault_0 : decode cX6_fault 0 = .ok (.aload_n 0, 1) := by decide +kernel
theorem dX6_fault_1 : decode cX6_fault 1 = .ok (.getfield 19, 3) := by decide +kernel
theorem dX6_fault_4 : decode cX6_fault 4 = .ok (.invokevirtual 122, 3) := by decide +kernel
theorem dX6_fault_7 : decode cX6_fault 7 = .ok (.ireturn, 1) := by decide +kernel
set_option maxRecDepth 20000 in
theorem ggX6_days_X2_stands : GoodIn wsX6_days wsX2_stands := goodIn_r _ [11, 12, 77, 78, 79, 80, 81, 82, 83, 84, 85] (by decide +kernel) (by decide +kernel)
set_option maxRecDepth 20000 in
theorem gX6_days_X2_stands : GoodIn wsX6_days (wsV RX6 126 RX2 yX2_stands wsX2_stands) := goodIn_app (goodIn_of _ (by decide +kernel)) ggX6_days_X2_stands
set_option maxRecDepth 20000 in
theorem ggX6_days_X6_isWithin : GoodIn wsX6_days wsX6_isWithin := goodIn_r _ [16] (by decide +kernel) (by decide +kernel)
set_option maxRecDepth 20000 in
theorem gX6_days_X6_isWithin : GoodIn wsX6_days (va_wsS RX6 62 yX6_isWithin wsX6_isWithin) := goodIn_app (goodIn_of _ (by decide +kernel)) ggX6_days_X6_isWithin
set_option maxRecDepth 20000 in
theorem ggX6_days_X0_keep : GoodIn wsX6_days wsX0_keep := goodIn_r _ [21, 22, 23, 24, 25, 26, 27, 28, 29, 30, 86, 87, 88, 89, 90] (by decide +kernel) (by decide +kernel)
set_option maxRecDepth 20000 in
theorem gX6_days_X0_keep : GoodIn wsX6_days (wsV RX6 133 RX0 yX0_keep wsX0_keep) := goodIn_app (goodIn_of _ (by decide +kernel)) ggX6_days_X0_keep
set_option maxRecDepth 20000 in
theorem ggX6_days_X2_leftOn : GoodIn wsX6_days wsX2_leftOn := goodIn_r _ [34, 35, 36, 37, 10, 38, 39, 40, 41, 42, 43, 44, 45, 46, 47, 48, 49, 50, 51, 52, 53, 54, 55, 12, 56, 15, 57, 58, 59, 60, 61, 62, 63, 64, 65, 66, 67, 77, 78, 79, 80, 81, 82, 83, 84, 85] (by decide +kernel) (by decide +kernel)
set_option maxRecDepth 20000 in
theorem gX6_days_X2_leftOn : GoodIn wsX6_days (wsV RX6 136 RX2 yX2_leftOn wsX2_leftOn) := goodIn_app (goodIn_of _ (by decide +kernel)) ggX6_days_X2_leftOn
theorem dX6_days_0 : decode cX6_days 0 = .ok (.aload_n 0, 1) := by decide +kernel
theorem dX6_days_1 : decode cX6_days 1 = .ok (.getfield 47, 3) := by decide +kernel
theorem dX6_days_4 : decode cX6_days 4 = .ok (.invokevirtual 126, 3) := by decide +kernel
theorem dX6_days_7 : decode cX6_days 7 = .ok (.ifCond .ne 6, 3) := by decide +kernel
theorem dX6_days_10 : decode cX6_days 10 = .ok (.ldc 129, 2) := by decide +kernel
theorem dX6_days_12 : decode cX6_days 12 = .ok (.ireturn, 1) := by decide +kernel
theorem dX6_days_13 : decode cX6_days 13 = .ok (.iload_n 1, 1) := by decide +kernel
theorem dX6_days_14 : decode cX6_days 14 = .ok (.iconst 1, 1) := by decide +kernel
theorem dX6_days_15 : decode cX6_days 15 = .ok (.bipush 24, 2) := by decide +kernel
theorem dX6_days_17 : decode cX6_days 17 = .ok (.invokestatic 62, 3) := by decide +kernel
theorem dX6_days_20 : decode cX6_days 20 = .ok (.ifCond .ne 6, 3) := by decide +kernel
theorem dX6_days_23 : decode cX6_days 23 = .ok (.ldc 66, 2) := by decide +kernel
theorem dX6_days_25 : decode cX6_days 25 = .ok (.ireturn, 1) := by decide +kernel
theorem dX6_days_26 : decode cX6_days 26 = .ok (.aload_n 0, 1) := by decide +kernel
theorem dX6_days_27 : decode cX6_days 27 = .ok (.getfield 47, 3) := by decide +kernel
theorem dX6_days_30 : decode cX6_days 30 = .ok (.getfield 130, 3) := by decide +kernel
theorem dX6_days_33 : decode cX6_days 33 = .ok (.iload_n 1, 1) := by decide +kernel
theorem dX6_days_34 : decode cX6_days 34 = .ok (.iadd, 1) := by decide +kernel
theorem dX6_days_35 : decode cX6_days 35 = .ok (.sipush 999, 3) := by decide +kernel
theorem dX6_days_38 : decode cX6_days 38 = .ok (.if_icmp .le 6, 3) := by decide +kernel
theorem dX6_days_41 : decode cX6_days 41 = .ok (.ldc 102, 2) := by decide +kernel
theorem dX6_days_43 : decode cX6_days 43 = .ok (.ireturn, 1) := by decide +kernel
theorem dX6_days_44 : decode cX6_days 44 = .ok (.iconst 0, 1) := by decide +kernel
theorem dX6_days_45 : decode cX6_days 45 = .ok (.istore_n 2, 1) := by decide +kernel
theorem dX6_days_46 : decode cX6_days 46 = .ok (.iload_n 2, 1) := by decide +kernel
theorem dX6_days_47 : decode cX6_days 47 = .ok (.iload_n 1, 1) := by decide +kernel
theorem dX6_days_48 : decode cX6_days 48 = .ok (.if_icmp .ge 19, 3) := by decide +kernel
theorem dX6_days_51 : decode cX6_days 51 = .ok (.aload_n 0, 1) := by decide +kernel
theorem dX6_days_52 : decode cX6_days 52 = .ok (.getfield 26, 3) := by decide +kernel
theorem dX6_days_55 : decode cX6_days 55 = .ok (.iconst 0, 1) := by decide +kernel
theorem dX6_days_56 : decode cX6_days 56 = .ok (.iconst 0, 1) := by decide +kernel
theorem dX6_days_57 : decode cX6_days 57 = .ok (.iconst 0, 1) := by decide +kernel
theorem dX6_days_58 : decode cX6_days 58 = .ok (.invokevirtual 133, 3) := by decide +kernel
theorem dX6_days_61 : decode cX6_days 61 = .ok (.iinc 2 1, 3) := by decide +kernel
theorem dX6_days_64 : decode cX6_days 64 = .ok (.goto (-18), 3) := by decide +kernel
theorem dX6_days_67 : decode cX6_days 67 = .ok (.aload_n 0, 1) := by decide +kernel
theorem dX6_days_68 : decode cX6_days 68 = .ok (.getfield 47, 3) := by decide +kernel
theorem dX6_days_71 : decode cX6_days 71 = .ok (.dup, 1) := by decide +kernel
theorem dX6_days_72 : decode cX6_days 72 = .ok (.getfield 130, 3) := by decide +kernel
theorem dX6_days_75 : decode cX6_days 75 = .ok (.iload_n 1, 1) := by decide +kernel
theorem dX6_days_76 : decode cX6_days 76 = .ok (.iadd, 1) := by decide +kernel
theorem dX6_days_77 : decode cX6_days 77 = .ok (.putfield 130, 3) := by decide +kernel
theorem dX6_days_80 : decode cX6_days 80 = .ok (.aload_n 0, 1) := by decide +kernel
theorem dX6_days_81 : decode cX6_days 81 = .ok (.getfield 47, 3) := by decide +kernel
theorem dX6_days_84 : decode cX6_days 84 = .ok (.aload_n 0, 1) := by decide +kernel
theorem dX6_days_85 : decode cX6_days 85 = .ok (.getfield 47, 3) := by decide +kernel
theorem dX6_days_88 : decode cX6_days 88 = .ok (.getfield 130, 3) := by decide +kernel
theorem dX6_days_91 : decode cX6_days 91 = .ok (.invokevirtual 136, 3) := by decide +kernel
theorem dX6_days_94 : decode cX6_days 94 = .ok (.ireturn, 1) := by decide +kernel
set_option maxRecDepth 20000 in
theorem ggX6_bribe_X2_has : GoodIn wsX6_bribe wsX2_has := goodIn_r _ [10, 11, 46, 47, 48, 49, 50, 51, 52, 53, 54] (by decide +kernel) (by decide +kernel)
set_option maxRecDepth 20000 in
theorem gX6_bribe_X2_has : GoodIn wsX6_bribe (wsV RX6 139 RX2 yX2_has wsX2_has) := goodIn_app (goodIn_of _ (by decide +kernel)) ggX6_bribe_X2_has
set_option maxRecDepth 20000 in
theorem ggX6_bribe_X6_isWithin : GoodIn wsX6_bribe wsX6_isWithin := goodIn_r _ [15] (by decide +kernel) (by decide +kernel)
set_option maxRecDepth 20000 in
theorem gX6_bribe_X6_isWithin : GoodIn wsX6_bribe (va_wsS RX6 62 yX6_isWithin wsX6_isWithin) := goodIn_app (goodIn_of _ (by decide +kernel)) ggX6_bribe_X6_isWithin
set_option maxRecDepth 20000 in
theorem ggX6_bribe_X2_isBribed : GoodIn wsX6_bribe wsX2_isBribed := goodIn_r _ [19, 20, 21, 14, 22, 46, 47, 48, 49, 50, 51, 52, 53, 54] (by decide +kernel) (by decide +kernel)
set_option maxRecDepth 20000 in
theorem gX6_bribe_X2_isBribed : GoodIn wsX6_bribe (wsV RX6 142 RX2 yX2_isBribed wsX2_isBribed) := goodIn_app (goodIn_of _ (by decide +kernel)) ggX6_bribe_X2_isBribed
set_option maxRecDepth 20000 in
theorem ggX6_bribe_X0_keep : GoodIn wsX6_bribe wsX0_keep := goodIn_r _ [27, 28, 29, 30, 31, 32, 33, 34, 35, 36, 55, 56, 57, 58, 59] (by decide +kernel) (by decide +kernel)
set_option maxRecDepth 20000 in
theorem gX6_bribe_X0_keep : GoodIn wsX6_bribe (wsV RX6 133 RX0 yX0_keep wsX0_keep) := goodIn_app (goodIn_of _ (by decide +kernel)) ggX6_bribe_X0_keep
theorem dX6_bribe_0 : decode cX6_bribe 0 = .ok (.aload_n 0, 1) := by decide +kernel
theorem dX6_bribe_1 : decode cX6_bribe 1 = .ok (.getfield 47, 3) := by decide +kernel
theorem dX6_bribe_4 : decode cX6_bribe 4 = .ok (.iload_n 1, 1) := by decide +kernel
theorem dX6_bribe_5 : decode cX6_bribe 5 = .ok (.invokevirtual 139, 3) := by decide +kernel
theorem dX6_bribe_8 : decode cX6_bribe 8 = .ok (.ifCond .eq 12, 3) := by decide +kernel
theorem dX6_bribe_11 : decode cX6_bribe 11 = .ok (.iload_n 2, 1) := by decide +kernel
theorem dX6_bribe_12 : decode cX6_bribe 12 = .ok (.iconst 0, 1) := by decide +kernel
theorem dX6_bribe_13 : decode cX6_bribe 13 = .ok (.iconst 1, 1) := by decide +kernel
theorem dX6_bribe_14 : decode cX6_bribe 14 = .ok (.invokestatic 62, 3) := by decide +kernel
theorem dX6_bribe_17 : decode cX6_bribe 17 = .ok (.ifCond .ne 6, 3) := by decide +kernel
theorem dX6_bribe_20 : decode cX6_bribe 20 = .ok (.ldc 66, 2) := by decide +kernel
theorem dX6_bribe_22 : decode cX6_bribe 22 = .ok (.ireturn, 1) := by decide +kernel
theorem dX6_bribe_23 : decode cX6_bribe 23 = .ok (.aload_n 0, 1) := by decide +kernel
theorem dX6_bribe_24 : decode cX6_bribe 24 = .ok (.getfield 47, 3) := by decide +kernel
theorem dX6_bribe_27 : decode cX6_bribe 27 = .ok (.iload_n 1, 1) := by decide +kernel
theorem dX6_bribe_28 : decode cX6_bribe 28 = .ok (.invokevirtual 142, 3) := by decide +kernel
theorem dX6_bribe_31 : decode cX6_bribe 31 = .ok (.iload_n 2, 1) := by decide +kernel
theorem dX6_bribe_32 : decode cX6_bribe 32 = .ok (.iconst 1, 1) := by decide +kernel
theorem dX6_bribe_33 : decode cX6_bribe 33 = .ok (.if_icmp .ne 7, 3) := by decide +kernel
theorem dX6_bribe_36 : decode cX6_bribe 36 = .ok (.iconst 1, 1) := by decide +kernel
theorem dX6_bribe_37 : decode cX6_bribe 37 = .ok (.goto 4, 3) := by decide +kernel
theorem dX6_bribe_40 : decode cX6_bribe 40 = .ok (.iconst 0, 1) := by decide +kernel
theorem dX6_bribe_41 : decode cX6_bribe 41 = .ok (.if_icmp .ne 6, 3) := by decide +kernel
theorem dX6_bribe_44 : decode cX6_bribe 44 = .ok (.ldc 129, 2) := by decide +kernel
theorem dX6_bribe_46 : decode cX6_bribe 46 = .ok (.ireturn, 1) := by decide +kernel
theorem dX6_bribe_47 : decode cX6_bribe 47 = .ok (.aload_n 0, 1) := by decide +kernel
theorem dX6_bribe_48 : decode cX6_bribe 48 = .ok (.getfield 26, 3) := by decide +kernel
theorem dX6_bribe_51 : decode cX6_bribe 51 = .ok (.iconst 1, 1) := by decide +kernel
theorem dX6_bribe_52 : decode cX6_bribe 52 = .ok (.iload_n 1, 1) := by decide +kernel
theorem dX6_bribe_53 : decode cX6_bribe 53 = .ok (.aload_n 0, 1) := by decide +kernel
theorem dX6_bribe_54 : decode cX6_bribe 54 = .ok (.getfield 47, 3) := by decide +kernel
theorem dX6_bribe_57 : decode cX6_bribe 57 = .ok (.getfield 145, 3) := by decide +kernel
theorem dX6_bribe_60 : decode cX6_bribe 60 = .ok (.invokevirtual 133, 3) := by decide +kernel
theorem dX6_bribe_63 : decode cX6_bribe 63 = .ok (.aload_n 0, 1) := by decide +kernel
theorem dX6_bribe_64 : decode cX6_bribe 64 = .ok (.getfield 47, 3) := by decide +kernel
theorem dX6_bribe_67 : decode cX6_bribe 67 = .ok (.dup, 1) := by decide +kernel
theorem dX6_bribe_68 : decode cX6_bribe 68 = .ok (.getfield 145, 3) := by decide +kernel
theorem dX6_bribe_71 : decode cX6_bribe 71 = .ok (.iconst 1, 1) := by decide +kernel
theorem dX6_bribe_72 : decode cX6_bribe 72 = .ok (.iload_n 1, 1) := by decide +kernel
theorem dX6_bribe_73 : decode cX6_bribe 73 = .ok (.ishl, 1) := by decide +kernel
theorem dX6_bribe_74 : decode cX6_bribe 74 = .ok (.ixor, 1) := by decide +kernel
theorem dX6_bribe_75 : decode cX6_bribe 75 = .ok (.putfield 145, 3) := by decide +kernel
theorem dX6_bribe_78 : decode cX6_bribe 78 = .ok (.aload_n 0, 1) := by decide +kernel
theorem dX6_bribe_79 : decode cX6_bribe 79 = .ok (.getfield 47, 3) := by decide +kernel
theorem dX6_bribe_82 : decode cX6_bribe 82 = .ok (.getfield 145, 3) := by decide +kernel
theorem dX6_bribe_85 : decode cX6_bribe 85 = .ok (.ireturn, 1) := by decide +kernel
set_option maxRecDepth 20000 in
theorem ggX6_learn_X2_has : GoodIn wsX6_learn wsX2_has := goodIn_r _ [9, 10, 43, 44, 45, 46, 47, 48, 49, 50, 51] (by decide +kernel) (by decide +kernel)
set_option maxRecDepth 20000 in
theorem gX6_learn_X2_has : GoodIn wsX6_learn (wsV RX6 139 RX2 yX2_has wsX2_has) := goodIn_app (goodIn_of _ (by decide +kernel)) ggX6_learn_X2_has
set_option maxRecDepth 20000 in
theorem ggX6_learn_X2_everyone : GoodIn wsX6_learn wsX2_everyone := goodIn_r _ [14, 15, 43, 44, 45, 46, 47, 48, 49, 50, 51] (by decide +kernel) (by decide +kernel)
set_option maxRecDepth 20000 in
theorem gX6_learn_X2_everyone : GoodIn wsX6_learn (wsV RX6 148 RX2 yX2_everyone wsX2_everyone) := goodIn_app (goodIn_of _ (by decide +kernel)) ggX6_learn_X2_everyone
set_option maxRecDepth 20000 in
theorem ggX6_learn_X6_isWithin : GoodIn wsX6_learn wsX6_isWithin := goodIn_r _ [19] (by decide +kernel) (by decide +kernel)
set_option maxRecDepth 20000 in
theorem gX6_learn_X6_isWithin : GoodIn wsX6_learn (va_wsS RX6 62 yX6_isWithin wsX6_isWithin) := goodIn_app (goodIn_of _ (by decide +kernel)) ggX6_learn_X6_isWithin
set_option maxRecDepth 20000 in
theorem ggX6_learn_X0_keep : GoodIn wsX6_learn wsX0_keep := goodIn_r _ [24, 25, 26, 27, 28, 29, 30, 31, 32, 33, 52, 53, 54, 55, 56] (by decide +kernel) (by decide +kernel)
set_option maxRecDepth 20000 in
theorem gX6_learn_X0_keep : GoodIn wsX6_learn (wsV RX6 133 RX0 yX0_keep wsX0_keep) := goodIn_app (goodIn_of _ (by decide +kernel)) ggX6_learn_X0_keep
theorem dX6_learn_0 : decode cX6_learn 0 = .ok (.aload_n 0, 1) := by decide +kernel
theorem dX6_learn_1 : decode cX6_learn 1 = .ok (.getfield 47, 3) := by decide +kernel
theorem dX6_learn_4 : decode cX6_learn 4 = .ok (.iload_n 1, 1) := by decide +kernel
theorem dX6_learn_5 : decode cX6_learn 5 = .ok (.invokevirtual 139, 3) := by decide +kernel
theorem dX6_learn_8 : decode cX6_learn 8 = .ok (.ifCond .eq 18, 3) := by decide +kernel
theorem dX6_learn_11 : decode cX6_learn 11 = .ok (.iload_n 2, 1) := by decide +kernel
theorem dX6_learn_12 : decode cX6_learn 12 = .ok (.iconst 1, 1) := by decide +kernel
theorem dX6_learn_13 : decode cX6_learn 13 = .ok (.aload_n 0, 1) := by decide +kernel
theorem dX6_learn_14 : decode cX6_learn 14 = .ok (.getfield 47, 3) := by decide +kernel
theorem dX6_learn_17 : decode cX6_learn 17 = .ok (.invokevirtual 148, 3) := by decide +kernel
theorem dX6_learn_20 : decode cX6_learn 20 = .ok (.invokestatic 62, 3) := by decide +kernel
theorem dX6_learn_23 : decode cX6_learn 23 = .ok (.ifCond .ne 6, 3) := by decide +kernel
theorem dX6_learn_26 : decode cX6_learn 26 = .ok (.ldc 66, 2) := by decide +kernel
theorem dX6_learn_28 : decode cX6_learn 28 = .ok (.ireturn, 1) := by decide +kernel
theorem dX6_learn_29 : decode cX6_learn 29 = .ok (.aload_n 0, 1) := by decide +kernel
theorem dX6_learn_30 : decode cX6_learn 30 = .ok (.getfield 47, 3) := by decide +kernel
theorem dX6_learn_33 : decode cX6_learn 33 = .ok (.getfield 151, 3) := by decide +kernel
theorem dX6_learn_36 : decode cX6_learn 36 = .ok (.iload_n 1, 1) := by decide +kernel
theorem dX6_learn_37 : decode cX6_learn 37 = .ok (.iaload, 1) := by decide +kernel
theorem dX6_learn_38 : decode cX6_learn 38 = .ok (.istore_n 3, 1) := by decide +kernel
theorem dX6_learn_39 : decode cX6_learn 39 = .ok (.aload_n 0, 1) := by decide +kernel
theorem dX6_learn_40 : decode cX6_learn 40 = .ok (.getfield 26, 3) := by decide +kernel
theorem dX6_learn_43 : decode cX6_learn 43 = .ok (.iconst 2, 1) := by decide +kernel
theorem dX6_learn_44 : decode cX6_learn 44 = .ok (.iload_n 1, 1) := by decide +kernel
theorem dX6_learn_45 : decode cX6_learn 45 = .ok (.iload_n 3, 1) := by decide +kernel
theorem dX6_learn_46 : decode cX6_learn 46 = .ok (.invokevirtual 133, 3) := by decide +kernel
theorem dX6_learn_49 : decode cX6_learn 49 = .ok (.aload_n 0, 1) := by decide +kernel
theorem dX6_learn_50 : decode cX6_learn 50 = .ok (.getfield 47, 3) := by decide +kernel
theorem dX6_learn_53 : decode cX6_learn 53 = .ok (.getfield 151, 3) := by decide +kernel
theorem dX6_learn_56 : decode cX6_learn 56 = .ok (.iload_n 1, 1) := by decide +kernel
theorem dX6_learn_57 : decode cX6_learn 57 = .ok (.iload_n 2, 1) := by decide +kernel
theorem dX6_learn_58 : decode cX6_learn 58 = .ok (.iastore, 1) := by decide +kernel
theorem dX6_learn_59 : decode cX6_learn 59 = .ok (.iload_n 3, 1) := by decide +kernel
theorem dX6_learn_60 : decode cX6_learn 60 = .ok (.ireturn, 1) := by decide +kernel
set_option maxRecDepth 20000 in
theorem ggX6_shift_X2_has : GoodIn wsX6_shift wsX2_has := goodIn_r _ [10, 11, 39, 40, 41, 42, 43, 44, 45, 46, 47] (by decide +kernel) (by decide +kernel)
set_option maxRecDepth 20000 in
theorem gX6_shift_X2_has : GoodIn wsX6_shift (wsV RX6 139 RX2 yX2_has wsX2_has) := goodIn_app (goodIn_of _ (by decide +kernel)) ggX6_shift_X2_has
set_option maxRecDepth 20000 in
theorem ggX6_shift_X6_isWithin : GoodIn wsX6_shift wsX6_isWithin := goodIn_r _ [15] (by decide +kernel) (by decide +kernel)
set_option maxRecDepth 20000 in
theorem gX6_shift_X6_isWithin : GoodIn wsX6_shift (va_wsS RX6 62 yX6_isWithin wsX6_isWithin) := goodIn_app (goodIn_of _ (by decide +kernel)) ggX6_shift_X6_isWithin
set_option maxRecDepth 20000 in
theorem ggX6_shift_X0_keep : GoodIn wsX6_shift wsX0_keep := goodIn_r _ [20, 21, 22, 23, 24, 25, 26, 27, 28, 29, 48, 49, 50, 51, 52] (by decide +kernel) (by decide +kernel)
set_option maxRecDepth 20000 in
theorem gX6_shift_X0_keep : GoodIn wsX6_shift (wsV RX6 133 RX0 yX0_keep wsX0_keep) := goodIn_app (goodIn_of _ (by decide +kernel)) ggX6_shift_X0_keep
theorem dX6_shift_0 : decode cX6_shift 0 = .ok (.aload_n 0, 1) := by decide +kernel
theorem dX6_shift_1 : decode cX6_shift 1 = .ok (.getfield 47, 3) := by decide +kernel
theorem dX6_shift_4 : decode cX6_shift 4 = .ok (.iload_n 1, 1) := by decide +kernel
theorem dX6_shift_5 : decode cX6_shift 5 = .ok (.invokevirtual 139, 3) := by decide +kernel
theorem dX6_shift_8 : decode cX6_shift 8 = .ok (.ifCond .eq 22, 3) := by decide +kernel
theorem dX6_shift_11 : decode cX6_shift 11 = .ok (.iload_n 2, 1) := by decide +kernel
theorem dX6_shift_12 : decode cX6_shift 12 = .ok (.iconst 0, 1) := by decide +kernel
theorem dX6_shift_13 : decode cX6_shift 13 = .ok (.aload_n 0, 1) := by decide +kernel
theorem dX6_shift_14 : decode cX6_shift 14 = .ok (.getfield 47, 3) := by decide +kernel
theorem dX6_shift_17 : decode cX6_shift 17 = .ok (.getfield 155, 3) := by decide +kernel
theorem dX6_shift_20 : decode cX6_shift 20 = .ok (.iload_n 1, 1) := by decide +kernel
theorem dX6_shift_21 : decode cX6_shift 21 = .ok (.iaload, 1) := by decide +kernel
theorem dX6_shift_22 : decode cX6_shift 22 = .ok (.iconst 1, 1) := by decide +kernel
theorem dX6_shift_23 : decode cX6_shift 23 = .ok (.isub, 1) := by decide +kernel
theorem dX6_shift_24 : decode cX6_shift 24 = .ok (.invokestatic 62, 3) := by decide +kernel
theorem dX6_shift_27 : decode cX6_shift 27 = .ok (.ifCond .ne 6, 3) := by decide +kernel
theorem dX6_shift_30 : decode cX6_shift 30 = .ok (.ldc 66, 2) := by decide +kernel
theorem dX6_shift_32 : decode cX6_shift 32 = .ok (.ireturn, 1) := by decide +kernel
theorem dX6_shift_33 : decode cX6_shift 33 = .ok (.aload_n 0, 1) := by decide +kernel
theorem dX6_shift_34 : decode cX6_shift 34 = .ok (.getfield 47, 3) := by decide +kernel
theorem dX6_shift_37 : decode cX6_shift 37 = .ok (.getfield 158, 3) := by decide +kernel
theorem dX6_shift_40 : decode cX6_shift 40 = .ok (.iload_n 1, 1) := by decide +kernel
theorem dX6_shift_41 : decode cX6_shift 41 = .ok (.iaload, 1) := by decide +kernel
theorem dX6_shift_42 : decode cX6_shift 42 = .ok (.istore_n 3, 1) := by decide +kernel
theorem dX6_shift_43 : decode cX6_shift 43 = .ok (.aload_n 0, 1) := by decide +kernel
theorem dX6_shift_44 : decode cX6_shift 44 = .ok (.getfield 26, 3) := by decide +kernel
theorem dX6_shift_47 : decode cX6_shift 47 = .ok (.iconst 3, 1) := by decide +kernel
theorem dX6_shift_48 : decode cX6_shift 48 = .ok (.iload_n 1, 1) := by decide +kernel
theorem dX6_shift_49 : decode cX6_shift 49 = .ok (.iload_n 3, 1) := by decide +kernel
theorem dX6_shift_50 : decode cX6_shift 50 = .ok (.invokevirtual 133, 3) := by decide +kernel
theorem dX6_shift_53 : decode cX6_shift 53 = .ok (.aload_n 0, 1) := by decide +kernel
theorem dX6_shift_54 : decode cX6_shift 54 = .ok (.getfield 47, 3) := by decide +kernel
theorem dX6_shift_57 : decode cX6_shift 57 = .ok (.getfield 158, 3) := by decide +kernel
theorem dX6_shift_60 : decode cX6_shift 60 = .ok (.iload_n 1, 1) := by decide +kernel
theorem dX6_shift_61 : decode cX6_shift 61 = .ok (.iload_n 2, 1) := by decide +kernel
theorem dX6_shift_62 : decode cX6_shift 62 = .ok (.iastore, 1) := by decide +kernel
theorem dX6_shift_63 : decode cX6_shift 63 = .ok (.iload_n 3, 1) := by decide +kernel
theorem dX6_shift_64 : decode cX6_shift 64 = .ok (.ireturn, 1) := by decide +kernel
set_option maxRecDepth 20000 in
theorem ggX6_undo_X0_kept : GoodIn wsX6_undo wsX0_kept := goodIn_r _ [8, 9, 31, 32, 33, 34, 35] (by decide +kernel) (by decide +kernel)
set_option maxRecDepth 20000 in
theorem gX6_undo_X0_kept : GoodIn wsX6_undo (wsV RX6 161 RX0 yX0_kept wsX0_kept) := goodIn_app (goodIn_of _ (by decide +kernel)) ggX6_undo_X0_kept
set_option maxRecDepth 20000 in
theorem ggX6_undo_X0_takeBack : GoodIn wsX6_undo wsX0_takeBack := goodIn_r _ [13, 14, 9, 15, 16, 17, 18, 19, 20, 21, 31, 32, 33, 34, 35, 36, 37, 38, 39, 40, 41, 42, 43, 44] (by decide +kernel) (by decide +kernel)
set_option maxRecDepth 20000 in
theorem gX6_undo_X0_takeBack : GoodIn wsX6_undo (wsV RX6 164 RX0 yX0_takeBack wsX0_takeBack) := goodIn_app (goodIn_of _ (by decide +kernel)) ggX6_undo_X0_takeBack
theorem dX6_undo_0 : decode cX6_undo 0 = .ok (.aload_n 0, 1) := by decide +kernel
theorem dX6_undo_1 : decode cX6_undo 1 = .ok (.getfield 26, 3) := by decide +kernel
theorem dX6_undo_4 : decode cX6_undo 4 = .ok (.invokevirtual 161, 3) := by decide +kernel
theorem dX6_undo_7 : decode cX6_undo 7 = .ok (.ifCond .ne 6, 3) := by decide +kernel
theorem dX6_undo_10 : decode cX6_undo 10 = .ok (.ldc 129, 2) := by decide +kernel
theorem dX6_undo_12 : decode cX6_undo 12 = .ok (.ireturn, 1) := by decide +kernel
theorem dX6_undo_13 : decode cX6_undo 13 = .ok (.aload_n 0, 1) := by decide +kernel
theorem dX6_undo_14 : decode cX6_undo 14 = .ok (.getfield 26, 3) := by decide +kernel
theorem dX6_undo_17 : decode cX6_undo 17 = .ok (.aload_n 0, 1) := by decide +kernel
theorem dX6_undo_18 : decode cX6_undo 18 = .ok (.getfield 47, 3) := by decide +kernel
theorem dX6_undo_21 : decode cX6_undo 21 = .ok (.invokevirtual 164, 3) := by decide +kernel
theorem dX6_undo_24 : decode cX6_undo 24 = .ok (.aload_n 0, 1) := by decide +kernel
theorem dX6_undo_25 : decode cX6_undo 25 = .ok (.getfield 26, 3) := by decide +kernel
theorem dX6_undo_28 : decode cX6_undo 28 = .ok (.invokevirtual 161, 3) := by decide +kernel
theorem dX6_undo_31 : decode cX6_undo 31 = .ok (.ireturn, 1) := by decide +kernel
set_option maxRecDepth 20000 in
theorem ggX6_clue_X2_has : GoodIn wsX6_clue wsX2_has := goodIn_r _ [11, 12, 49, 50, 51, 52, 53, 54, 55, 56, 57] (by decide +kernel) (by decide +kernel)
set_option maxRecDepth 20000 in
theorem gX6_clue_X2_has : GoodIn wsX6_clue (wsV RX6 139 RX2 yX2_has wsX2_has) := goodIn_app (goodIn_of _ (by decide +kernel)) ggX6_clue_X2_has
set_option maxRecDepth 20000 in
theorem ggX6_clue_X2_isBribed : GoodIn wsX6_clue wsX2_isBribed := goodIn_r _ [16, 17, 18, 19, 20, 49, 50, 51, 52, 53, 54, 55, 56, 57] (by decide +kernel) (by decide +kernel)
set_option maxRecDepth 20000 in
theorem gX6_clue_X2_isBribed : GoodIn wsX6_clue (wsV RX6 142 RX2 yX2_isBribed wsX2_isBribed) := goodIn_app (goodIn_of _ (by decide +kernel)) ggX6_clue_X2_isBribed
set_option maxRecDepth 20000 in
theorem ggX6_clue_X2_worksOn : GoodIn wsX6_clue wsX2_worksOn := goodIn_r _ [24, 25, 26, 27, 28, 49, 50, 51, 52, 53, 54, 55, 56, 57] (by decide +kernel) (by decide +kernel)
set_option maxRecDepth 20000 in
theorem gX6_clue_X2_worksOn : GoodIn wsX6_clue (wsV RX6 167 RX2 yX2_worksOn wsX2_worksOn) := goodIn_app (goodIn_of _ (by decide +kernel)) ggX6_clue_X2_worksOn
set_option maxRecDepth 20000 in
theorem ggX6_clue_X2_leftByOne : GoodIn wsX6_clue wsX2_leftByOne := goodIn_r _ [32, 33, 25, 34, 14, 15, 10, 16, 17, 18, 19, 20, 35, 36, 37, 38, 39, 49, 50, 51, 52, 53, 54, 55, 56, 57] (by decide +kernel) (by decide +kernel)
set_option maxRecDepth 20000 in
theorem gX6_clue_X2_leftByOne : GoodIn wsX6_clue (wsV RX6 171 RX2 yX2_leftByOne wsX2_leftByOne) := goodIn_app (goodIn_of _ (by decide +kernel)) ggX6_clue_X2_leftByOne
theorem dX6_clue_0 : decode cX6_clue 0 = .ok (.aload_n 0, 1) := by decide +kernel
theorem dX6_clue_1 : decode cX6_clue 1 = .ok (.getfield 47, 3) := by decide +kernel
theorem dX6_clue_4 : decode cX6_clue 4 = .ok (.iload_n 1, 1) := by decide +kernel
theorem dX6_clue_5 : decode cX6_clue 5 = .ok (.invokevirtual 139, 3) := by decide +kernel
theorem dX6_clue_8 : decode cX6_clue 8 = .ok (.ifCond .ne 6, 3) := by decide +kernel
theorem dX6_clue_11 : decode cX6_clue 11 = .ok (.ldc 66, 2) := by decide +kernel
theorem dX6_clue_13 : decode cX6_clue 13 = .ok (.ireturn, 1) := by decide +kernel
theorem dX6_clue_14 : decode cX6_clue 14 = .ok (.iload_n 2, 1) := by decide +kernel
theorem dX6_clue_15 : decode cX6_clue 15 = .ok (.tableswitch 117 0 5 #[37, 47, 57, 67, 84, 108], 37) := by decide +kernel
theorem dX6_clue_52 : decode cX6_clue 52 = .ok (.aload_n 0, 1) := by decide +kernel
theorem dX6_clue_53 : decode cX6_clue 53 = .ok (.getfield 47, 3) := by decide +kernel
theorem dX6_clue_56 : decode cX6_clue 56 = .ok (.getfield 151, 3) := by decide +kernel
theorem dX6_clue_59 : decode cX6_clue 59 = .ok (.iload_n 1, 1) := by decide +kernel
theorem dX6_clue_60 : decode cX6_clue 60 = .ok (.iaload, 1) := by decide +kernel
theorem dX6_clue_61 : decode cX6_clue 61 = .ok (.ireturn, 1) := by decide +kernel
theorem dX6_clue_62 : decode cX6_clue 62 = .ok (.aload_n 0, 1) := by decide +kernel
theorem dX6_clue_63 : decode cX6_clue 63 = .ok (.getfield 47, 3) := by decide +kernel
theorem dX6_clue_66 : decode cX6_clue 66 = .ok (.getfield 155, 3) := by decide +kernel
theorem dX6_clue_69 : decode cX6_clue 69 = .ok (.iload_n 1, 1) := by decide +kernel
theorem dX6_clue_70 : decode cX6_clue 70 = .ok (.iaload, 1) := by decide +kernel
theorem dX6_clue_71 : decode cX6_clue 71 = .ok (.ireturn, 1) := by decide +kernel
theorem dX6_clue_72 : decode cX6_clue 72 = .ok (.aload_n 0, 1) := by decide +kernel
theorem dX6_clue_73 : decode cX6_clue 73 = .ok (.getfield 47, 3) := by decide +kernel
theorem dX6_clue_76 : decode cX6_clue 76 = .ok (.getfield 158, 3) := by decide +kernel
theorem dX6_clue_79 : decode cX6_clue 79 = .ok (.iload_n 1, 1) := by decide +kernel
theorem dX6_clue_80 : decode cX6_clue 80 = .ok (.iaload, 1) := by decide +kernel
theorem dX6_clue_81 : decode cX6_clue 81 = .ok (.ireturn, 1) := by decide +kernel
theorem dX6_clue_82 : decode cX6_clue 82 = .ok (.aload_n 0, 1) := by decide +kernel
theorem dX6_clue_83 : decode cX6_clue 83 = .ok (.getfield 47, 3) := by decide +kernel
theorem dX6_clue_86 : decode cX6_clue 86 = .ok (.iload_n 1, 1) := by decide +kernel
theorem dX6_clue_87 : decode cX6_clue 87 = .ok (.invokevirtual 142, 3) := by decide +kernel
theorem dX6_clue_90 : decode cX6_clue 90 = .ok (.ifCond .eq 7, 3) := by decide +kernel
theorem dX6_clue_93 : decode cX6_clue 93 = .ok (.iconst 1, 1) := by decide +kernel
theorem dX6_clue_94 : decode cX6_clue 94 = .ok (.goto 4, 3) := by decide +kernel
theorem dX6_clue_97 : decode cX6_clue 97 = .ok (.iconst 0, 1) := by decide +kernel
theorem dX6_clue_98 : decode cX6_clue 98 = .ok (.ireturn, 1) := by decide +kernel
theorem dX6_clue_99 : decode cX6_clue 99 = .ok (.aload_n 0, 1) := by decide +kernel
theorem dX6_clue_100 : decode cX6_clue 100 = .ok (.getfield 47, 3) := by decide +kernel
theorem dX6_clue_103 : decode cX6_clue 103 = .ok (.iload_n 1, 1) := by decide +kernel
theorem dX6_clue_104 : decode cX6_clue 104 = .ok (.aload_n 0, 1) := by decide +kernel
theorem dX6_clue_105 : decode cX6_clue 105 = .ok (.getfield 47, 3) := by decide +kernel
theorem dX6_clue_108 : decode cX6_clue 108 = .ok (.getfield 130, 3) := by decide +kernel
theorem dX6_clue_111 : decode cX6_clue 111 = .ok (.invokevirtual 167, 3) := by decide +kernel
theorem dX6_clue_114 : decode cX6_clue 114 = .ok (.ifCond .eq 7, 3) := by decide +kernel
theorem dX6_clue_117 : decode cX6_clue 117 = .ok (.iconst 1, 1) := by decide +kernel
theorem dX6_clue_118 : decode cX6_clue 118 = .ok (.goto 4, 3) := by decide +kernel
theorem dX6_clue_121 : decode cX6_clue 121 = .ok (.iconst 0, 1) := by decide +kernel
theorem dX6_clue_122 : decode cX6_clue 122 = .ok (.ireturn, 1) := by decide +kernel
theorem dX6_clue_123 : decode cX6_clue 123 = .ok (.aload_n 0, 1) := by decide +kernel
theorem dX6_clue_124 : decode cX6_clue 124 = .ok (.getfield 47, 3) := by decide +kernel
theorem dX6_clue_127 : decode cX6_clue 127 = .ok (.iload_n 1, 1) := by decide +kernel
theorem dX6_clue_128 : decode cX6_clue 128 = .ok (.invokevirtual 171, 3) := by decide +kernel
theorem dX6_clue_131 : decode cX6_clue 131 = .ok (.ireturn, 1) := by decide +kernel
theorem dX6_clue_132 : decode cX6_clue 132 = .ok (.ldc 66, 2) := by decide +kernel
theorem dX6_clue_134 : decode cX6_clue 134 = .ok (.ireturn, 1) := by decide +kernel
set_option maxRecDepth 20000 in
theorem ggX6_ahead_X2_stands : GoodIn wsX6_ahead wsX2_stands := goodIn_r _ [9, 10, 77, 78, 79, 80, 81, 82, 83, 84, 85] (by decide +kernel) (by decide +kernel)
set_option maxRecDepth 20000 in
theorem gX6_ahead_X2_stands : GoodIn wsX6_ahead (wsV RX6 126 RX2 yX2_stands wsX2_stands) := goodIn_app (goodIn_of _ (by decide +kernel)) ggX6_ahead_X2_stands
set_option maxRecDepth 20000 in
theorem ggX6_ahead_X6_isWithin : GoodIn wsX6_ahead wsX6_isWithin := goodIn_r _ [14] (by decide +kernel) (by decide +kernel)
set_option maxRecDepth 20000 in
theorem gX6_ahead_X6_isWithin : GoodIn wsX6_ahead (va_wsS RX6 62 yX6_isWithin wsX6_isWithin) := goodIn_app (goodIn_of _ (by decide +kernel)) ggX6_ahead_X6_isWithin
set_option maxRecDepth 20000 in
theorem ggX6_ahead_X2_leftOn : GoodIn wsX6_ahead wsX2_leftOn := goodIn_r _ [18, 19, 20, 21, 8, 22, 23, 24, 25, 26, 27, 28, 29, 30, 31, 32, 33, 34, 35, 36, 37, 38, 39, 10, 40, 13, 41, 42, 43, 44, 45, 46, 47, 48, 49, 50, 51, 77, 78, 79, 80, 81, 82, 83, 84, 85] (by decide +kernel) (by decide +kernel)
set_option maxRecDepth 20000 in
theorem gX6_ahead_X2_leftOn : GoodIn wsX6_ahead (wsV RX6 136 RX2 yX2_leftOn wsX2_leftOn) := goodIn_app (goodIn_of _ (by decide +kernel)) ggX6_ahead_X2_leftOn
set_option maxRecDepth 20000 in
theorem ggX6_ahead_X2_workersOn : GoodIn wsX6_ahead wsX2_workersOn := goodIn_r _ [22, 23, 24, 25, 26, 8, 27, 28, 29, 30, 31, 77, 78, 79, 80, 81, 82, 83, 84, 85] (by decide +kernel) (by decide +kernel)
set_option maxRecDepth 20000 in
theorem gX6_ahead_X2_workersOn : GoodIn wsX6_ahead (wsV RX6 174 RX2 yX2_workersOn wsX2_workersOn) := goodIn_app (goodIn_of _ (by decide +kernel)) ggX6_ahead_X2_workersOn
set_option maxRecDepth 20000 in
theorem ggX6_ahead_X6_onlyOne : GoodIn wsX6_ahead wsX6_onlyOne := goodIn_r _ [55, 56, 57, 58, 59, 60, 61, 62, 63, 64, 65, 66, 67] (by decide +kernel) (by decide +kernel)
set_option maxRecDepth 20000 in
theorem gX6_ahead_X6_onlyOne : GoodIn wsX6_ahead (va_wsS RX6 177 yX6_onlyOne wsX6_onlyOne) := goodIn_app (goodIn_of _ (by decide +kernel)) ggX6_ahead_X6_onlyOne
theorem dX6_ahead_0 : decode cX6_ahead 0 = .ok (.aload_n 0, 1) := by decide +kernel
theorem dX6_ahead_1 : decode cX6_ahead 1 = .ok (.getfield 47, 3) := by decide +kernel
theorem dX6_ahead_4 : decode cX6_ahead 4 = .ok (.invokevirtual 126, 3) := by decide +kernel
theorem dX6_ahead_7 : decode cX6_ahead 7 = .ok (.ifCond .ne 6, 3) := by decide +kernel
theorem dX6_ahead_10 : decode cX6_ahead 10 = .ok (.ldc 129, 2) := by decide +kernel
theorem dX6_ahead_12 : decode cX6_ahead 12 = .ok (.ireturn, 1) := by decide +kernel
theorem dX6_ahead_13 : decode cX6_ahead 13 = .ok (.iload_n 1, 1) := by decide +kernel
theorem dX6_ahead_14 : decode cX6_ahead 14 = .ok (.iconst 0, 1) := by decide +kernel
theorem dX6_ahead_15 : decode cX6_ahead 15 = .ok (.bipush 99, 2) := by decide +kernel
theorem dX6_ahead_17 : decode cX6_ahead 17 = .ok (.invokestatic 62, 3) := by decide +kernel
theorem dX6_ahead_20 : decode cX6_ahead 20 = .ok (.ifCond .eq 12, 3) := by decide +kernel
theorem dX6_ahead_23 : decode cX6_ahead 23 = .ok (.iload_n 2, 1) := by decide +kernel
theorem dX6_ahead_24 : decode cX6_ahead 24 = .ok (.iconst 0, 1) := by decide +kernel
theorem dX6_ahead_25 : decode cX6_ahead 25 = .ok (.iconst 2, 1) := by decide +kernel
theorem dX6_ahead_26 : decode cX6_ahead 26 = .ok (.invokestatic 62, 3) := by decide +kernel
theorem dX6_ahead_29 : decode cX6_ahead 29 = .ok (.ifCond .ne 6, 3) := by decide +kernel
theorem dX6_ahead_32 : decode cX6_ahead 32 = .ok (.ldc 66, 2) := by decide +kernel
theorem dX6_ahead_34 : decode cX6_ahead 34 = .ok (.ireturn, 1) := by decide +kernel
theorem dX6_ahead_35 : decode cX6_ahead 35 = .ok (.aload_n 0, 1) := by decide +kernel
theorem dX6_ahead_36 : decode cX6_ahead 36 = .ok (.getfield 47, 3) := by decide +kernel
theorem dX6_ahead_39 : decode cX6_ahead 39 = .ok (.getfield 130, 3) := by decide +kernel
theorem dX6_ahead_42 : decode cX6_ahead 42 = .ok (.iload_n 1, 1) := by decide +kernel
theorem dX6_ahead_43 : decode cX6_ahead 43 = .ok (.iadd, 1) := by decide +kernel
theorem dX6_ahead_44 : decode cX6_ahead 44 = .ok (.istore_n 3, 1) := by decide +kernel
theorem dX6_ahead_45 : decode cX6_ahead 45 = .ok (.iload_n 2, 1) := by decide +kernel
theorem dX6_ahead_46 : decode cX6_ahead 46 = .ok (.ifCond .ne 12, 3) := by decide +kernel
theorem dX6_ahead_49 : decode cX6_ahead 49 = .ok (.aload_n 0, 1) := by decide +kernel
theorem dX6_ahead_50 : decode cX6_ahead 50 = .ok (.getfield 47, 3) := by decide +kernel
theorem dX6_ahead_53 : decode cX6_ahead 53 = .ok (.iload_n 3, 1) := by decide +kernel
theorem dX6_ahead_54 : decode cX6_ahead 54 = .ok (.invokevirtual 136, 3) := by decide +kernel
theorem dX6_ahead_57 : decode cX6_ahead 57 = .ok (.ireturn, 1) := by decide +kernel
theorem dX6_ahead_58 : decode cX6_ahead 58 = .ok (.iload_n 2, 1) := by decide +kernel
theorem dX6_ahead_59 : decode cX6_ahead 59 = .ok (.iconst 1, 1) := by decide +kernel
theorem dX6_ahead_60 : decode cX6_ahead 60 = .ok (.if_icmp .ne 14, 3) := by decide +kernel
theorem dX6_ahead_63 : decode cX6_ahead 63 = .ok (.aload_n 0, 1) := by decide +kernel
theorem dX6_ahead_64 : decode cX6_ahead 64 = .ok (.getfield 47, 3) := by decide +kernel
theorem dX6_ahead_67 : decode cX6_ahead 67 = .ok (.iload_n 3, 1) := by decide +kernel
theorem dX6_ahead_68 : decode cX6_ahead 68 = .ok (.invokevirtual 174, 3) := by decide +kernel
theorem dX6_ahead_71 : decode cX6_ahead 71 = .ok (.goto 14, 3) := by decide +kernel
theorem dX6_ahead_74 : decode cX6_ahead 74 = .ok (.aload_n 0, 1) := by decide +kernel
theorem dX6_ahead_75 : decode cX6_ahead 75 = .ok (.getfield 47, 3) := by decide +kernel
theorem dX6_ahead_78 : decode cX6_ahead 78 = .ok (.iload_n 3, 1) := by decide +kernel
theorem dX6_ahead_79 : decode cX6_ahead 79 = .ok (.invokevirtual 136, 3) := by decide +kernel
theorem dX6_ahead_82 : decode cX6_ahead 82 = .ok (.invokestatic 177, 3) := by decide +kernel
theorem dX6_ahead_85 : decode cX6_ahead 85 = .ok (.ireturn, 1) := by decide +kernel
set_option maxRecDepth 20000 in
theorem ggX6_first_X2_stands : GoodIn wsX6_first wsX2_stands := goodIn_r _ [10, 11, 69, 70, 71, 72, 73, 74, 75, 76, 77] (by decide +kernel) (by decide +kernel)
set_option maxRecDepth 20000 in
theorem gX6_first_X2_stands : GoodIn wsX6_first (wsV RX6 126 RX2 yX2_stands wsX2_stands) := goodIn_app (goodIn_of _ (by decide +kernel)) ggX6_first_X2_stands
set_option maxRecDepth 20000 in
theorem ggX6_first_X6_isWithin : GoodIn wsX6_first wsX6_isWithin := goodIn_r _ [15] (by decide +kernel) (by decide +kernel)
set_option maxRecDepth 20000 in
theorem gX6_first_X6_isWithin : GoodIn wsX6_first (va_wsS RX6 62 yX6_isWithin wsX6_isWithin) := goodIn_app (goodIn_of _ (by decide +kernel)) ggX6_first_X6_isWithin
set_option maxRecDepth 20000 in
theorem ggX6_first_X2_leftOn : GoodIn wsX6_first wsX2_leftOn := goodIn_r _ [19, 20, 21, 22, 9, 23, 24, 25, 26, 27, 28, 29, 30, 31, 32, 33, 34, 35, 36, 37, 38, 39, 40, 11, 41, 14, 42, 43, 44, 45, 46, 47, 48, 49, 50, 51, 52, 69, 70, 71, 72, 73, 74, 75, 76, 77] (by decide +kernel) (by decide +kernel)
set_option maxRecDepth 20000 in
theorem gX6_first_X2_leftOn : GoodIn wsX6_first (wsV RX6 136 RX2 yX2_leftOn wsX2_leftOn) := goodIn_app (goodIn_of _ (by decide +kernel)) ggX6_first_X2_leftOn
set_option maxRecDepth 20000 in
theorem ggX6_first_J6_bitCount_0f7a4 : GoodIn wsX6_first wsJ6_bitCount_0f7a4 := goodIn_r _ [56, 57, 58, 59] (by decide +kernel) (by decide +kernel)
set_option maxRecDepth 20000 in
theorem gX6_first_J6_bitCount_0f7a4 : GoodIn wsX6_first (va_wsS RX6 180 yJ6_bitCount_0f7a4 wsJ6_bitCount_0f7a4) := goodIn_app (goodIn_of _ (by decide +kernel)) ggX6_first_J6_bitCount_0f7a4
theorem dX6_first_0 : decode cX6_first 0 = .ok (.aload_n 0, 1) := by decide +kernel
theorem dX6_first_1 : decode cX6_first 1 = .ok (.getfield 47, 3) := by decide +kernel
theorem dX6_first_4 : decode cX6_first 4 = .ok (.invokevirtual 126, 3) := by decide +kernel
theorem dX6_first_7 : decode cX6_first 7 = .ok (.ifCond .ne 6, 3) := by decide +kernel
theorem dX6_first_10 : decode cX6_first 10 = .ok (.ldc 129, 2) := by decide +kernel
theorem dX6_first_12 : decode cX6_first 12 = .ok (.ireturn, 1) := by decide +kernel
theorem dX6_first_13 : decode cX6_first 13 = .ok (.iload_n 1, 1) := by decide +kernel
theorem dX6_first_14 : decode cX6_first 14 = .ok (.iconst 0, 1) := by decide +kernel
theorem dX6_first_15 : decode cX6_first 15 = .ok (.iconst 1, 1) := by decide +kernel
theorem dX6_first_16 : decode cX6_first 16 = .ok (.invokestatic 62, 3) := by decide +kernel
theorem dX6_first_19 : decode cX6_first 19 = .ok (.ifCond .ne 6, 3) := by decide +kernel
theorem dX6_first_22 : decode cX6_first 22 = .ok (.ldc 66, 2) := by decide +kernel
theorem dX6_first_24 : decode cX6_first 24 = .ok (.ireturn, 1) := by decide +kernel
theorem dX6_first_25 : decode cX6_first 25 = .ok (.iload_n 1, 1) := by decide +kernel
theorem dX6_first_26 : decode cX6_first 26 = .ok (.iconst 1, 1) := by decide +kernel
theorem dX6_first_27 : decode cX6_first 27 = .ok (.if_icmp .ne 7, 3) := by decide +kernel
theorem dX6_first_30 : decode cX6_first 30 = .ok (.iconst 0, 1) := by decide +kernel
theorem dX6_first_31 : decode cX6_first 31 = .ok (.goto 4, 3) := by decide +kernel
theorem dX6_first_34 : decode cX6_first 34 = .ok (.iconst 1, 1) := by decide +kernel
theorem dX6_first_35 : decode cX6_first 35 = .ok (.istore_n 2, 1) := by decide +kernel
theorem dX6_first_36 : decode cX6_first 36 = .ok (.iconst 0, 1) := by decide +kernel
theorem dX6_first_37 : decode cX6_first 37 = .ok (.istore_n 3, 1) := by decide +kernel
theorem dX6_first_38 : decode cX6_first 38 = .ok (.iload_n 3, 1) := by decide +kernel
theorem dX6_first_39 : decode cX6_first 39 = .ok (.bipush 99, 2) := by decide +kernel
theorem dX6_first_41 : decode cX6_first 41 = .ok (.if_icmp .gt 34, 3) := by decide +kernel
theorem dX6_first_44 : decode cX6_first 44 = .ok (.aload_n 0, 1) := by decide +kernel
theorem dX6_first_45 : decode cX6_first 45 = .ok (.getfield 47, 3) := by decide +kernel
theorem dX6_first_48 : decode cX6_first 48 = .ok (.aload_n 0, 1) := by decide +kernel
theorem dX6_first_49 : decode cX6_first 49 = .ok (.getfield 47, 3) := by decide +kernel
theorem dX6_first_52 : decode cX6_first 52 = .ok (.getfield 130, 3) := by decide +kernel
theorem dX6_first_55 : decode cX6_first 55 = .ok (.iload_n 3, 1) := by decide +kernel
theorem dX6_first_56 : decode cX6_first 56 = .ok (.iadd, 1) := by decide +kernel
theorem dX6_first_57 : decode cX6_first 57 = .ok (.invokevirtual 136, 3) := by decide +kernel
theorem dX6_first_60 : decode cX6_first 60 = .ok (.invokestatic 180, 3) := by decide +kernel
theorem dX6_first_63 : decode cX6_first 63 = .ok (.iload_n 2, 1) := by decide +kernel
theorem dX6_first_64 : decode cX6_first 64 = .ok (.if_icmp .ne 5, 3) := by decide +kernel
theorem dX6_first_67 : decode cX6_first 67 = .ok (.iload_n 3, 1) := by decide +kernel
theorem dX6_first_68 : decode cX6_first 68 = .ok (.ireturn, 1) := by decide +kernel
theorem dX6_first_69 : decode cX6_first 69 = .ok (.iinc 3 1, 3) := by decide +kernel
theorem dX6_first_72 : decode cX6_first 72 = .ok (.goto (-34), 3) := by decide +kernel
theorem dX6_first_75 : decode cX6_first 75 = .ok (.ldc 185, 2) := by decide +kernel
theorem dX6_first_77 : decode cX6_first 77 = .ok (.ireturn, 1) := by decide +kernel
set_option maxRecDepth 20000 in
theorem ggX6_rota_X2_stands : GoodIn wsX6_rota wsX2_stands := goodIn_r _ [12, 13, 113, 114, 115, 116, 117, 118, 119, 120, 121] (by decide +kernel) (by decide +kernel)
set_option maxRecDepth 20000 in
theorem gX6_rota_X2_stands : GoodIn wsX6_rota (wsV RX6 126 RX2 yX2_stands wsX2_stands) := goodIn_app (goodIn_of _ (by decide +kernel)) ggX6_rota_X2_stands
set_option maxRecDepth 20000 in
theorem ggX6_rota_X6_isWithin : GoodIn wsX6_rota wsX6_isWithin := goodIn_r _ [17] (by decide +kernel) (by decide +kernel)
set_option maxRecDepth 20000 in
theorem gX6_rota_X6_isWithin : GoodIn wsX6_rota (va_wsS RX6 62 yX6_isWithin wsX6_isWithin) := goodIn_app (goodIn_of _ (by decide +kernel)) ggX6_rota_X6_isWithin
set_option maxRecDepth 20000 in
theorem ggX6_rota_X2_become : GoodIn wsX6_rota wsX2_become := goodIn_r _ [21, 13, 22, 23, 24, 25, 26, 27, 28, 29, 30, 31, 32, 33, 113, 114, 115, 116, 117, 118, 119, 120, 121] (by decide +kernel) (by decide +kernel)
set_option maxRecDepth 20000 in
theorem gX6_rota_X2_become : GoodIn wsX6_rota (wsV RX6 111 RX2 yX2_become wsX2_become) := goodIn_app (goodIn_of _ (by decide +kernel)) ggX6_rota_X2_become
set_option maxRecDepth 20000 in
theorem ggX6_rota_X3_run : GoodIn wsX6_rota wsX3_run := goodIn_r _ [38, 39, 40, 41, 42, 43, 28, 29, 30, 44, 45, 46, 37, 47, 48, 49, 50, 51, 52, 53, 54, 55, 56, 57, 58, 11, 59, 26, 22, 32, 33, 60, 61, 62, 63, 31, 64, 65, 66, 67, 25, 68, 16, 69, 70, 71, 72, 73, 13, 74, 75, 76, 77, 78, 79, 80, 81, 82, 83, 84, 85, 86, 87, 88, 89, 90, 91, 92, 93, 94, 95, 113, 114, 115, 116, 117, 118, 119, 120, 121, 122, 123, 124, 125] (by decide +kernel) (by decide +kernel)
set_option maxRecDepth 20000 in
theorem gX6_rota_X3_run : GoodIn wsX6_rota (wsV RX6 186 RX3 yX3_run wsX3_run) := goodIn_app (goodIn_of _ (by decide +kernel)) ggX6_rota_X3_run
set_option maxRecDepth 20000 in
theorem ggX6_rota_X3_mostSure : GoodIn wsX6_rota wsX3_mostSure := goodIn_r _ [99, 41, 122, 123, 124, 125] (by decide +kernel) (by decide +kernel)
set_option maxRecDepth 20000 in
theorem gX6_rota_X3_mostSure : GoodIn wsX6_rota (wsV RX6 190 RX3 yX3_mostSure wsX3_mostSure) := goodIn_app (goodIn_of _ (by decide +kernel)) ggX6_rota_X3_mostSure
set_option maxRecDepth 20000 in
theorem ggX6_rota_X3_bestOff : GoodIn wsX6_rota wsX3_bestOff := goodIn_r _ [103, 42, 122, 123, 124, 125] (by decide +kernel) (by decide +kernel)
set_option maxRecDepth 20000 in
theorem gX6_rota_X3_bestOff : GoodIn wsX6_rota (wsV RX6 193 RX3 yX3_bestOff wsX3_bestOff) := goodIn_app (goodIn_of _ (by decide +kernel)) ggX6_rota_X3_bestOff
theorem dX6_rota_0 : decode cX6_rota 0 = .ok (.aload_n 0, 1) := by decide +kernel
theorem dX6_rota_1 : decode cX6_rota 1 = .ok (.getfield 47, 3) := by decide +kernel
theorem dX6_rota_4 : decode cX6_rota 4 = .ok (.invokevirtual 126, 3) := by decide +kernel
theorem dX6_rota_7 : decode cX6_rota 7 = .ok (.ifCond .ne 6, 3) := by decide +kernel
theorem dX6_rota_10 : decode cX6_rota 10 = .ok (.ldc 129, 2) := by decide +kernel
theorem dX6_rota_12 : decode cX6_rota 12 = .ok (.ireturn, 1) := by decide +kernel
theorem dX6_rota_13 : decode cX6_rota 13 = .ok (.iload_n 1, 1) := by decide +kernel
theorem dX6_rota_14 : decode cX6_rota 14 = .ok (.iconst 1, 1) := by decide +kernel
theorem dX6_rota_15 : decode cX6_rota 15 = .ok (.bipush 14, 2) := by decide +kernel
theorem dX6_rota_17 : decode cX6_rota 17 = .ok (.invokestatic 62, 3) := by decide +kernel
theorem dX6_rota_20 : decode cX6_rota 20 = .ok (.ifCond .eq 12, 3) := by decide +kernel
theorem dX6_rota_23 : decode cX6_rota 23 = .ok (.iload_n 2, 1) := by decide +kernel
theorem dX6_rota_24 : decode cX6_rota 24 = .ok (.iconst (-1), 1) := by decide +kernel
theorem dX6_rota_25 : decode cX6_rota 25 = .ok (.iconst 5, 1) := by decide +kernel
theorem dX6_rota_26 : decode cX6_rota 26 = .ok (.invokestatic 62, 3) := by decide +kernel
theorem dX6_rota_29 : decode cX6_rota 29 = .ok (.ifCond .ne 6, 3) := by decide +kernel
theorem dX6_rota_32 : decode cX6_rota 32 = .ok (.ldc 66, 2) := by decide +kernel
theorem dX6_rota_34 : decode cX6_rota 34 = .ok (.ireturn, 1) := by decide +kernel
theorem dX6_rota_35 : decode cX6_rota 35 = .ok (.iload_n 2, 1) := by decide +kernel
theorem dX6_rota_36 : decode cX6_rota 36 = .ok (.aload_n 0, 1) := by decide +kernel
theorem dX6_rota_37 : decode cX6_rota 37 = .ok (.getfield 47, 3) := by decide +kernel
theorem dX6_rota_40 : decode cX6_rota 40 = .ok (.getfield 118, 3) := by decide +kernel
theorem dX6_rota_43 : decode cX6_rota 43 = .ok (.if_icmp .lt 6, 3) := by decide +kernel
theorem dX6_rota_46 : decode cX6_rota 46 = .ok (.ldc 185, 2) := by decide +kernel
theorem dX6_rota_48 : decode cX6_rota 48 = .ok (.ireturn, 1) := by decide +kernel
theorem dX6_rota_49 : decode cX6_rota 49 = .ok (.aload_n 0, 1) := by decide +kernel
theorem dX6_rota_50 : decode cX6_rota 50 = .ok (.getfield 51, 3) := by decide +kernel
theorem dX6_rota_53 : decode cX6_rota 53 = .ok (.aload_n 0, 1) := by decide +kernel
theorem dX6_rota_54 : decode cX6_rota 54 = .ok (.getfield 47, 3) := by decide +kernel
theorem dX6_rota_57 : decode cX6_rota 57 = .ok (.invokevirtual 111, 3) := by decide +kernel
theorem dX6_rota_60 : decode cX6_rota 60 = .ok (.aload_n 0, 1) := by decide +kernel
theorem dX6_rota_61 : decode cX6_rota 61 = .ok (.getfield 33, 3) := by decide +kernel
theorem dX6_rota_64 : decode cX6_rota 64 = .ok (.aload_n 0, 1) := by decide +kernel
theorem dX6_rota_65 : decode cX6_rota 65 = .ok (.getfield 51, 3) := by decide +kernel
theorem dX6_rota_68 : decode cX6_rota 68 = .ok (.iload_n 1, 1) := by decide +kernel
theorem dX6_rota_69 : decode cX6_rota 69 = .ok (.invokevirtual 186, 3) := by decide +kernel
theorem dX6_rota_72 : decode cX6_rota 72 = .ok (.iload_n 2, 1) := by decide +kernel
theorem dX6_rota_73 : decode cX6_rota 73 = .ok (.ifCond .ge 13, 3) := by decide +kernel
theorem dX6_rota_76 : decode cX6_rota 76 = .ok (.aload_n 0, 1) := by decide +kernel
theorem dX6_rota_77 : decode cX6_rota 77 = .ok (.getfield 33, 3) := by decide +kernel
theorem dX6_rota_80 : decode cX6_rota 80 = .ok (.invokevirtual 190, 3) := by decide +kernel
theorem dX6_rota_83 : decode cX6_rota 83 = .ok (.goto 11, 3) := by decide +kernel
theorem dX6_rota_86 : decode cX6_rota 86 = .ok (.aload_n 0, 1) := by decide +kernel
theorem dX6_rota_87 : decode cX6_rota 87 = .ok (.getfield 33, 3) := by decide +kernel
theorem dX6_rota_90 : decode cX6_rota 90 = .ok (.iload_n 2, 1) := by decide +kernel
theorem dX6_rota_91 : decode cX6_rota 91 = .ok (.invokevirtual 193, 3) := by decide +kernel
theorem dX6_rota_94 : decode cX6_rota 94 = .ok (.ireturn, 1) := by decide +kernel
set_option maxRecDepth 20000 in
theorem ggX6_when_X6_isWithin : GoodIn wsX6_when wsX6_isWithin := goodIn_r _ [9] (by decide +kernel) (by decide +kernel)
set_option maxRecDepth 20000 in
theorem gX6_when_X6_isWithin : GoodIn wsX6_when (va_wsS RX6 62 yX6_isWithin wsX6_isWithin) := goodIn_app (goodIn_of _ (by decide +kernel)) ggX6_when_X6_isWithin
set_option maxRecDepth 20000 in
theorem ggX6_when_X2_leftOn : GoodIn wsX6_when wsX2_leftOn := goodIn_r _ [14, 15, 16, 17, 13, 18, 19, 20, 21, 22, 23, 24, 25, 26, 27, 28, 29, 30, 31, 32, 33, 34, 35, 36, 37, 8, 38, 39, 40, 41, 42, 43, 44, 45, 46, 47, 48, 66, 67, 68, 69, 70, 71, 72, 73, 74] (by decide +kernel) (by decide +kernel)
set_option maxRecDepth 20000 in
theorem gX6_when_X2_leftOn : GoodIn wsX6_when (wsV RX6 136 RX2 yX2_leftOn wsX2_leftOn) := goodIn_app (goodIn_of _ (by decide +kernel)) ggX6_when_X2_leftOn
set_option maxRecDepth 20000 in
theorem ggX6_when_X6_isIn : GoodIn wsX6_when wsX6_isIn := goodIn_r _ [38] (by decide +kernel) (by decide +kernel)
set_option maxRecDepth 20000 in
theorem gX6_when_X6_isIn : GoodIn wsX6_when (va_wsS RX6 199 yX6_isIn wsX6_isIn) := goodIn_app (goodIn_of _ (by decide +kernel)) ggX6_when_X6_isIn
set_option maxRecDepth 20000 in
theorem ggX6_when_J6_bitCount_0f7a4 : GoodIn wsX6_when wsJ6_bitCount_0f7a4 := goodIn_r _ [53, 54, 55, 56] (by decide +kernel) (by decide +kernel)
set_option maxRecDepth 20000 in
theorem gX6_when_J6_bitCount_0f7a4 : GoodIn wsX6_when (va_wsS RX6 180 yJ6_bitCount_0f7a4 wsJ6_bitCount_0f7a4) := goodIn_app (goodIn_of _ (by decide +kernel)) ggX6_when_J6_bitCount_0f7a4
theorem dX6_when_0 : decode cX6_when 0 = .ok (.iload_n 1, 1) := by decide +kernel
theorem dX6_when_1 : decode cX6_when 1 = .ok (.iconst 0, 1) := by decide +kernel
theorem dX6_when_2 : decode cX6_when 2 = .ok (.aload_n 0, 1) := by decide +kernel
theorem dX6_when_3 : decode cX6_when 3 = .ok (.getfield 47, 3) := by decide +kernel
theorem dX6_when_6 : decode cX6_when 6 = .ok (.getfield 196, 3) := by decide +kernel
theorem dX6_when_9 : decode cX6_when 9 = .ok (.iconst 1, 1) := by decide +kernel
theorem dX6_when_10 : decode cX6_when 10 = .ok (.isub, 1) := by decide +kernel
theorem dX6_when_11 : decode cX6_when 11 = .ok (.invokestatic 62, 3) := by decide +kernel
theorem dX6_when_14 : decode cX6_when 14 = .ok (.ifCond .eq 13, 3) := by decide +kernel
theorem dX6_when_17 : decode cX6_when 17 = .ok (.iload_n 2, 1) := by decide +kernel
theorem dX6_when_18 : decode cX6_when 18 = .ok (.iconst 1, 1) := by decide +kernel
theorem dX6_when_19 : decode cX6_when 19 = .ok (.bipush 60, 2) := by decide +kernel
theorem dX6_when_21 : decode cX6_when 21 = .ok (.invokestatic 62, 3) := by decide +kernel
theorem dX6_when_24 : decode cX6_when 24 = .ok (.ifCond .ne 6, 3) := by decide +kernel
theorem dX6_when_27 : decode cX6_when 27 = .ok (.ldc 66, 2) := by decide +kernel
theorem dX6_when_29 : decode cX6_when 29 = .ok (.ireturn, 1) := by decide +kernel
theorem dX6_when_30 : decode cX6_when 30 = .ok (.ldc 185, 2) := by decide +kernel
theorem dX6_when_32 : decode cX6_when 32 = .ok (.istore_n 3, 1) := by decide +kernel
theorem dX6_when_33 : decode cX6_when 33 = .ok (.iconst 1, 1) := by decide +kernel
theorem dX6_when_34 : decode cX6_when 34 = .ok (.istore 4, 2) := by decide +kernel
theorem dX6_when_36 : decode cX6_when 36 = .ok (.iconst 0, 1) := by decide +kernel
theorem dX6_when_37 : decode cX6_when 37 = .ok (.istore 5, 2) := by decide +kernel
theorem dX6_when_39 : decode cX6_when 39 = .ok (.iload 5, 2) := by decide +kernel
theorem dX6_when_41 : decode cX6_when 41 = .ok (.iload_n 2, 1) := by decide +kernel
theorem dX6_when_42 : decode cX6_when 42 = .ok (.if_icmp .ge 57, 3) := by decide +kernel
theorem dX6_when_45 : decode cX6_when 45 = .ok (.aload_n 0, 1) := by decide +kernel
theorem dX6_when_46 : decode cX6_when 46 = .ok (.getfield 47, 3) := by decide +kernel
theorem dX6_when_49 : decode cX6_when 49 = .ok (.aload_n 0, 1) := by decide +kernel
theorem dX6_when_50 : decode cX6_when 50 = .ok (.getfield 47, 3) := by decide +kernel
theorem dX6_when_53 : decode cX6_when 53 = .ok (.getfield 130, 3) := by decide +kernel
theorem dX6_when_56 : decode cX6_when 56 = .ok (.iload 5, 2) := by decide +kernel
theorem dX6_when_58 : decode cX6_when 58 = .ok (.iadd, 1) := by decide +kernel
theorem dX6_when_59 : decode cX6_when 59 = .ok (.invokevirtual 136, 3) := by decide +kernel
theorem dX6_when_62 : decode cX6_when 62 = .ok (.istore 6, 2) := by decide +kernel
theorem dX6_when_64 : decode cX6_when 64 = .ok (.iload 6, 2) := by decide +kernel
theorem dX6_when_66 : decode cX6_when 66 = .ok (.iload_n 1, 1) := by decide +kernel
theorem dX6_when_67 : decode cX6_when 67 = .ok (.invokestatic 199, 3) := by decide +kernel
theorem dX6_when_70 : decode cX6_when 70 = .ok (.ifCond .eq 23, 3) := by decide +kernel
theorem dX6_when_73 : decode cX6_when 73 = .ok (.iload 6, 2) := by decide +kernel
theorem dX6_when_75 : decode cX6_when 75 = .ok (.invokestatic 180, 3) := by decide +kernel
theorem dX6_when_78 : decode cX6_when 78 = .ok (.iload 4, 2) := by decide +kernel
theorem dX6_when_80 : decode cX6_when 80 = .ok (.if_icmp .le 13, 3) := by decide +kernel
theorem dX6_when_83 : decode cX6_when 83 = .ok (.iload 6, 2) := by decide +kernel
theorem dX6_when_85 : decode cX6_when 85 = .ok (.invokestatic 180, 3) := by decide +kernel
theorem dX6_when_88 : decode cX6_when 88 = .ok (.istore 4, 2) := by decide +kernel
theorem dX6_when_90 : decode cX6_when 90 = .ok (.iload 5, 2) := by decide +kernel
theorem dX6_when_92 : decode cX6_when 92 = .ok (.istore_n 3, 1) := by decide +kernel
theorem dX6_when_93 : decode cX6_when 93 = .ok (.iinc 5 1, 3) := by decide +kernel
theorem dX6_when_96 : decode cX6_when 96 = .ok (.goto (-57), 3) := by decide +kernel
theorem dX6_when_99 : decode cX6_when 99 = .ok (.iload_n 3, 1) := by decide +kernel
theorem dX6_when_100 : decode cX6_when 100 = .ok (.ireturn, 1) := by decide +kernel
set_option maxRecDepth 20000 in
theorem ggX6_enough_X2_stands : GoodIn wsX6_enough wsX2_stands := goodIn_r _ [9, 10, 75, 76, 77, 78, 79, 80, 81, 82, 83] (by decide +kernel) (by decide +kernel)
set_option maxRecDepth 20000 in
theorem gX6_enough_X2_stands : GoodIn wsX6_enough (wsV RX6 126 RX2 yX2_stands wsX2_stands) := goodIn_app (goodIn_of _ (by decide +kernel)) ggX6_enough_X2_stands
set_option maxRecDepth 20000 in
theorem ggX6_enough_X6_isWithin : GoodIn wsX6_enough wsX6_isWithin := goodIn_r _ [14] (by decide +kernel) (by decide +kernel)
set_option maxRecDepth 20000 in
theorem gX6_enough_X6_isWithin : GoodIn wsX6_enough (va_wsS RX6 62 yX6_isWithin wsX6_isWithin) := goodIn_app (goodIn_of _ (by decide +kernel)) ggX6_enough_X6_isWithin
set_option maxRecDepth 20000 in
theorem ggX6_enough_X2_workersOn : GoodIn wsX6_enough wsX2_workersOn := goodIn_r _ [18, 19, 20, 21, 22, 8, 23, 24, 25, 26, 27, 75, 76, 77, 78, 79, 80, 81, 82, 83] (by decide +kernel) (by decide +kernel)
set_option maxRecDepth 20000 in
theorem gX6_enough_X2_workersOn : GoodIn wsX6_enough (wsV RX6 174 RX2 yX2_workersOn wsX2_workersOn) := goodIn_app (goodIn_of _ (by decide +kernel)) ggX6_enough_X2_workersOn
set_option maxRecDepth 20000 in
theorem ggX6_enough_X2_leftBy : GoodIn wsX6_enough wsX2_leftBy := goodIn_r _ [31, 19, 32, 33, 34, 8, 35, 10, 36, 13, 37, 38, 39, 40, 41, 42, 24, 43, 44, 45, 46, 47, 75, 76, 77, 78, 79, 80, 81, 82, 83] (by decide +kernel) (by decide +kernel)
set_option maxRecDepth 20000 in
theorem gX6_enough_X2_leftBy : GoodIn wsX6_enough (wsV RX6 202 RX2 yX2_leftBy wsX2_leftBy) := goodIn_app (goodIn_of _ (by decide +kernel)) ggX6_enough_X2_leftBy
set_option maxRecDepth 20000 in
theorem ggX6_enough_X2_fewestThatLeave : GoodIn wsX6_enough wsX2_fewestThatLeave := goodIn_r _ [51, 52, 53, 54, 55, 56, 57, 58, 59, 60, 29, 30, 8, 31, 19, 32, 33, 34, 35, 10, 36, 13, 37, 38, 39, 40, 41, 42, 24, 43, 44, 45, 46, 47, 75, 76, 77, 78, 79, 80, 81, 82, 83] (by decide +kernel) (by decide +kernel)
set_option maxRecDepth 20000 in
theorem gX6_enough_X2_fewestThatLeave : GoodIn wsX6_enough (wsV RX6 205 RX2 yX2_fewestThatLeave wsX2_fewestThatLeave) := goodIn_app (goodIn_of _ (by decide +kernel)) ggX6_enough_X2_fewestThatLeave
set_option maxRecDepth 20000 in
theorem ggX6_enough_X6_tellSet : GoodIn wsX6_enough wsX6_tellSet := goodIn_r _ [63, 64, 65, 54, 55, 56, 57, 58, 59] (by decide +kernel) (by decide +kernel)
set_option maxRecDepth 20000 in
theorem gX6_enough_X6_tellSet : GoodIn wsX6_enough (va_wsS RX6 209 yX6_tellSet wsX6_tellSet) := goodIn_app (goodIn_of _ (by decide +kernel)) ggX6_enough_X6_tellSet
theorem dX6_enough_0 : decode cX6_enough 0 = .ok (.aload_n 0, 1) := by decide +kernel
theorem dX6_enough_1 : decode cX6_enough 1 = .ok (.getfield 47, 3) := by decide +kernel
theorem dX6_enough_4 : decode cX6_enough 4 = .ok (.invokevirtual 126, 3) := by decide +kernel
theorem dX6_enough_7 : decode cX6_enough 7 = .ok (.ifCond .ne 6, 3) := by decide +kernel
theorem dX6_enough_10 : decode cX6_enough 10 = .ok (.ldc 129, 2) := by decide +kernel
theorem dX6_enough_12 : decode cX6_enough 12 = .ok (.ireturn, 1) := by decide +kernel
theorem dX6_enough_13 : decode cX6_enough 13 = .ok (.iload_n 1, 1) := by decide +kernel
theorem dX6_enough_14 : decode cX6_enough 14 = .ok (.iconst 0, 1) := by decide +kernel
theorem dX6_enough_15 : decode cX6_enough 15 = .ok (.bipush 99, 2) := by decide +kernel
theorem dX6_enough_17 : decode cX6_enough 17 = .ok (.invokestatic 62, 3) := by decide +kernel
theorem dX6_enough_20 : decode cX6_enough 20 = .ok (.ifCond .eq 12, 3) := by decide +kernel
theorem dX6_enough_23 : decode cX6_enough 23 = .ok (.iload_n 2, 1) := by decide +kernel
theorem dX6_enough_24 : decode cX6_enough 24 = .ok (.iconst 0, 1) := by decide +kernel
theorem dX6_enough_25 : decode cX6_enough 25 = .ok (.iconst 1, 1) := by decide +kernel
theorem dX6_enough_26 : decode cX6_enough 26 = .ok (.invokestatic 62, 3) := by decide +kernel
theorem dX6_enough_29 : decode cX6_enough 29 = .ok (.ifCond .ne 6, 3) := by decide +kernel
theorem dX6_enough_32 : decode cX6_enough 32 = .ok (.ldc 66, 2) := by decide +kernel
theorem dX6_enough_34 : decode cX6_enough 34 = .ok (.ireturn, 1) := by decide +kernel
theorem dX6_enough_35 : decode cX6_enough 35 = .ok (.aload_n 0, 1) := by decide +kernel
theorem dX6_enough_36 : decode cX6_enough 36 = .ok (.getfield 47, 3) := by decide +kernel
theorem dX6_enough_39 : decode cX6_enough 39 = .ok (.aload_n 0, 1) := by decide +kernel
theorem dX6_enough_40 : decode cX6_enough 40 = .ok (.getfield 47, 3) := by decide +kernel
theorem dX6_enough_43 : decode cX6_enough 43 = .ok (.getfield 130, 3) := by decide +kernel
theorem dX6_enough_46 : decode cX6_enough 46 = .ok (.iload_n 1, 1) := by decide +kernel
theorem dX6_enough_47 : decode cX6_enough 47 = .ok (.iadd, 1) := by decide +kernel
theorem dX6_enough_48 : decode cX6_enough 48 = .ok (.invokevirtual 174, 3) := by decide +kernel
theorem dX6_enough_51 : decode cX6_enough 51 = .ok (.istore_n 3, 1) := by decide +kernel
theorem dX6_enough_52 : decode cX6_enough 52 = .ok (.aload_n 0, 1) := by decide +kernel
theorem dX6_enough_53 : decode cX6_enough 53 = .ok (.getfield 47, 3) := by decide +kernel
theorem dX6_enough_56 : decode cX6_enough 56 = .ok (.iload_n 3, 1) := by decide +kernel
theorem dX6_enough_57 : decode cX6_enough 57 = .ok (.aload_n 0, 1) := by decide +kernel
theorem dX6_enough_58 : decode cX6_enough 58 = .ok (.getfield 47, 3) := by decide +kernel
theorem dX6_enough_61 : decode cX6_enough 61 = .ok (.iload_n 3, 1) := by decide +kernel
theorem dX6_enough_62 : decode cX6_enough 62 = .ok (.invokevirtual 202, 3) := by decide +kernel
theorem dX6_enough_65 : decode cX6_enough 65 = .ok (.invokevirtual 205, 3) := by decide +kernel
theorem dX6_enough_68 : decode cX6_enough 68 = .ok (.iload_n 2, 1) := by decide +kernel
theorem dX6_enough_69 : decode cX6_enough 69 = .ok (.invokestatic 209, 3) := by decide +kernel
theorem dX6_enough_72 : decode cX6_enough 72 = .ok (.ireturn, 1) := by decide +kernel
set_option maxRecDepth 20000 in
theorem ggX6_clash_X2_stands : GoodIn wsX6_clash wsX2_stands := goodIn_r _ [9, 10, 74, 75, 76, 77, 78, 79, 80, 81, 82] (by decide +kernel) (by decide +kernel)
set_option maxRecDepth 20000 in
theorem gX6_clash_X2_stands : GoodIn wsX6_clash (wsV RX6 126 RX2 yX2_stands wsX2_stands) := goodIn_app (goodIn_of _ (by decide +kernel)) ggX6_clash_X2_stands
set_option maxRecDepth 20000 in
theorem ggX6_clash_X6_isWithin : GoodIn wsX6_clash wsX6_isWithin := goodIn_r _ [14] (by decide +kernel) (by decide +kernel)
set_option maxRecDepth 20000 in
theorem gX6_clash_X6_isWithin : GoodIn wsX6_clash (va_wsS RX6 62 yX6_isWithin wsX6_isWithin) := goodIn_app (goodIn_of _ (by decide +kernel)) ggX6_clash_X6_isWithin
set_option maxRecDepth 20000 in
theorem ggX6_clash_X2_workersOn : GoodIn wsX6_clash wsX2_workersOn := goodIn_r _ [18, 19, 20, 21, 22, 8, 23, 24, 25, 26, 27, 74, 75, 76, 77, 78, 79, 80, 81, 82] (by decide +kernel) (by decide +kernel)
set_option maxRecDepth 20000 in
theorem gX6_clash_X2_workersOn : GoodIn wsX6_clash (wsV RX6 174 RX2 yX2_workersOn wsX2_workersOn) := goodIn_app (goodIn_of _ (by decide +kernel)) ggX6_clash_X2_workersOn
set_option maxRecDepth 20000 in
theorem ggX6_clash_X2_fewestThatLeave : GoodIn wsX6_clash wsX2_fewestThatLeave := goodIn_r _ [31, 32, 33, 34, 35, 36, 37, 38, 39, 40, 41, 42, 8, 43, 19, 44, 45, 46, 47, 10, 48, 13, 49, 50, 51, 52, 53, 54, 24, 55, 56, 57, 58, 59, 74, 75, 76, 77, 78, 79, 80, 81, 82] (by decide +kernel) (by decide +kernel)
set_option maxRecDepth 20000 in
theorem gX6_clash_X2_fewestThatLeave : GoodIn wsX6_clash (wsV RX6 205 RX2 yX2_fewestThatLeave wsX2_fewestThatLeave) := goodIn_app (goodIn_of _ (by decide +kernel)) ggX6_clash_X2_fewestThatLeave
set_option maxRecDepth 20000 in
theorem ggX6_clash_X6_tellSet : GoodIn wsX6_clash wsX6_tellSet := goodIn_r _ [62, 63, 64, 34, 35, 36, 37, 38, 39] (by decide +kernel) (by decide +kernel)
set_option maxRecDepth 20000 in
theorem gX6_clash_X6_tellSet : GoodIn wsX6_clash (va_wsS RX6 209 yX6_tellSet wsX6_tellSet) := goodIn_app (goodIn_of _ (by decide +kernel)) ggX6_clash_X6_tellSet
theorem dX6_clash_0 : decode cX6_clash 0 = .ok (.aload_n 0, 1) := by decide +kernel
theorem dX6_clash_1 : decode cX6_clash 1 = .ok (.getfield 47, 3) := by decide +kernel
theorem dX6_clash_4 : decode cX6_clash 4 = .ok (.invokevirtual 126, 3) := by decide +kernel
theorem dX6_clash_7 : decode cX6_clash 7 = .ok (.ifCond .ne 6, 3) := by decide +kernel
theorem dX6_clash_10 : decode cX6_clash 10 = .ok (.ldc 129, 2) := by decide +kernel
theorem dX6_clash_12 : decode cX6_clash 12 = .ok (.ireturn, 1) := by decide +kernel
theorem dX6_clash_13 : decode cX6_clash 13 = .ok (.iload_n 1, 1) := by decide +kernel
theorem dX6_clash_14 : decode cX6_clash 14 = .ok (.iconst 0, 1) := by decide +kernel
theorem dX6_clash_15 : decode cX6_clash 15 = .ok (.bipush 99, 2) := by decide +kernel
theorem dX6_clash_17 : decode cX6_clash 17 = .ok (.invokestatic 62, 3) := by decide +kernel
theorem dX6_clash_20 : decode cX6_clash 20 = .ok (.ifCond .eq 12, 3) := by decide +kernel
theorem dX6_clash_23 : decode cX6_clash 23 = .ok (.iload_n 2, 1) := by decide +kernel
theorem dX6_clash_24 : decode cX6_clash 24 = .ok (.iconst 0, 1) := by decide +kernel
theorem dX6_clash_25 : decode cX6_clash 25 = .ok (.iconst 1, 1) := by decide +kernel
theorem dX6_clash_26 : decode cX6_clash 26 = .ok (.invokestatic 62, 3) := by decide +kernel
theorem dX6_clash_29 : decode cX6_clash 29 = .ok (.ifCond .ne 6, 3) := by decide +kernel
theorem dX6_clash_32 : decode cX6_clash 32 = .ok (.ldc 66, 2) := by decide +kernel
theorem dX6_clash_34 : decode cX6_clash 34 = .ok (.ireturn, 1) := by decide +kernel
theorem dX6_clash_35 : decode cX6_clash 35 = .ok (.aload_n 0, 1) := by decide +kernel
theorem dX6_clash_36 : decode cX6_clash 36 = .ok (.getfield 47, 3) := by decide +kernel
theorem dX6_clash_39 : decode cX6_clash 39 = .ok (.aload_n 0, 1) := by decide +kernel
theorem dX6_clash_40 : decode cX6_clash 40 = .ok (.getfield 47, 3) := by decide +kernel
theorem dX6_clash_43 : decode cX6_clash 43 = .ok (.aload_n 0, 1) := by decide +kernel
theorem dX6_clash_44 : decode cX6_clash 44 = .ok (.getfield 47, 3) := by decide +kernel
theorem dX6_clash_47 : decode cX6_clash 47 = .ok (.getfield 130, 3) := by decide +kernel
theorem dX6_clash_50 : decode cX6_clash 50 = .ok (.iload_n 1, 1) := by decide +kernel
theorem dX6_clash_51 : decode cX6_clash 51 = .ok (.iadd, 1) := by decide +kernel
theorem dX6_clash_52 : decode cX6_clash 52 = .ok (.invokevirtual 174, 3) := by decide +kernel
theorem dX6_clash_55 : decode cX6_clash 55 = .ok (.iconst 0, 1) := by decide +kernel
theorem dX6_clash_56 : decode cX6_clash 56 = .ok (.invokevirtual 205, 3) := by decide +kernel
theorem dX6_clash_59 : decode cX6_clash 59 = .ok (.iload_n 2, 1) := by decide +kernel
theorem dX6_clash_60 : decode cX6_clash 60 = .ok (.invokestatic 209, 3) := by decide +kernel
theorem dX6_clash_63 : decode cX6_clash 63 = .ok (.ireturn, 1) := by decide +kernel
set_option maxRecDepth 20000 in
theorem ggX6_bribes_X2_stands : GoodIn wsX6_bribes wsX2_stands := goodIn_r _ [12, 13, 108, 109, 110, 111, 112, 113, 114, 115, 116] (by decide +kernel) (by decide +kernel)
set_option maxRecDepth 20000 in
theorem gX6_bribes_X2_stands : GoodIn wsX6_bribes (wsV RX6 126 RX2 yX2_stands wsX2_stands) := goodIn_app (goodIn_of _ (by decide +kernel)) ggX6_bribes_X2_stands
set_option maxRecDepth 20000 in
theorem ggX6_bribes_X4_isRow : GoodIn wsX6_bribes wsX4_isRow := goodIn_r _ [18] (by decide +kernel) (by decide +kernel)
set_option maxRecDepth 20000 in
theorem gX6_bribes_X4_isRow : GoodIn wsX6_bribes (wsV RX6 58 RX4 yX4_isRow wsX4_isRow) := goodIn_app (goodIn_of _ (by decide +kernel)) ggX6_bribes_X4_isRow
set_option maxRecDepth 20000 in
theorem ggX6_bribes_X6_isWithin : GoodIn wsX6_bribes wsX6_isWithin := goodIn_r _ [22] (by decide +kernel) (by decide +kernel)
set_option maxRecDepth 20000 in
theorem gX6_bribes_X6_isWithin : GoodIn wsX6_bribes (va_wsS RX6 62 yX6_isWithin wsX6_isWithin) := goodIn_app (goodIn_of _ (by decide +kernel)) ggX6_bribes_X6_isWithin
set_option maxRecDepth 20000 in
theorem ggX6_bribes_X4_isMissing : GoodIn wsX6_bribes wsX4_isMissing := goodIn_r _ [26, 27, 117, 118, 119] (by decide +kernel) (by decide +kernel)
set_option maxRecDepth 20000 in
theorem gX6_bribes_X4_isMissing : GoodIn wsX6_bribes (wsV RX6 78 RX4 yX4_isMissing wsX4_isMissing) := goodIn_app (goodIn_of _ (by decide +kernel)) ggX6_bribes_X4_isMissing
set_option maxRecDepth 20000 in
theorem ggX6_bribes_X6_found : GoodIn wsX6_bribes wsX6_found := goodIn_r _ [31, 32, 33, 99, 100, 101, 102, 103, 104, 105, 106, 107] (by decide +kernel) (by decide +kernel)
set_option maxRecDepth 20000 in
theorem gX6_bribes_X6_found : GoodIn wsX6_bribes (wsV RX6 67 RX6 yX6_found wsX6_found) := goodIn_app (goodIn_of _ (by decide +kernel)) ggX6_bribes_X6_found
set_option maxRecDepth 20000 in
theorem ggX6_bribes_X4_hasPlaces : GoodIn wsX6_bribes wsX4_hasPlaces := goodIn_r _ [37, 38, 117, 118, 119] (by decide +kernel) (by decide +kernel)
set_option maxRecDepth 20000 in
theorem gX6_bribes_X4_hasPlaces : GoodIn wsX6_bribes (wsV RX6 81 RX4 yX4_hasPlaces wsX4_hasPlaces) := goodIn_app (goodIn_of _ (by decide +kernel)) ggX6_bribes_X4_hasPlaces
set_option maxRecDepth 20000 in
theorem ggX6_bribes_X6_isAsTold : GoodIn wsX6_bribes wsX6_isAsTold := goodIn_r _ [42, 43, 3, 44, 45, 46, 11, 47, 48, 49, 50, 51, 52, 53, 54, 55, 56, 57, 58, 59, 60, 61, 62, 63, 64, 65, 66, 67, 68, 13, 69, 21, 70, 71, 72, 73, 74, 75, 76, 77, 78, 79, 80, 81, 82, 83, 17, 84, 85, 108, 109, 110, 111, 112, 113, 114, 115, 116, 99, 100, 101, 102, 103, 104, 105, 106, 107, 117, 118, 119] (by decide +kernel) (by decide +kernel)
set_option maxRecDepth 20000 in
theorem gX6_bribes_X6_isAsTold : GoodIn wsX6_bribes (wsV RX6 212 RX6 yX6_isAsTold wsX6_isAsTold) := goodIn_app (goodIn_of _ (by decide +kernel)) ggX6_bribes_X6_isAsTold
set_option maxRecDepth 20000 in
theorem ggX6_bribes_X2_become : GoodIn wsX6_bribes wsX2_become := goodIn_r _ [89, 13, 58, 90, 52, 80, 57, 91, 92, 93, 94, 75, 59, 60, 108, 109, 110, 111, 112, 113, 114, 115, 116] (by decide +kernel) (by decide +kernel)
set_option maxRecDepth 20000 in
theorem gX6_bribes_X2_become : GoodIn wsX6_bribes (wsV RX6 111 RX2 yX2_become wsX2_become) := goodIn_app (goodIn_of _ (by decide +kernel)) ggX6_bribes_X2_become
set_option maxRecDepth 20000 in
theorem ggX6_bribes_X6_sound : GoodIn wsX6_bribes wsX6_sound := goodIn_r _ [98, 32, 99, 100, 101, 102, 103, 104, 105, 106, 107] (by decide +kernel) (by decide +kernel)
set_option maxRecDepth 20000 in
theorem gX6_bribes_X6_sound : GoodIn wsX6_bribes (wsV RX6 75 RX6 yX6_sound wsX6_sound) := goodIn_app (goodIn_of _ (by decide +kernel)) ggX6_bribes_X6_sound
theorem dX6_bribes_0 : decode cX6_bribes 0 = .ok (.aload_n 0, 1) := by decide +kernel
theorem dX6_bribes_1 : decode cX6_bribes 1 = .ok (.getfield 47, 3) := by decide +kernel
theorem dX6_bribes_4 : decode cX6_bribes 4 = .ok (.invokevirtual 126, 3) := by decide +kernel
theorem dX6_bribes_7 : decode cX6_bribes 7 = .ok (.ifCond .ne 6, 3) := by decide +kernel
theorem dX6_bribes_10 : decode cX6_bribes 10 = .ok (.ldc 129, 2) := by decide +kernel
theorem dX6_bribes_12 : decode cX6_bribes 12 = .ok (.ireturn, 1) := by decide +kernel
theorem dX6_bribes_13 : decode cX6_bribes 13 = .ok (.aload_n 0, 1) := by decide +kernel
theorem dX6_bribes_14 : decode cX6_bribes 14 = .ok (.getfield 10, 3) := by decide +kernel
theorem dX6_bribes_17 : decode cX6_bribes 17 = .ok (.iload_n 1, 1) := by decide +kernel
theorem dX6_bribes_18 : decode cX6_bribes 18 = .ok (.invokevirtual 58, 3) := by decide +kernel
theorem dX6_bribes_21 : decode cX6_bribes 21 = .ok (.ifCond .eq 13, 3) := by decide +kernel
theorem dX6_bribes_24 : decode cX6_bribes 24 = .ok (.iload_n 3, 1) := by decide +kernel
theorem dX6_bribes_25 : decode cX6_bribes 25 = .ok (.iconst 1, 1) := by decide +kernel
theorem dX6_bribes_26 : decode cX6_bribes 26 = .ok (.bipush 16, 2) := by decide +kernel
theorem dX6_bribes_28 : decode cX6_bribes 28 = .ok (.invokestatic 62, 3) := by decide +kernel
theorem dX6_bribes_31 : decode cX6_bribes 31 = .ok (.ifCond .ne 6, 3) := by decide +kernel
theorem dX6_bribes_34 : decode cX6_bribes 34 = .ok (.ldc 66, 2) := by decide +kernel
theorem dX6_bribes_36 : decode cX6_bribes 36 = .ok (.ireturn, 1) := by decide +kernel
theorem dX6_bribes_37 : decode cX6_bribes 37 = .ok (.aload_n 0, 1) := by decide +kernel
theorem dX6_bribes_38 : decode cX6_bribes 38 = .ok (.getfield 10, 3) := by decide +kernel
theorem dX6_bribes_41 : decode cX6_bribes 41 = .ok (.iload_n 1, 1) := by decide +kernel
theorem dX6_bribes_42 : decode cX6_bribes 42 = .ok (.invokevirtual 78, 3) := by decide +kernel
theorem dX6_bribes_45 : decode cX6_bribes 45 = .ok (.ifCond .eq 9, 3) := by decide +kernel
theorem dX6_bribes_48 : decode cX6_bribes 48 = .ok (.aload_n 0, 1) := by decide +kernel
theorem dX6_bribes_49 : decode cX6_bribes 49 = .ok (.iconst 1, 1) := by decide +kernel
theorem dX6_bribes_50 : decode cX6_bribes 50 = .ok (.invokevirtual 67, 3) := by decide +kernel
theorem dX6_bribes_53 : decode cX6_bribes 53 = .ok (.ireturn, 1) := by decide +kernel
theorem dX6_bribes_54 : decode cX6_bribes 54 = .ok (.aload_n 0, 1) := by decide +kernel
theorem dX6_bribes_55 : decode cX6_bribes 55 = .ok (.getfield 10, 3) := by decide +kernel
theorem dX6_bribes_58 : decode cX6_bribes 58 = .ok (.iload_n 1, 1) := by decide +kernel
theorem dX6_bribes_59 : decode cX6_bribes 59 = .ok (.iload_n 2, 1) := by decide +kernel
theorem dX6_bribes_60 : decode cX6_bribes 60 = .ok (.iload_n 3, 1) := by decide +kernel
theorem dX6_bribes_61 : decode cX6_bribes 61 = .ok (.invokevirtual 81, 3) := by decide +kernel
theorem dX6_bribes_64 : decode cX6_bribes 64 = .ok (.ifCond .ne 9, 3) := by decide +kernel
theorem dX6_bribes_67 : decode cX6_bribes 67 = .ok (.aload_n 0, 1) := by decide +kernel
theorem dX6_bribes_68 : decode cX6_bribes 68 = .ok (.iconst 2, 1) := by decide +kernel
theorem dX6_bribes_69 : decode cX6_bribes 69 = .ok (.invokevirtual 67, 3) := by decide +kernel
theorem dX6_bribes_72 : decode cX6_bribes 72 = .ok (.ireturn, 1) := by decide +kernel
theorem dX6_bribes_73 : decode cX6_bribes 73 = .ok (.aload_n 0, 1) := by decide +kernel
theorem dX6_bribes_74 : decode cX6_bribes 74 = .ok (.aload_n 0, 1) := by decide +kernel
theorem dX6_bribes_75 : decode cX6_bribes 75 = .ok (.getfield 47, 3) := by decide +kernel
theorem dX6_bribes_78 : decode cX6_bribes 78 = .ok (.iload_n 1, 1) := by decide +kernel
theorem dX6_bribes_79 : decode cX6_bribes 79 = .ok (.iload_n 2, 1) := by decide +kernel
theorem dX6_bribes_80 : decode cX6_bribes 80 = .ok (.iload_n 3, 1) := by decide +kernel
theorem dX6_bribes_81 : decode cX6_bribes 81 = .ok (.invokevirtual 212, 3) := by decide +kernel
theorem dX6_bribes_84 : decode cX6_bribes 84 = .ok (.ifCond .eq 8, 3) := by decide +kernel
theorem dX6_bribes_87 : decode cX6_bribes 87 = .ok (.bipush 64, 2) := by decide +kernel
theorem dX6_bribes_89 : decode cX6_bribes 89 = .ok (.goto 4, 3) := by decide +kernel
theorem dX6_bribes_92 : decode cX6_bribes 92 = .ok (.iconst 0, 1) := by decide +kernel
theorem dX6_bribes_93 : decode cX6_bribes 93 = .ok (.istore 4, 2) := by decide +kernel
theorem dX6_bribes_95 : decode cX6_bribes 95 = .ok (.iconst 0, 1) := by decide +kernel
theorem dX6_bribes_96 : decode cX6_bribes 96 = .ok (.istore 5, 2) := by decide +kernel
theorem dX6_bribes_98 : decode cX6_bribes 98 = .ok (.iload 5, 2) := by decide +kernel
theorem dX6_bribes_100 : decode cX6_bribes 100 = .ok (.aload_n 0, 1) := by decide +kernel
theorem dX6_bribes_101 : decode cX6_bribes 101 = .ok (.getfield 47, 3) := by decide +kernel
theorem dX6_bribes_104 : decode cX6_bribes 104 = .ok (.getfield 118, 3) := by decide +kernel
theorem dX6_bribes_107 : decode cX6_bribes 107 = .ok (.if_icmp .ge 59, 3) := by decide +kernel
theorem dX6_bribes_110 : decode cX6_bribes 110 = .ok (.aload_n 0, 1) := by decide +kernel
theorem dX6_bribes_111 : decode cX6_bribes 111 = .ok (.getfield 51, 3) := by decide +kernel
theorem dX6_bribes_114 : decode cX6_bribes 114 = .ok (.aload_n 0, 1) := by decide +kernel
theorem dX6_bribes_115 : decode cX6_bribes 115 = .ok (.getfield 47, 3) := by decide +kernel
theorem dX6_bribes_118 : decode cX6_bribes 118 = .ok (.invokevirtual 111, 3) := by decide +kernel
theorem dX6_bribes_121 : decode cX6_bribes 121 = .ok (.aload_n 0, 1) := by decide +kernel
theorem dX6_bribes_122 : decode cX6_bribes 122 = .ok (.getfield 51, 3) := by decide +kernel
theorem dX6_bribes_125 : decode cX6_bribes 125 = .ok (.dup, 1) := by decide +kernel
theorem dX6_bribes_126 : decode cX6_bribes 126 = .ok (.getfield 145, 3) := by decide +kernel
theorem dX6_bribes_129 : decode cX6_bribes 129 = .ok (.iconst 1, 1) := by decide +kernel
theorem dX6_bribes_130 : decode cX6_bribes 130 = .ok (.iload 5, 2) := by decide +kernel
theorem dX6_bribes_132 : decode cX6_bribes 132 = .ok (.ishl, 1) := by decide +kernel
theorem dX6_bribes_133 : decode cX6_bribes 133 = .ok (.ixor, 1) := by decide +kernel
theorem dX6_bribes_134 : decode cX6_bribes 134 = .ok (.putfield 145, 3) := by decide +kernel
theorem dX6_bribes_137 : decode cX6_bribes 137 = .ok (.aload_n 0, 1) := by decide +kernel
theorem dX6_bribes_138 : decode cX6_bribes 138 = .ok (.aload_n 0, 1) := by decide +kernel
theorem dX6_bribes_139 : decode cX6_bribes 139 = .ok (.getfield 51, 3) := by decide +kernel
theorem dX6_bribes_142 : decode cX6_bribes 142 = .ok (.iload_n 1, 1) := by decide +kernel
theorem dX6_bribes_143 : decode cX6_bribes 143 = .ok (.iload_n 2, 1) := by decide +kernel
theorem dX6_bribes_144 : decode cX6_bribes 144 = .ok (.iload_n 3, 1) := by decide +kernel
theorem dX6_bribes_145 : decode cX6_bribes 145 = .ok (.invokevirtual 212, 3) := by decide +kernel
theorem dX6_bribes_148 : decode cX6_bribes 148 = .ok (.ifCond .eq 12, 3) := by decide +kernel
theorem dX6_bribes_151 : decode cX6_bribes 151 = .ok (.iload 4, 2) := by decide +kernel
theorem dX6_bribes_153 : decode cX6_bribes 153 = .ok (.iconst 1, 1) := by decide +kernel
theorem dX6_bribes_154 : decode cX6_bribes 154 = .ok (.iload 5, 2) := by decide +kernel
theorem dX6_bribes_156 : decode cX6_bribes 156 = .ok (.ishl, 1) := by decide +kernel
theorem dX6_bribes_157 : decode cX6_bribes 157 = .ok (.ior, 1) := by decide +kernel
theorem dX6_bribes_158 : decode cX6_bribes 158 = .ok (.istore 4, 2) := by decide +kernel
theorem dX6_bribes_160 : decode cX6_bribes 160 = .ok (.iinc 5 1, 3) := by decide +kernel
theorem dX6_bribes_163 : decode cX6_bribes 163 = .ok (.goto (-65), 3) := by decide +kernel
theorem dX6_bribes_166 : decode cX6_bribes 166 = .ok (.aload_n 0, 1) := by decide +kernel
theorem dX6_bribes_167 : decode cX6_bribes 167 = .ok (.iload 4, 2) := by decide +kernel
theorem dX6_bribes_169 : decode cX6_bribes 169 = .ok (.invokevirtual 75, 3) := by decide +kernel
theorem dX6_bribes_172 : decode cX6_bribes 172 = .ok (.ireturn, 1) := by decide +kernel
set_option maxRecDepth 20000 in
theorem ggX6_fits_X2_has : GoodIn wsX6_fits wsX2_has := goodIn_r _ [12, 13, 108, 109, 110, 111, 112, 113, 114, 115, 116] (by decide +kernel) (by decide +kernel)
set_option maxRecDepth 20000 in
theorem gX6_fits_X2_has : GoodIn wsX6_fits (wsV RX6 139 RX2 yX2_has wsX2_has) := goodIn_app (goodIn_of _ (by decide +kernel)) ggX6_fits_X2_has
set_option maxRecDepth 20000 in
theorem ggX6_fits_X4_isRow : GoodIn wsX6_fits wsX4_isRow := goodIn_r _ [18] (by decide +kernel) (by decide +kernel)
set_option maxRecDepth 20000 in
theorem gX6_fits_X4_isRow : GoodIn wsX6_fits (wsV RX6 58 RX4 yX4_isRow wsX4_isRow) := goodIn_app (goodIn_of _ (by decide +kernel)) ggX6_fits_X4_isRow
set_option maxRecDepth 20000 in
theorem ggX6_fits_X6_isWithin : GoodIn wsX6_fits wsX6_isWithin := goodIn_r _ [22] (by decide +kernel) (by decide +kernel)
set_option maxRecDepth 20000 in
theorem gX6_fits_X6_isWithin : GoodIn wsX6_fits (va_wsS RX6 62 yX6_isWithin wsX6_isWithin) := goodIn_app (goodIn_of _ (by decide +kernel)) ggX6_fits_X6_isWithin
set_option maxRecDepth 20000 in
theorem ggX6_fits_X4_isMissing : GoodIn wsX6_fits wsX4_isMissing := goodIn_r _ [26, 27, 117, 118, 119] (by decide +kernel) (by decide +kernel)
set_option maxRecDepth 20000 in
theorem gX6_fits_X4_isMissing : GoodIn wsX6_fits (wsV RX6 78 RX4 yX4_isMissing wsX4_isMissing) := goodIn_app (goodIn_of _ (by decide +kernel)) ggX6_fits_X4_isMissing
set_option maxRecDepth 20000 in
theorem ggX6_fits_X6_found : GoodIn wsX6_fits wsX6_found := goodIn_r _ [31, 32, 33, 99, 100, 101, 102, 103, 104, 105, 106, 107] (by decide +kernel) (by decide +kernel)
set_option maxRecDepth 20000 in
theorem gX6_fits_X6_found : GoodIn wsX6_fits (wsV RX6 67 RX6 yX6_found wsX6_found) := goodIn_app (goodIn_of _ (by decide +kernel)) ggX6_fits_X6_found
set_option maxRecDepth 20000 in
theorem ggX6_fits_X4_hasPlaces : GoodIn wsX6_fits wsX4_hasPlaces := goodIn_r _ [37, 38, 117, 118, 119] (by decide +kernel) (by decide +kernel)
set_option maxRecDepth 20000 in
theorem gX6_fits_X4_hasPlaces : GoodIn wsX6_fits (wsV RX6 81 RX4 yX4_hasPlaces wsX4_hasPlaces) := goodIn_app (goodIn_of _ (by decide +kernel)) ggX6_fits_X4_hasPlaces
set_option maxRecDepth 20000 in
theorem ggX6_fits_X2_become : GoodIn wsX6_fits wsX2_become := goodIn_r _ [42, 43, 44, 45, 13, 46, 47, 48, 49, 50, 51, 52, 53, 54, 108, 109, 110, 111, 112, 113, 114, 115, 116] (by decide +kernel) (by decide +kernel)
set_option maxRecDepth 20000 in
theorem gX6_fits_X2_become : GoodIn wsX6_fits (wsV RX6 111 RX2 yX2_become wsX2_become) := goodIn_app (goodIn_of _ (by decide +kernel)) ggX6_fits_X2_become
set_option maxRecDepth 20000 in
theorem ggX6_fits_X6_isAsTold : GoodIn wsX6_fits wsX6_isAsTold := goodIn_r _ [58, 59, 2, 60, 61, 62, 11, 63, 64, 65, 66, 67, 13, 68, 69, 70, 71, 47, 44, 53, 54, 72, 73, 74, 75, 76, 77, 78, 79, 43, 80, 21, 81, 82, 83, 84, 85, 52, 86, 87, 88, 89, 46, 90, 91, 92, 17, 93, 94, 108, 109, 110, 111, 112, 113, 114, 115, 116, 99, 100, 101, 102, 103, 104, 105, 106, 107, 117, 118, 119] (by decide +kernel) (by decide +kernel)
set_option maxRecDepth 20000 in
theorem gX6_fits_X6_isAsTold : GoodIn wsX6_fits (wsV RX6 212 RX6 yX6_isAsTold wsX6_isAsTold) := goodIn_app (goodIn_of _ (by decide +kernel)) ggX6_fits_X6_isAsTold
set_option maxRecDepth 20000 in
theorem ggX6_fits_X6_sound : GoodIn wsX6_fits wsX6_sound := goodIn_r _ [98, 32, 99, 100, 101, 102, 103, 104, 105, 106, 107] (by decide +kernel) (by decide +kernel)
set_option maxRecDepth 20000 in
theorem gX6_fits_X6_sound : GoodIn wsX6_fits (wsV RX6 75 RX6 yX6_sound wsX6_sound) := goodIn_app (goodIn_of _ (by decide +kernel)) ggX6_fits_X6_sound
theorem dX6_fits_0 : decode cX6_fits 0 = .ok (.aload_n 0, 1) := by decide +kernel
theorem dX6_fits_1 : decode cX6_fits 1 = .ok (.getfield 47, 3) := by decide +kernel
theorem dX6_fits_4 : decode cX6_fits 4 = .ok (.iload_n 1, 1) := by decide +kernel
theorem dX6_fits_5 : decode cX6_fits 5 = .ok (.invokevirtual 139, 3) := by decide +kernel
theorem dX6_fits_8 : decode cX6_fits 8 = .ok (.ifCond .eq 35, 3) := by decide +kernel
theorem dX6_fits_11 : decode cX6_fits 11 = .ok (.aload_n 0, 1) := by decide +kernel
theorem dX6_fits_12 : decode cX6_fits 12 = .ok (.getfield 10, 3) := by decide +kernel
theorem dX6_fits_15 : decode cX6_fits 15 = .ok (.iload_n 2, 1) := by decide +kernel
theorem dX6_fits_16 : decode cX6_fits 16 = .ok (.invokevirtual 58, 3) := by decide +kernel
theorem dX6_fits_19 : decode cX6_fits 19 = .ok (.ifCond .eq 24, 3) := by decide +kernel
theorem dX6_fits_22 : decode cX6_fits 22 = .ok (.iload 4, 2) := by decide +kernel
theorem dX6_fits_24 : decode cX6_fits 24 = .ok (.iconst 1, 1) := by decide +kernel
theorem dX6_fits_25 : decode cX6_fits 25 = .ok (.bipush 16, 2) := by decide +kernel
theorem dX6_fits_27 : decode cX6_fits 27 = .ok (.invokestatic 62, 3) := by decide +kernel
theorem dX6_fits_30 : decode cX6_fits 30 = .ok (.ifCond .eq 13, 3) := by decide +kernel
theorem dX6_fits_33 : decode cX6_fits 33 = .ok (.iload 5, 2) := by decide +kernel
theorem dX6_fits_35 : decode cX6_fits 35 = .ok (.iconst 0, 1) := by decide +kernel
theorem dX6_fits_36 : decode cX6_fits 36 = .ok (.iconst 1, 1) := by decide +kernel
theorem dX6_fits_37 : decode cX6_fits 37 = .ok (.invokestatic 62, 3) := by decide +kernel
theorem dX6_fits_40 : decode cX6_fits 40 = .ok (.ifCond .ne 6, 3) := by decide +kernel
theorem dX6_fits_43 : decode cX6_fits 43 = .ok (.ldc 66, 2) := by decide +kernel
theorem dX6_fits_45 : decode cX6_fits 45 = .ok (.ireturn, 1) := by decide +kernel
theorem dX6_fits_46 : decode cX6_fits 46 = .ok (.aload_n 0, 1) := by decide +kernel
theorem dX6_fits_47 : decode cX6_fits 47 = .ok (.getfield 10, 3) := by decide +kernel
theorem dX6_fits_50 : decode cX6_fits 50 = .ok (.iload_n 2, 1) := by decide +kernel
theorem dX6_fits_51 : decode cX6_fits 51 = .ok (.invokevirtual 78, 3) := by decide +kernel
theorem dX6_fits_54 : decode cX6_fits 54 = .ok (.ifCond .eq 9, 3) := by decide +kernel
theorem dX6_fits_57 : decode cX6_fits 57 = .ok (.aload_n 0, 1) := by decide +kernel
theorem dX6_fits_58 : decode cX6_fits 58 = .ok (.iconst 1, 1) := by decide +kernel
theorem dX6_fits_59 : decode cX6_fits 59 = .ok (.invokevirtual 67, 3) := by decide +kernel
theorem dX6_fits_62 : decode cX6_fits 62 = .ok (.ireturn, 1) := by decide +kernel
theorem dX6_fits_63 : decode cX6_fits 63 = .ok (.aload_n 0, 1) := by decide +kernel
theorem dX6_fits_64 : decode cX6_fits 64 = .ok (.getfield 10, 3) := by decide +kernel
theorem dX6_fits_67 : decode cX6_fits 67 = .ok (.iload_n 2, 1) := by decide +kernel
theorem dX6_fits_68 : decode cX6_fits 68 = .ok (.iload_n 3, 1) := by decide +kernel
theorem dX6_fits_69 : decode cX6_fits 69 = .ok (.iload 4, 2) := by decide +kernel
theorem dX6_fits_71 : decode cX6_fits 71 = .ok (.invokevirtual 81, 3) := by decide +kernel
theorem dX6_fits_74 : decode cX6_fits 74 = .ok (.ifCond .ne 9, 3) := by decide +kernel
theorem dX6_fits_77 : decode cX6_fits 77 = .ok (.aload_n 0, 1) := by decide +kernel
theorem dX6_fits_78 : decode cX6_fits 78 = .ok (.iconst 2, 1) := by decide +kernel
theorem dX6_fits_79 : decode cX6_fits 79 = .ok (.invokevirtual 67, 3) := by decide +kernel
theorem dX6_fits_82 : decode cX6_fits 82 = .ok (.ireturn, 1) := by decide +kernel
theorem dX6_fits_83 : decode cX6_fits 83 = .ok (.aload_n 0, 1) := by decide +kernel
theorem dX6_fits_84 : decode cX6_fits 84 = .ok (.getfield 51, 3) := by decide +kernel
theorem dX6_fits_87 : decode cX6_fits 87 = .ok (.aload_n 0, 1) := by decide +kernel
theorem dX6_fits_88 : decode cX6_fits 88 = .ok (.getfield 47, 3) := by decide +kernel
theorem dX6_fits_91 : decode cX6_fits 91 = .ok (.invokevirtual 111, 3) := by decide +kernel
theorem dX6_fits_94 : decode cX6_fits 94 = .ok (.iconst 0, 1) := by decide +kernel
theorem dX6_fits_95 : decode cX6_fits 95 = .ok (.istore 6, 2) := by decide +kernel
theorem dX6_fits_97 : decode cX6_fits 97 = .ok (.iload 5, 2) := by decide +kernel
theorem dX6_fits_99 : decode cX6_fits 99 = .ok (.ifCond .ne 7, 3) := by decide +kernel
theorem dX6_fits_102 : decode cX6_fits 102 = .ok (.iconst 1, 1) := by decide +kernel
theorem dX6_fits_103 : decode cX6_fits 103 = .ok (.goto 4, 3) := by decide +kernel
theorem dX6_fits_106 : decode cX6_fits 106 = .ok (.iconst 0, 1) := by decide +kernel
theorem dX6_fits_107 : decode cX6_fits 107 = .ok (.istore 7, 2) := by decide +kernel
theorem dX6_fits_109 : decode cX6_fits 109 = .ok (.iload 5, 2) := by decide +kernel
theorem dX6_fits_111 : decode cX6_fits 111 = .ok (.ifCond .ne 7, 3) := by decide +kernel
theorem dX6_fits_114 : decode cX6_fits 114 = .ok (.iconst 5, 1) := by decide +kernel
theorem dX6_fits_115 : decode cX6_fits 115 = .ok (.goto 14, 3) := by decide +kernel
theorem dX6_fits_118 : decode cX6_fits 118 = .ok (.aload_n 0, 1) := by decide +kernel
theorem dX6_fits_119 : decode cX6_fits 119 = .ok (.getfield 47, 3) := by decide +kernel
theorem dX6_fits_122 : decode cX6_fits 122 = .ok (.getfield 155, 3) := by decide +kernel
theorem dX6_fits_125 : decode cX6_fits 125 = .ok (.iload_n 1, 1) := by decide +kernel
theorem dX6_fits_126 : decode cX6_fits 126 = .ok (.iaload, 1) := by decide +kernel
theorem dX6_fits_127 : decode cX6_fits 127 = .ok (.iconst 1, 1) := by decide +kernel
theorem dX6_fits_128 : decode cX6_fits 128 = .ok (.isub, 1) := by decide +kernel
theorem dX6_fits_129 : decode cX6_fits 129 = .ok (.istore 8, 2) := by decide +kernel
theorem dX6_fits_131 : decode cX6_fits 131 = .ok (.iload 7, 2) := by decide +kernel
theorem dX6_fits_133 : decode cX6_fits 133 = .ok (.istore 9, 2) := by decide +kernel
theorem dX6_fits_135 : decode cX6_fits 135 = .ok (.iload 9, 2) := by decide +kernel
theorem dX6_fits_137 : decode cX6_fits 137 = .ok (.iload 8, 2) := by decide +kernel
theorem dX6_fits_139 : decode cX6_fits 139 = .ok (.if_icmp .gt 63, 3) := by decide +kernel
theorem dX6_fits_142 : decode cX6_fits 142 = .ok (.iload 5, 2) := by decide +kernel
theorem dX6_fits_144 : decode cX6_fits 144 = .ok (.ifCond .ne 17, 3) := by decide +kernel
theorem dX6_fits_147 : decode cX6_fits 147 = .ok (.aload_n 0, 1) := by decide +kernel
theorem dX6_fits_148 : decode cX6_fits 148 = .ok (.getfield 51, 3) := by decide +kernel
theorem dX6_fits_151 : decode cX6_fits 151 = .ok (.getfield 216, 3) := by decide +kernel
theorem dX6_fits_154 : decode cX6_fits 154 = .ok (.iload_n 1, 1) := by decide +kernel
theorem dX6_fits_155 : decode cX6_fits 155 = .ok (.iload 9, 2) := by decide +kernel
theorem dX6_fits_157 : decode cX6_fits 157 = .ok (.iastore, 1) := by decide +kernel
theorem dX6_fits_158 : decode cX6_fits 158 = .ok (.goto 14, 3) := by decide +kernel
theorem dX6_fits_161 : decode cX6_fits 161 = .ok (.aload_n 0, 1) := by decide +kernel
theorem dX6_fits_162 : decode cX6_fits 162 = .ok (.getfield 51, 3) := by decide +kernel
theorem dX6_fits_165 : decode cX6_fits 165 = .ok (.getfield 158, 3) := by decide +kernel
theorem dX6_fits_168 : decode cX6_fits 168 = .ok (.iload_n 1, 1) := by decide +kernel
theorem dX6_fits_169 : decode cX6_fits 169 = .ok (.iload 9, 2) := by decide +kernel
theorem dX6_fits_171 : decode cX6_fits 171 = .ok (.iastore, 1) := by decide +kernel
theorem dX6_fits_172 : decode cX6_fits 172 = .ok (.aload_n 0, 1) := by decide +kernel
theorem dX6_fits_173 : decode cX6_fits 173 = .ok (.aload_n 0, 1) := by decide +kernel
theorem dX6_fits_174 : decode cX6_fits 174 = .ok (.getfield 51, 3) := by decide +kernel
theorem dX6_fits_177 : decode cX6_fits 177 = .ok (.iload_n 2, 1) := by decide +kernel
theorem dX6_fits_178 : decode cX6_fits 178 = .ok (.iload_n 3, 1) := by decide +kernel
theorem dX6_fits_179 : decode cX6_fits 179 = .ok (.iload 4, 2) := by decide +kernel
theorem dX6_fits_181 : decode cX6_fits 181 = .ok (.invokevirtual 212, 3) := by decide +kernel
theorem dX6_fits_184 : decode cX6_fits 184 = .ok (.ifCond .eq 12, 3) := by decide +kernel
theorem dX6_fits_187 : decode cX6_fits 187 = .ok (.iload 6, 2) := by decide +kernel
theorem dX6_fits_189 : decode cX6_fits 189 = .ok (.iconst 1, 1) := by decide +kernel
theorem dX6_fits_190 : decode cX6_fits 190 = .ok (.iload 9, 2) := by decide +kernel
theorem dX6_fits_192 : decode cX6_fits 192 = .ok (.ishl, 1) := by decide +kernel
theorem dX6_fits_193 : decode cX6_fits 193 = .ok (.ior, 1) := by decide +kernel
theorem dX6_fits_194 : decode cX6_fits 194 = .ok (.istore 6, 2) := by decide +kernel
theorem dX6_fits_196 : decode cX6_fits 196 = .ok (.iinc 9 1, 3) := by decide +kernel
theorem dX6_fits_199 : decode cX6_fits 199 = .ok (.goto (-64), 3) := by decide +kernel
theorem dX6_fits_202 : decode cX6_fits 202 = .ok (.aload_n 0, 1) := by decide +kernel
theorem dX6_fits_203 : decode cX6_fits 203 = .ok (.iload 6, 2) := by decide +kernel
theorem dX6_fits_205 : decode cX6_fits 205 = .ok (.invokevirtual 75, 3) := by decide +kernel
theorem dX6_fits_208 : decode cX6_fits 208 = .ok (.ireturn, 1) := by decide +kernel
set_option maxRecDepth 20000 in
theorem ggX6_strike_X2_stands : GoodIn wsX6_strike wsX2_stands := goodIn_r _ [13, 14, 87, 88, 89, 90, 91, 92, 93, 94, 95] (by decide +kernel) (by decide +kernel)
set_option maxRecDepth 20000 in
theorem gX6_strike_X2_stands : GoodIn wsX6_strike (wsV RX6 126 RX2 yX2_stands wsX2_stands) := goodIn_app (goodIn_of _ (by decide +kernel)) ggX6_strike_X2_stands
set_option maxRecDepth 20000 in
theorem ggX6_strike_X6_isWithin : GoodIn wsX6_strike wsX6_isWithin := goodIn_r _ [18] (by decide +kernel) (by decide +kernel)
set_option maxRecDepth 20000 in
theorem gX6_strike_X6_isWithin : GoodIn wsX6_strike (va_wsS RX6 62 yX6_isWithin wsX6_isWithin) := goodIn_app (goodIn_of _ (by decide +kernel)) ggX6_strike_X6_isWithin
set_option maxRecDepth 20000 in
theorem ggX6_strike_X2_workersOn : GoodIn wsX6_strike wsX2_workersOn := goodIn_r _ [22, 23, 24, 25, 26, 12, 27, 28, 29, 30, 31, 87, 88, 89, 90, 91, 92, 93, 94, 95] (by decide +kernel) (by decide +kernel)
set_option maxRecDepth 20000 in
theorem gX6_strike_X2_workersOn : GoodIn wsX6_strike (wsV RX6 174 RX2 yX2_workersOn wsX2_workersOn) := goodIn_app (goodIn_of _ (by decide +kernel)) ggX6_strike_X2_workersOn
set_option maxRecDepth 20000 in
theorem ggX6_strike_X2_tenthsSure : GoodIn wsX6_strike wsX2_tenthsSure := goodIn_r _ [35, 36, 37, 38, 39, 12, 40, 23, 41, 42, 43, 44, 14, 45, 17, 46, 47, 48, 49, 50, 51, 28, 52, 53, 54, 55, 56, 57, 58, 59, 60, 61, 62, 63, 64, 65, 66, 67, 68, 69, 70, 71, 72, 73, 87, 88, 89, 90, 91, 92, 93, 94, 95] (by decide +kernel) (by decide +kernel)
set_option maxRecDepth 20000 in
theorem gX6_strike_X2_tenthsSure : GoodIn wsX6_strike (wsV RX6 219 RX2 yX2_tenthsSure wsX2_tenthsSure) := goodIn_app (goodIn_of _ (by decide +kernel)) ggX6_strike_X2_tenthsSure
set_option maxRecDepth 20000 in
theorem ggX6_strike_J6_bitCount_0f7a4 : GoodIn wsX6_strike wsJ6_bitCount_0f7a4 := goodIn_r _ [63, 64, 65, 66] (by decide +kernel) (by decide +kernel)
set_option maxRecDepth 20000 in
theorem gX6_strike_J6_bitCount_0f7a4 : GoodIn wsX6_strike (va_wsS RX6 180 yJ6_bitCount_0f7a4 wsJ6_bitCount_0f7a4) := goodIn_app (goodIn_of _ (by decide +kernel)) ggX6_strike_J6_bitCount_0f7a4
set_option maxRecDepth 20000 in
theorem ggX6_strike_X6_power : GoodIn wsX6_strike wsX6_power := goodIn_r _ [73] (by decide +kernel) (by decide +kernel)
set_option maxRecDepth 20000 in
theorem gX6_strike_X6_power : GoodIn wsX6_strike (va_wsS RX6 222 yX6_power wsX6_power) := goodIn_app (goodIn_of _ (by decide +kernel)) ggX6_strike_X6_power
set_option maxRecDepth 20000 in
theorem ggX6_strike_X6_greatestDivisor : GoodIn wsX6_strike wsX6_greatestDivisor := goodIn_r _ [77] (by decide +kernel) (by decide +kernel)
set_option maxRecDepth 20000 in
theorem gX6_strike_X6_greatestDivisor : GoodIn wsX6_strike (va_wsS RX6 225 yX6_greatestDivisor wsX6_greatestDivisor) := goodIn_app (goodIn_of _ (by decide +kernel)) ggX6_strike_X6_greatestDivisor
theorem dX6_strike_0 : decode cX6_strike 0 = .ok (.aload_n 0, 1) := by decide +kernel
theorem dX6_strike_1 : decode cX6_strike 1 = .ok (.getfield 47, 3) := by decide +kernel
theorem dX6_strike_4 : decode cX6_strike 4 = .ok (.invokevirtual 126, 3) := by decide +kernel
theorem dX6_strike_7 : decode cX6_strike 7 = .ok (.ifCond .ne 6, 3) := by decide +kernel
theorem dX6_strike_10 : decode cX6_strike 10 = .ok (.ldc 129, 2) := by decide +kernel
theorem dX6_strike_12 : decode cX6_strike 12 = .ok (.ireturn, 1) := by decide +kernel
theorem dX6_strike_13 : decode cX6_strike 13 = .ok (.iload_n 1, 1) := by decide +kernel
theorem dX6_strike_14 : decode cX6_strike 14 = .ok (.iconst 0, 1) := by decide +kernel
theorem dX6_strike_15 : decode cX6_strike 15 = .ok (.bipush 99, 2) := by decide +kernel
theorem dX6_strike_17 : decode cX6_strike 17 = .ok (.invokestatic 62, 3) := by decide +kernel
theorem dX6_strike_20 : decode cX6_strike 20 = .ok (.ifCond .eq 22, 3) := by decide +kernel
theorem dX6_strike_23 : decode cX6_strike 23 = .ok (.iload_n 2, 1) := by decide +kernel
theorem dX6_strike_24 : decode cX6_strike 24 = .ok (.iconst 0, 1) := by decide +kernel
theorem dX6_strike_25 : decode cX6_strike 25 = .ok (.bipush 10, 2) := by decide +kernel
theorem dX6_strike_27 : decode cX6_strike 27 = .ok (.invokestatic 62, 3) := by decide +kernel
theorem dX6_strike_30 : decode cX6_strike 30 = .ok (.ifCond .eq 12, 3) := by decide +kernel
theorem dX6_strike_33 : decode cX6_strike 33 = .ok (.iload_n 3, 1) := by decide +kernel
theorem dX6_strike_34 : decode cX6_strike 34 = .ok (.iconst 0, 1) := by decide +kernel
theorem dX6_strike_35 : decode cX6_strike 35 = .ok (.iconst 1, 1) := by decide +kernel
theorem dX6_strike_36 : decode cX6_strike 36 = .ok (.invokestatic 62, 3) := by decide +kernel
theorem dX6_strike_39 : decode cX6_strike 39 = .ok (.ifCond .ne 6, 3) := by decide +kernel
theorem dX6_strike_42 : decode cX6_strike 42 = .ok (.ldc 66, 2) := by decide +kernel
theorem dX6_strike_44 : decode cX6_strike 44 = .ok (.ireturn, 1) := by decide +kernel
theorem dX6_strike_45 : decode cX6_strike 45 = .ok (.aload_n 0, 1) := by decide +kernel
theorem dX6_strike_46 : decode cX6_strike 46 = .ok (.getfield 47, 3) := by decide +kernel
theorem dX6_strike_49 : decode cX6_strike 49 = .ok (.aload_n 0, 1) := by decide +kernel
theorem dX6_strike_50 : decode cX6_strike 50 = .ok (.getfield 47, 3) := by decide +kernel
theorem dX6_strike_53 : decode cX6_strike 53 = .ok (.getfield 130, 3) := by decide +kernel
theorem dX6_strike_56 : decode cX6_strike 56 = .ok (.iload_n 1, 1) := by decide +kernel
theorem dX6_strike_57 : decode cX6_strike 57 = .ok (.iadd, 1) := by decide +kernel
theorem dX6_strike_58 : decode cX6_strike 58 = .ok (.invokevirtual 174, 3) := by decide +kernel
theorem dX6_strike_61 : decode cX6_strike 61 = .ok (.istore 4, 2) := by decide +kernel
theorem dX6_strike_63 : decode cX6_strike 63 = .ok (.aload_n 0, 1) := by decide +kernel
theorem dX6_strike_64 : decode cX6_strike 64 = .ok (.getfield 47, 3) := by decide +kernel
theorem dX6_strike_67 : decode cX6_strike 67 = .ok (.iload 4, 2) := by decide +kernel
theorem dX6_strike_69 : decode cX6_strike 69 = .ok (.iload_n 2, 1) := by decide +kernel
theorem dX6_strike_70 : decode cX6_strike 70 = .ok (.invokevirtual 219, 3) := by decide +kernel
theorem dX6_strike_73 : decode cX6_strike 73 = .ok (.istore 5, 2) := by decide +kernel
theorem dX6_strike_75 : decode cX6_strike 75 = .ok (.bipush 10, 2) := by decide +kernel
theorem dX6_strike_77 : decode cX6_strike 77 = .ok (.iload 4, 2) := by decide +kernel
theorem dX6_strike_79 : decode cX6_strike 79 = .ok (.invokestatic 180, 3) := by decide +kernel
theorem dX6_strike_82 : decode cX6_strike 82 = .ok (.invokestatic 222, 3) := by decide +kernel
theorem dX6_strike_85 : decode cX6_strike 85 = .ok (.istore 6, 2) := by decide +kernel
theorem dX6_strike_87 : decode cX6_strike 87 = .ok (.iconst 1, 1) := by decide +kernel
theorem dX6_strike_88 : decode cX6_strike 88 = .ok (.iload 5, 2) := by decide +kernel
theorem dX6_strike_90 : decode cX6_strike 90 = .ok (.iload 6, 2) := by decide +kernel
theorem dX6_strike_92 : decode cX6_strike 92 = .ok (.invokestatic 225, 3) := by decide +kernel
theorem dX6_strike_95 : decode cX6_strike 95 = .ok (.invokestatic 228, 3) := by decide +kernel
theorem dX6_strike_98 : decode cX6_strike 98 = .ok (.istore 7, 2) := by decide +kernel
theorem dX6_strike_100 : decode cX6_strike 100 = .ok (.iload_n 3, 1) := by decide +kernel
theorem dX6_strike_101 : decode cX6_strike 101 = .ok (.ifCond .ne 8, 3) := by decide +kernel
theorem dX6_strike_104 : decode cX6_strike 104 = .ok (.iload 5, 2) := by decide +kernel
theorem dX6_strike_106 : decode cX6_strike 106 = .ok (.goto 5, 3) := by decide +kernel
theorem dX6_strike_109 : decode cX6_strike 109 = .ok (.iload 6, 2) := by decide +kernel
theorem dX6_strike_111 : decode cX6_strike 111 = .ok (.iload 7, 2) := by decide +kernel
theorem dX6_strike_113 : decode cX6_strike 113 = .ok (.idiv, 1) := by decide +kernel
theorem dX6_strike_114 : decode cX6_strike 114 = .ok (.ireturn, 1) := by decide +kernel
set_option maxRecDepth 20000 in
theorem ggX6_drawn_X2_stands : GoodIn wsX6_drawn wsX2_stands := goodIn_r _ [18, 19, 84, 85, 86, 87, 88, 89, 90, 91, 92] (by decide +kernel) (by decide +kernel)
set_option maxRecDepth 20000 in
theorem gX6_drawn_X2_stands : GoodIn wsX6_drawn (wsV RX6 126 RX2 yX2_stands wsX2_stands) := goodIn_app (goodIn_of _ (by decide +kernel)) ggX6_drawn_X2_stands
set_option maxRecDepth 20000 in
theorem ggX6_drawn_X6_isWithin : GoodIn wsX6_drawn wsX6_isWithin := goodIn_r _ [23] (by decide +kernel) (by decide +kernel)
set_option maxRecDepth 20000 in
theorem gX6_drawn_X6_isWithin : GoodIn wsX6_drawn (va_wsS RX6 62 yX6_isWithin wsX6_isWithin) := goodIn_app (goodIn_of _ (by decide +kernel)) ggX6_drawn_X6_isWithin
set_option maxRecDepth 20000 in
theorem ggX6_drawn_X2_leftOn : GoodIn wsX6_drawn wsX2_leftOn := goodIn_r _ [27, 28, 29, 30, 17, 31, 32, 33, 34, 35, 36, 37, 38, 39, 40, 41, 42, 43, 44, 45, 46, 47, 48, 19, 49, 22, 50, 51, 52, 53, 54, 55, 56, 57, 58, 59, 60, 84, 85, 86, 87, 88, 89, 90, 91, 92] (by decide +kernel) (by decide +kernel)
set_option maxRecDepth 20000 in
theorem gX6_drawn_X2_leftOn : GoodIn wsX6_drawn (wsV RX6 136 RX2 yX2_leftOn wsX2_leftOn) := goodIn_app (goodIn_of _ (by decide +kernel)) ggX6_drawn_X2_leftOn
set_option maxRecDepth 20000 in
theorem ggX6_drawn_X6_onlyOne : GoodIn wsX6_drawn wsX6_onlyOne := goodIn_r _ [63, 13, 64, 65, 66, 67, 68, 69, 70, 71, 72, 73, 74] (by decide +kernel) (by decide +kernel)
set_option maxRecDepth 20000 in
theorem gX6_drawn_X6_onlyOne : GoodIn wsX6_drawn (va_wsS RX6 177 yX6_onlyOne wsX6_onlyOne) := goodIn_app (goodIn_of _ (by decide +kernel)) ggX6_drawn_X6_onlyOne
theorem dX6_drawn_0 : decode cX6_drawn 0 = .ok (.aload_n 0, 1) := by decide +kernel
theorem dX6_drawn_1 : decode cX6_drawn 1 = .ok (.getfield 47, 3) := by decide +kernel
theorem dX6_drawn_4 : decode cX6_drawn 4 = .ok (.invokevirtual 126, 3) := by decide +kernel
theorem dX6_drawn_7 : decode cX6_drawn 7 = .ok (.ifCond .ne 6, 3) := by decide +kernel
theorem dX6_drawn_10 : decode cX6_drawn 10 = .ok (.ldc 129, 2) := by decide +kernel
theorem dX6_drawn_12 : decode cX6_drawn 12 = .ok (.ireturn, 1) := by decide +kernel
theorem dX6_drawn_13 : decode cX6_drawn 13 = .ok (.iload_n 1, 1) := by decide +kernel
theorem dX6_drawn_14 : decode cX6_drawn 14 = .ok (.iconst 0, 1) := by decide +kernel
theorem dX6_drawn_15 : decode cX6_drawn 15 = .ok (.bipush 60, 2) := by decide +kernel
theorem dX6_drawn_17 : decode cX6_drawn 17 = .ok (.invokestatic 62, 3) := by decide +kernel
theorem dX6_drawn_20 : decode cX6_drawn 20 = .ok (.ifCond .eq 22, 3) := by decide +kernel
theorem dX6_drawn_23 : decode cX6_drawn 23 = .ok (.iload_n 2, 1) := by decide +kernel
theorem dX6_drawn_24 : decode cX6_drawn 24 = .ok (.iconst 1, 1) := by decide +kernel
theorem dX6_drawn_25 : decode cX6_drawn 25 = .ok (.ldc 233, 2) := by decide +kernel
theorem dX6_drawn_27 : decode cX6_drawn 27 = .ok (.invokestatic 62, 3) := by decide +kernel
theorem dX6_drawn_30 : decode cX6_drawn 30 = .ok (.ifCond .eq 12, 3) := by decide +kernel
theorem dX6_drawn_33 : decode cX6_drawn 33 = .ok (.iload_n 3, 1) := by decide +kernel
theorem dX6_drawn_34 : decode cX6_drawn 34 = .ok (.iconst 0, 1) := by decide +kernel
theorem dX6_drawn_35 : decode cX6_drawn 35 = .ok (.iconst 1, 1) := by decide +kernel
theorem dX6_drawn_36 : decode cX6_drawn 36 = .ok (.invokestatic 62, 3) := by decide +kernel
theorem dX6_drawn_39 : decode cX6_drawn 39 = .ok (.ifCond .ne 6, 3) := by decide +kernel
theorem dX6_drawn_42 : decode cX6_drawn 42 = .ok (.ldc 66, 2) := by decide +kernel
theorem dX6_drawn_44 : decode cX6_drawn 44 = .ok (.ireturn, 1) := by decide +kernel
theorem dX6_drawn_45 : decode cX6_drawn 45 = .ok (.iload_n 2, 1) := by decide +kernel
theorem dX6_drawn_46 : decode cX6_drawn 46 = .ok (.i2l, 1) := by decide +kernel
theorem dX6_drawn_47 : decode cX6_drawn 47 = .ok (.lstore 4, 2) := by decide +kernel
theorem dX6_drawn_49 : decode cX6_drawn 49 = .ok (.iconst 0, 1) := by decide +kernel
theorem dX6_drawn_50 : decode cX6_drawn 50 = .ok (.istore 6, 2) := by decide +kernel
theorem dX6_drawn_52 : decode cX6_drawn 52 = .ok (.iconst 0, 1) := by decide +kernel
theorem dX6_drawn_53 : decode cX6_drawn 53 = .ok (.istore 7, 2) := by decide +kernel
theorem dX6_drawn_55 : decode cX6_drawn 55 = .ok (.iload 7, 2) := by decide +kernel
theorem dX6_drawn_57 : decode cX6_drawn 57 = .ok (.iload_n 1, 1) := by decide +kernel
theorem dX6_drawn_58 : decode cX6_drawn 58 = .ok (.if_icmp .ge 95, 3) := by decide +kernel
theorem dX6_drawn_61 : decode cX6_drawn 61 = .ok (.lload 4, 2) := by decide +kernel
theorem dX6_drawn_63 : decode cX6_drawn 63 = .ok (.ldc2_w 234, 3) := by decide +kernel
theorem dX6_drawn_66 : decode cX6_drawn 66 = .ok (.lmul, 1) := by decide +kernel
theorem dX6_drawn_67 : decode cX6_drawn 67 = .ok (.ldc2_w 236, 3) := by decide +kernel
theorem dX6_drawn_70 : decode cX6_drawn 70 = .ok (.lrem, 1) := by decide +kernel
theorem dX6_drawn_71 : decode cX6_drawn 71 = .ok (.lstore 4, 2) := by decide +kernel
theorem dX6_drawn_73 : decode cX6_drawn 73 = .ok (.lload 4, 2) := by decide +kernel
theorem dX6_drawn_75 : decode cX6_drawn 75 = .ok (.iconst 1, 1) := by decide +kernel
theorem dX6_drawn_76 : decode cX6_drawn 76 = .ok (.aload_n 0, 1) := by decide +kernel
theorem dX6_drawn_77 : decode cX6_drawn 77 = .ok (.getfield 47, 3) := by decide +kernel
theorem dX6_drawn_80 : decode cX6_drawn 80 = .ok (.getfield 196, 3) := by decide +kernel
theorem dX6_drawn_83 : decode cX6_drawn 83 = .ok (.invokestatic 228, 3) := by decide +kernel
theorem dX6_drawn_86 : decode cX6_drawn 86 = .ok (.i2l, 1) := by decide +kernel
theorem dX6_drawn_87 : decode cX6_drawn 87 = .ok (.lrem, 1) := by decide +kernel
theorem dX6_drawn_88 : decode cX6_drawn 88 = .ok (.l2i, 1) := by decide +kernel
theorem dX6_drawn_89 : decode cX6_drawn 89 = .ok (.istore 8, 2) := by decide +kernel
theorem dX6_drawn_91 : decode cX6_drawn 91 = .ok (.aload_n 0, 1) := by decide +kernel
theorem dX6_drawn_92 : decode cX6_drawn 92 = .ok (.getfield 47, 3) := by decide +kernel
theorem dX6_drawn_95 : decode cX6_drawn 95 = .ok (.aload_n 0, 1) := by decide +kernel
theorem dX6_drawn_96 : decode cX6_drawn 96 = .ok (.getfield 47, 3) := by decide +kernel
theorem dX6_drawn_99 : decode cX6_drawn 99 = .ok (.getfield 130, 3) := by decide +kernel
theorem dX6_drawn_102 : decode cX6_drawn 102 = .ok (.iload 7, 2) := by decide +kernel
theorem dX6_drawn_104 : decode cX6_drawn 104 = .ok (.iadd, 1) := by decide +kernel
theorem dX6_drawn_105 : decode cX6_drawn 105 = .ok (.invokevirtual 136, 3) := by decide +kernel
theorem dX6_drawn_108 : decode cX6_drawn 108 = .ok (.invokestatic 177, 3) := by decide +kernel
theorem dX6_drawn_111 : decode cX6_drawn 111 = .ok (.istore 9, 2) := by decide +kernel
theorem dX6_drawn_113 : decode cX6_drawn 113 = .ok (.iload 9, 2) := by decide +kernel
theorem dX6_drawn_115 : decode cX6_drawn 115 = .ok (.ldc 185, 2) := by decide +kernel
theorem dX6_drawn_117 : decode cX6_drawn 117 = .ok (.if_icmp .eq 30, 3) := by decide +kernel
theorem dX6_drawn_120 : decode cX6_drawn 120 = .ok (.iload 9, 2) := by decide +kernel
theorem dX6_drawn_122 : decode cX6_drawn 122 = .ok (.iload 8, 2) := by decide +kernel
theorem dX6_drawn_124 : decode cX6_drawn 124 = .ok (.if_icmp .ne 7, 3) := by decide +kernel
theorem dX6_drawn_127 : decode cX6_drawn 127 = .ok (.iconst 1, 1) := by decide +kernel
theorem dX6_drawn_128 : decode cX6_drawn 128 = .ok (.goto 4, 3) := by decide +kernel
theorem dX6_drawn_131 : decode cX6_drawn 131 = .ok (.iconst 0, 1) := by decide +kernel
theorem dX6_drawn_132 : decode cX6_drawn 132 = .ok (.iload_n 3, 1) := by decide +kernel
theorem dX6_drawn_133 : decode cX6_drawn 133 = .ok (.ifCond .ne 7, 3) := by decide +kernel
theorem dX6_drawn_136 : decode cX6_drawn 136 = .ok (.iconst 1, 1) := by decide +kernel
theorem dX6_drawn_137 : decode cX6_drawn 137 = .ok (.goto 4, 3) := by decide +kernel
theorem dX6_drawn_140 : decode cX6_drawn 140 = .ok (.iconst 0, 1) := by decide +kernel
theorem dX6_drawn_141 : decode cX6_drawn 141 = .ok (.if_icmp .ne 6, 3) := by decide +kernel
theorem dX6_drawn_144 : decode cX6_drawn 144 = .ok (.iinc 6 1, 3) := by decide +kernel
theorem dX6_drawn_147 : decode cX6_drawn 147 = .ok (.iinc 7 1, 3) := by decide +kernel
theorem dX6_drawn_150 : decode cX6_drawn 150 = .ok (.goto (-95), 3) := by decide +kernel
theorem dX6_drawn_153 : decode cX6_drawn 153 = .ok (.iload 6, 2) := by decide +kernel
theorem dX6_drawn_155 : decode cX6_drawn 155 = .ok (.ireturn, 1) := by decide +kernel
set_option maxRecDepth 20000 in
theorem ggX6_image_X6_isWithin : GoodIn wsX6_image wsX6_isWithin := goodIn_r _ [8] (by decide +kernel) (by decide +kernel)
set_option maxRecDepth 20000 in
theorem gX6_image_X6_isWithin : GoodIn wsX6_image (va_wsS RX6 62 yX6_isWithin wsX6_isWithin) := goodIn_app (goodIn_of _ (by decide +kernel)) ggX6_image_X6_isWithin
set_option maxRecDepth 20000 in
theorem ggX6_image_X2_stands : GoodIn wsX6_image wsX2_stands := goodIn_r _ [13, 14, 40, 41, 42, 43, 44, 45, 46, 47, 48] (by decide +kernel) (by decide +kernel)
set_option maxRecDepth 20000 in
theorem gX6_image_X2_stands : GoodIn wsX6_image (wsV RX6 126 RX2 yX2_stands wsX2_stands) := goodIn_app (goodIn_of _ (by decide +kernel)) ggX6_image_X2_stands
set_option maxRecDepth 20000 in
theorem ggX6_image_X2_become : GoodIn wsX6_image wsX2_become := goodIn_r _ [18, 14, 19, 20, 21, 22, 23, 24, 25, 26, 27, 28, 29, 30, 40, 41, 42, 43, 44, 45, 46, 47, 48] (by decide +kernel) (by decide +kernel)
set_option maxRecDepth 20000 in
theorem gX6_image_X2_become : GoodIn wsX6_image (wsV RX6 111 RX2 yX2_become wsX2_become) := goodIn_app (goodIn_of _ (by decide +kernel)) ggX6_image_X2_become
theorem dX6_image_0 : decode cX6_image 0 = .ok (.iload_n 1, 1) := by decide +kernel
theorem dX6_image_1 : decode cX6_image 1 = .ok (.iconst 0, 1) := by decide +kernel
theorem dX6_image_2 : decode cX6_image 2 = .ok (.aload_n 0, 1) := by decide +kernel
theorem dX6_image_3 : decode cX6_image 3 = .ok (.getfield 54, 3) := by decide +kernel
theorem dX6_image_6 : decode cX6_image 6 = .ok (.arraylength, 1) := by decide +kernel
theorem dX6_image_7 : decode cX6_image 7 = .ok (.iconst 1, 1) := by decide +kernel
theorem dX6_image_8 : decode cX6_image 8 = .ok (.isub, 1) := by decide +kernel
theorem dX6_image_9 : decode cX6_image 9 = .ok (.invokestatic 62, 3) := by decide +kernel
theorem dX6_image_12 : decode cX6_image 12 = .ok (.ifCond .ne 6, 3) := by decide +kernel
theorem dX6_image_15 : decode cX6_image 15 = .ok (.ldc 66, 2) := by decide +kernel
theorem dX6_image_17 : decode cX6_image 17 = .ok (.ireturn, 1) := by decide +kernel
theorem dX6_image_18 : decode cX6_image 18 = .ok (.aload_n 0, 1) := by decide +kernel
theorem dX6_image_19 : decode cX6_image 19 = .ok (.getfield 47, 3) := by decide +kernel
theorem dX6_image_22 : decode cX6_image 22 = .ok (.invokevirtual 126, 3) := by decide +kernel
theorem dX6_image_25 : decode cX6_image 25 = .ok (.ifCond .ne 6, 3) := by decide +kernel
theorem dX6_image_28 : decode cX6_image 28 = .ok (.ldc 129, 2) := by decide +kernel
theorem dX6_image_30 : decode cX6_image 30 = .ok (.ireturn, 1) := by decide +kernel
theorem dX6_image_31 : decode cX6_image 31 = .ok (.aload_n 0, 1) := by decide +kernel
theorem dX6_image_32 : decode cX6_image 32 = .ok (.getfield 54, 3) := by decide +kernel
theorem dX6_image_35 : decode cX6_image 35 = .ok (.iload_n 1, 1) := by decide +kernel
theorem dX6_image_36 : decode cX6_image 36 = .ok (.aaload, 1) := by decide +kernel
theorem dX6_image_37 : decode cX6_image 37 = .ok (.aload_n 0, 1) := by decide +kernel
theorem dX6_image_38 : decode cX6_image 38 = .ok (.getfield 47, 3) := by decide +kernel
theorem dX6_image_41 : decode cX6_image 41 = .ok (.invokevirtual 111, 3) := by decide +kernel
theorem dX6_image_44 : decode cX6_image 44 = .ok (.iconst 1, 1) := by decide +kernel
theorem dX6_image_45 : decode cX6_image 45 = .ok (.ireturn, 1) := by decide +kernel
set_option maxRecDepth 20000 in
theorem ggX6_restore_X6_isWithin : GoodIn wsX6_restore wsX6_isWithin := goodIn_r _ [9] (by decide +kernel) (by decide +kernel)
set_option maxRecDepth 20000 in
theorem gX6_restore_X6_isWithin : GoodIn wsX6_restore (va_wsS RX6 62 yX6_isWithin wsX6_isWithin) := goodIn_app (goodIn_of _ (by decide +kernel)) ggX6_restore_X6_isWithin
set_option maxRecDepth 20000 in
theorem ggX6_restore_X2_stands : GoodIn wsX6_restore wsX2_stands := goodIn_r _ [14, 15, 47, 48, 49, 50, 51, 52, 53, 54, 55] (by decide +kernel) (by decide +kernel)
set_option maxRecDepth 20000 in
theorem gX6_restore_X2_stands : GoodIn wsX6_restore (wsV RX6 126 RX2 yX2_stands wsX2_stands) := goodIn_app (goodIn_of _ (by decide +kernel)) ggX6_restore_X2_stands
set_option maxRecDepth 20000 in
theorem ggX6_restore_X2_become : GoodIn wsX6_restore wsX2_become := goodIn_r _ [19, 15, 20, 21, 22, 23, 24, 25, 26, 27, 28, 29, 30, 31, 47, 48, 49, 50, 51, 52, 53, 54, 55] (by decide +kernel) (by decide +kernel)
set_option maxRecDepth 20000 in
theorem gX6_restore_X2_become : GoodIn wsX6_restore (wsV RX6 111 RX2 yX2_become wsX2_become) := goodIn_app (goodIn_of _ (by decide +kernel)) ggX6_restore_X2_become
set_option maxRecDepth 20000 in
theorem ggX6_restore_X0_forgetAll : GoodIn wsX6_restore wsX0_forgetAll := goodIn_r _ [36, 37, 56, 57, 58, 59, 60] (by decide +kernel) (by decide +kernel)
set_option maxRecDepth 20000 in
theorem gX6_restore_X0_forgetAll : GoodIn wsX6_restore (wsV RX6 115 RX0 yX0_forgetAll wsX0_forgetAll) := goodIn_app (goodIn_of _ (by decide +kernel)) ggX6_restore_X0_forgetAll
theorem dX6_restore_0 : decode cX6_restore 0 = .ok (.iload_n 1, 1) := by decide +kernel
theorem dX6_restore_1 : decode cX6_restore 1 = .ok (.iconst 0, 1) := by decide +kernel
theorem dX6_restore_2 : decode cX6_restore 2 = .ok (.aload_n 0, 1) := by decide +kernel
theorem dX6_restore_3 : decode cX6_restore 3 = .ok (.getfield 54, 3) := by decide +kernel
theorem dX6_restore_6 : decode cX6_restore 6 = .ok (.arraylength, 1) := by decide +kernel
theorem dX6_restore_7 : decode cX6_restore 7 = .ok (.iconst 1, 1) := by decide +kernel
theorem dX6_restore_8 : decode cX6_restore 8 = .ok (.isub, 1) := by decide +kernel
theorem dX6_restore_9 : decode cX6_restore 9 = .ok (.invokestatic 62, 3) := by decide +kernel
theorem dX6_restore_12 : decode cX6_restore 12 = .ok (.ifCond .ne 6, 3) := by decide +kernel
theorem dX6_restore_15 : decode cX6_restore 15 = .ok (.ldc 66, 2) := by decide +kernel
theorem dX6_restore_17 : decode cX6_restore 17 = .ok (.ireturn, 1) := by decide +kernel
theorem dX6_restore_18 : decode cX6_restore 18 = .ok (.aload_n 0, 1) := by decide +kernel
theorem dX6_restore_19 : decode cX6_restore 19 = .ok (.getfield 54, 3) := by decide +kernel
theorem dX6_restore_22 : decode cX6_restore 22 = .ok (.iload_n 1, 1) := by decide +kernel
theorem dX6_restore_23 : decode cX6_restore 23 = .ok (.aaload, 1) := by decide +kernel
theorem dX6_restore_24 : decode cX6_restore 24 = .ok (.invokevirtual 126, 3) := by decide +kernel
theorem dX6_restore_27 : decode cX6_restore 27 = .ok (.ifCond .ne 6, 3) := by decide +kernel
theorem dX6_restore_30 : decode cX6_restore 30 = .ok (.ldc 129, 2) := by decide +kernel
theorem dX6_restore_32 : decode cX6_restore 32 = .ok (.ireturn, 1) := by decide +kernel
theorem dX6_restore_33 : decode cX6_restore 33 = .ok (.aload_n 0, 1) := by decide +kernel
theorem dX6_restore_34 : decode cX6_restore 34 = .ok (.getfield 47, 3) := by decide +kernel
theorem dX6_restore_37 : decode cX6_restore 37 = .ok (.aload_n 0, 1) := by decide +kernel
theorem dX6_restore_38 : decode cX6_restore 38 = .ok (.getfield 54, 3) := by decide +kernel
theorem dX6_restore_41 : decode cX6_restore 41 = .ok (.iload_n 1, 1) := by decide +kernel
theorem dX6_restore_42 : decode cX6_restore 42 = .ok (.aaload, 1) := by decide +kernel
theorem dX6_restore_43 : decode cX6_restore 43 = .ok (.invokevirtual 111, 3) := by decide +kernel
theorem dX6_restore_46 : decode cX6_restore 46 = .ok (.aload_n 0, 1) := by decide +kernel
theorem dX6_restore_47 : decode cX6_restore 47 = .ok (.getfield 26, 3) := by decide +kernel
theorem dX6_restore_50 : decode cX6_restore 50 = .ok (.invokevirtual 115, 3) := by decide +kernel
theorem dX6_restore_53 : decode cX6_restore 53 = .ok (.iconst 1, 1) := by decide +kernel
theorem dX6_restore_54 : decode cX6_restore 54 = .ok (.ireturn, 1) := by decide +kernel
set_option maxRecDepth 20000 in
theorem ggX6_kind_X2_has : GoodIn wsX6_kind wsX2_has := goodIn_r _ [8, 9, 19, 20, 21, 22, 23, 24, 25, 26, 27] (by decide +kernel) (by decide +kernel)
set_option maxRecDepth 20000 in
theorem gX6_kind_X2_has : GoodIn wsX6_kind (wsV RX6 139 RX2 yX2_has wsX2_has) := goodIn_app (goodIn_of _ (by decide +kernel)) ggX6_kind_X2_has
theorem dX6_kind_0 : decode cX6_kind 0 = .ok (.aload_n 0, 1) := by decide +kernel
theorem dX6_kind_1 : decode cX6_kind 1 = .ok (.getfield 47, 3) := by decide +kernel
theorem dX6_kind_4 : decode cX6_kind 4 = .ok (.iload_n 1, 1) := by decide +kernel
theorem dX6_kind_5 : decode cX6_kind 5 = .ok (.invokevirtual 139, 3) := by decide +kernel
theorem dX6_kind_8 : decode cX6_kind 8 = .ok (.ifCond .eq 15, 3) := by decide +kernel
theorem dX6_kind_11 : decode cX6_kind 11 = .ok (.aload_n 0, 1) := by decide +kernel
theorem dX6_kind_12 : decode cX6_kind 12 = .ok (.getfield 47, 3) := by decide +kernel
theorem dX6_kind_15 : decode cX6_kind 15 = .ok (.getfield 216, 3) := by decide +kernel
theorem dX6_kind_18 : decode cX6_kind 18 = .ok (.iload_n 1, 1) := by decide +kernel
theorem dX6_kind_19 : decode cX6_kind 19 = .ok (.iaload, 1) := by decide +kernel
theorem dX6_kind_20 : decode cX6_kind 20 = .ok (.goto 5, 3) := by decide +kernel
theorem dX6_kind_23 : decode cX6_kind 23 = .ok (.ldc 66, 2) := by decide +kernel
theorem dX6_kind_25 : decode cX6_kind 25 = .ok (.ireturn, 1) := by decide +kernel
set_option maxRecDepth 20000 in
theorem ggX6_as_X2_has : GoodIn wsX6_as wsX2_has := goodIn_r _ [9, 10, 37, 38, 39, 40, 41, 42, 43, 44, 45] (by decide +kernel) (by decide +kernel)
set_option maxRecDepth 20000 in
theorem gX6_as_X2_has : GoodIn wsX6_as (wsV RX6 139 RX2 yX2_has wsX2_has) := goodIn_app (goodIn_of _ (by decide +kernel)) ggX6_as_X2_has
set_option maxRecDepth 20000 in
theorem ggX6_as_X6_isWithin : GoodIn wsX6_as wsX6_isWithin := goodIn_r _ [14] (by decide +kernel) (by decide +kernel)
set_option maxRecDepth 20000 in
theorem gX6_as_X6_isWithin : GoodIn wsX6_as (va_wsS RX6 62 yX6_isWithin wsX6_isWithin) := goodIn_app (goodIn_of _ (by decide +kernel)) ggX6_as_X6_isWithin
set_option maxRecDepth 20000 in
theorem ggX6_as_X6_isIn : GoodIn wsX6_as wsX6_isIn := goodIn_r _ [17] (by decide +kernel) (by decide +kernel)
set_option maxRecDepth 20000 in
theorem gX6_as_X6_isIn : GoodIn wsX6_as (va_wsS RX6 199 yX6_isIn wsX6_isIn) := goodIn_app (goodIn_of _ (by decide +kernel)) ggX6_as_X6_isIn
set_option maxRecDepth 20000 in
theorem ggX6_as_X6_found : GoodIn wsX6_as wsX6_found := goodIn_r _ [21, 22, 23, 28, 29, 30, 31, 32, 33, 34, 35, 36] (by decide +kernel) (by decide +kernel)
set_option maxRecDepth 20000 in
theorem gX6_as_X6_found : GoodIn wsX6_as (wsV RX6 67 RX6 yX6_found wsX6_found) := goodIn_app (goodIn_of _ (by decide +kernel)) ggX6_as_X6_found
set_option maxRecDepth 20000 in
theorem ggX6_as_X6_sound : GoodIn wsX6_as wsX6_sound := goodIn_r _ [27, 22, 28, 29, 30, 31, 32, 33, 34, 35, 36] (by decide +kernel) (by decide +kernel)
set_option maxRecDepth 20000 in
theorem gX6_as_X6_sound : GoodIn wsX6_as (wsV RX6 75 RX6 yX6_sound wsX6_sound) := goodIn_app (goodIn_of _ (by decide +kernel)) ggX6_as_X6_sound
theorem dX6_as_0 : decode cX6_as 0 = .ok (.aload_n 0, 1) := by decide +kernel
theorem dX6_as_1 : decode cX6_as 1 = .ok (.getfield 47, 3) := by decide +kernel
theorem dX6_as_4 : decode cX6_as 4 = .ok (.iload_n 1, 1) := by decide +kernel
theorem dX6_as_5 : decode cX6_as 5 = .ok (.invokevirtual 139, 3) := by decide +kernel
theorem dX6_as_8 : decode cX6_as 8 = .ok (.ifCond .eq 12, 3) := by decide +kernel
theorem dX6_as_11 : decode cX6_as 11 = .ok (.iload_n 2, 1) := by decide +kernel
theorem dX6_as_12 : decode cX6_as 12 = .ok (.iconst 0, 1) := by decide +kernel
theorem dX6_as_13 : decode cX6_as 13 = .ok (.iconst 5, 1) := by decide +kernel
theorem dX6_as_14 : decode cX6_as 14 = .ok (.invokestatic 62, 3) := by decide +kernel
theorem dX6_as_17 : decode cX6_as 17 = .ok (.ifCond .ne 6, 3) := by decide +kernel
theorem dX6_as_20 : decode cX6_as 20 = .ok (.ldc 66, 2) := by decide +kernel
theorem dX6_as_22 : decode cX6_as 22 = .ok (.ireturn, 1) := by decide +kernel
theorem dX6_as_23 : decode cX6_as 23 = .ok (.getstatic 238, 3) := by decide +kernel
theorem dX6_as_26 : decode cX6_as 26 = .ok (.aload_n 0, 1) := by decide +kernel
theorem dX6_as_27 : decode cX6_as 27 = .ok (.getfield 47, 3) := by decide +kernel
theorem dX6_as_30 : decode cX6_as 30 = .ok (.getfield 216, 3) := by decide +kernel
theorem dX6_as_33 : decode cX6_as 33 = .ok (.iload_n 1, 1) := by decide +kernel
theorem dX6_as_34 : decode cX6_as 34 = .ok (.iaload, 1) := by decide +kernel
theorem dX6_as_35 : decode cX6_as 35 = .ok (.iaload, 1) := by decide +kernel
theorem dX6_as_36 : decode cX6_as 36 = .ok (.iload_n 2, 1) := by decide +kernel
theorem dX6_as_37 : decode cX6_as 37 = .ok (.invokestatic 199, 3) := by decide +kernel
theorem dX6_as_40 : decode cX6_as 40 = .ok (.ifCond .ne 9, 3) := by decide +kernel
theorem dX6_as_43 : decode cX6_as 43 = .ok (.aload_n 0, 1) := by decide +kernel
theorem dX6_as_44 : decode cX6_as 44 = .ok (.iconst 3, 1) := by decide +kernel
theorem dX6_as_45 : decode cX6_as 45 = .ok (.invokevirtual 67, 3) := by decide +kernel
theorem dX6_as_48 : decode cX6_as 48 = .ok (.ireturn, 1) := by decide +kernel
theorem dX6_as_49 : decode cX6_as 49 = .ok (.aload_n 0, 1) := by decide +kernel
theorem dX6_as_50 : decode cX6_as 50 = .ok (.iload_n 1, 1) := by decide +kernel
theorem dX6_as_51 : decode cX6_as 51 = .ok (.invokevirtual 75, 3) := by decide +kernel
theorem dX6_as_54 : decode cX6_as 54 = .ok (.ireturn, 1) := by decide +kernel
set_option maxRecDepth 20000 in
theorem ggX6_ask_X2_has : GoodIn wsX6_ask wsX2_has := goodIn_r _ [8, 9, 47, 48, 49, 50, 51, 52, 53, 54, 55] (by decide +kernel) (by decide +kernel)
set_option maxRecDepth 20000 in
theorem gX6_ask_X2_has : GoodIn wsX6_ask (wsV RX6 139 RX2 yX2_has wsX2_has) := goodIn_app (goodIn_of _ (by decide +kernel)) ggX6_ask_X2_has
set_option maxRecDepth 20000 in
theorem ggX6_ask_X6_isWithin : GoodIn wsX6_ask wsX6_isWithin := goodIn_r _ [13] (by decide +kernel) (by decide +kernel)
set_option maxRecDepth 20000 in
theorem gX6_ask_X6_isWithin : GoodIn wsX6_ask (va_wsS RX6 62 yX6_isWithin wsX6_isWithin) := goodIn_app (goodIn_of _ (by decide +kernel)) ggX6_ask_X6_isWithin
set_option maxRecDepth 20000 in
theorem ggX6_ask_X1_answer : GoodIn wsX6_ask wsX1_answer := goodIn_r _ [18, 19, 20, 21, 22, 17, 23, 24, 25, 26, 27, 28, 29, 30, 31, 32, 33, 34, 35, 36, 37, 56, 57, 47, 48, 49, 50, 51, 52, 53, 54, 55] (by decide +kernel) (by decide +kernel)
set_option maxRecDepth 20000 in
theorem gX6_ask_X1_answer : GoodIn wsX6_ask (wsV RX6 241 RX1 yX1_answer wsX1_answer) := goodIn_app (goodIn_of _ (by decide +kernel)) ggX6_ask_X1_answer
theorem dX6_ask_0 : decode cX6_ask 0 = .ok (.aload_n 0, 1) := by decide +kernel
theorem dX6_ask_1 : decode cX6_ask 1 = .ok (.getfield 47, 3) := by decide +kernel
theorem dX6_ask_4 : decode cX6_ask 4 = .ok (.iload_n 1, 1) := by decide +kernel
theorem dX6_ask_5 : decode cX6_ask 5 = .ok (.invokevirtual 139, 3) := by decide +kernel
theorem dX6_ask_8 : decode cX6_ask 8 = .ok (.ifCond .eq 12, 3) := by decide +kernel
theorem dX6_ask_11 : decode cX6_ask 11 = .ok (.iload_n 2, 1) := by decide +kernel
theorem dX6_ask_12 : decode cX6_ask 12 = .ok (.iconst 0, 1) := by decide +kernel
theorem dX6_ask_13 : decode cX6_ask 13 = .ok (.iconst 1, 1) := by decide +kernel
theorem dX6_ask_14 : decode cX6_ask 14 = .ok (.invokestatic 62, 3) := by decide +kernel
theorem dX6_ask_17 : decode cX6_ask 17 = .ok (.ifCond .ne 6, 3) := by decide +kernel
theorem dX6_ask_20 : decode cX6_ask 20 = .ok (.ldc 66, 2) := by decide +kernel
theorem dX6_ask_22 : decode cX6_ask 22 = .ok (.ireturn, 1) := by decide +kernel
theorem dX6_ask_23 : decode cX6_ask 23 = .ok (.aload_n 0, 1) := by decide +kernel
theorem dX6_ask_24 : decode cX6_ask 24 = .ok (.getfield 40, 3) := by decide +kernel
theorem dX6_ask_27 : decode cX6_ask 27 = .ok (.aload_n 0, 1) := by decide +kernel
theorem dX6_ask_28 : decode cX6_ask 28 = .ok (.getfield 47, 3) := by decide +kernel
theorem dX6_ask_31 : decode cX6_ask 31 = .ok (.iload_n 1, 1) := by decide +kernel
theorem dX6_ask_32 : decode cX6_ask 32 = .ok (.iload_n 2, 1) := by decide +kernel
theorem dX6_ask_33 : decode cX6_ask 33 = .ok (.invokevirtual 241, 3) := by decide +kernel
theorem dX6_ask_36 : decode cX6_ask 36 = .ok (.ireturn, 1) := by decide +kernel
set_option maxRecDepth 20000 in
theorem ggX6_trace_X1_traceAt : GoodIn wsX6_trace wsX1_traceAt := goodIn_r _ [6, 7, 8, 9, 19, 20] (by decide +kernel) (by decide +kernel)
set_option maxRecDepth 20000 in
theorem gX6_trace_X1_traceAt : GoodIn wsX6_trace (wsV RX6 245 RX1 yX1_traceAt wsX1_traceAt) := goodIn_app (goodIn_of _ (by decide +kernel)) ggX6_trace_X1_traceAt
theorem dX6_trace_0 : decode cX6_trace 0 = .ok (.aload_n 0, 1) := by decide +kernel
theorem dX6_trace_1 : decode cX6_trace 1 = .ok (.getfield 40, 3) := by decide +kernel
theorem dX6_trace_4 : decode cX6_trace 4 = .ok (.iload_n 1, 1) := by decide +kernel
theorem dX6_trace_5 : decode cX6_trace 5 = .ok (.invokevirtual 245, 3) := by decide +kernel
theorem dX6_trace_8 : decode cX6_trace 8 = .ok (.ireturn, 1) := by decide +kernel
set_option maxRecDepth 20000 in
theorem ggX6_count_X4_present : GoodIn wsX6_count wsX4_present := goodIn_r _ [15, 16, 17, 18, 14, 19, 20, 51, 52, 53] (by decide +kernel) (by decide +kernel)
set_option maxRecDepth 20000 in
theorem gX6_count_X4_present : GoodIn wsX6_count (wsV RX6 248 RX4 yX4_present wsX4_present) := goodIn_app (goodIn_of _ (by decide +kernel)) ggX6_count_X4_present
set_option maxRecDepth 20000 in
theorem ggX6_count_X0_kept : GoodIn wsX6_count wsX0_kept := goodIn_r _ [25, 26, 54, 55, 56, 57, 58] (by decide +kernel) (by decide +kernel)
set_option maxRecDepth 20000 in
theorem gX6_count_X0_kept : GoodIn wsX6_count (wsV RX6 161 RX0 yX0_kept wsX0_kept) := goodIn_app (goodIn_of _ (by decide +kernel)) ggX6_count_X0_kept
set_option maxRecDepth 20000 in
theorem ggX6_count_X5_size : GoodIn wsX6_count wsX5_size := goodIn_r _ [31, 32, 59, 60, 61, 62, 63] (by decide +kernel) (by decide +kernel)
set_option maxRecDepth 20000 in
theorem gX6_count_X5_size : GoodIn wsX6_count (wsV RX6 254 RX5 yX5_size wsX5_size) := goodIn_app (goodIn_of _ (by decide +kernel)) ggX6_count_X5_size
theorem dX6_count_0 : decode cX6_count 0 = .ok (.iload_n 1, 1) := by decide +kernel
theorem dX6_count_1 : decode cX6_count 1 = .ok (.tableswitch 111 0 7 #[47, 55, 63, 71, 79, 87, 95, 103], 47) := by decide +kernel
theorem dX6_count_48 : decode cX6_count 48 = .ok (.aload_n 0, 1) := by decide +kernel
theorem dX6_count_49 : decode cX6_count 49 = .ok (.getfield 10, 3) := by decide +kernel
theorem dX6_count_52 : decode cX6_count 52 = .ok (.invokevirtual 248, 3) := by decide +kernel
theorem dX6_count_55 : decode cX6_count 55 = .ok (.ireturn, 1) := by decide +kernel
theorem dX6_count_56 : decode cX6_count 56 = .ok (.aload_n 0, 1) := by decide +kernel
theorem dX6_count_57 : decode cX6_count 57 = .ok (.getfield 47, 3) := by decide +kernel
theorem dX6_count_60 : decode cX6_count 60 = .ok (.getfield 118, 3) := by decide +kernel
theorem dX6_count_63 : decode cX6_count 63 = .ok (.ireturn, 1) := by decide +kernel
theorem dX6_count_64 : decode cX6_count 64 = .ok (.aload_n 0, 1) := by decide +kernel
theorem dX6_count_65 : decode cX6_count 65 = .ok (.getfield 47, 3) := by decide +kernel
theorem dX6_count_68 : decode cX6_count 68 = .ok (.getfield 196, 3) := by decide +kernel
theorem dX6_count_71 : decode cX6_count 71 = .ok (.ireturn, 1) := by decide +kernel
theorem dX6_count_72 : decode cX6_count 72 = .ok (.aload_n 0, 1) := by decide +kernel
theorem dX6_count_73 : decode cX6_count 73 = .ok (.getfield 47, 3) := by decide +kernel
theorem dX6_count_76 : decode cX6_count 76 = .ok (.getfield 130, 3) := by decide +kernel
theorem dX6_count_79 : decode cX6_count 79 = .ok (.ireturn, 1) := by decide +kernel
theorem dX6_count_80 : decode cX6_count 80 = .ok (.aload_n 0, 1) := by decide +kernel
theorem dX6_count_81 : decode cX6_count 81 = .ok (.getfield 47, 3) := by decide +kernel
theorem dX6_count_84 : decode cX6_count 84 = .ok (.getfield 251, 3) := by decide +kernel
theorem dX6_count_87 : decode cX6_count 87 = .ok (.ireturn, 1) := by decide +kernel
theorem dX6_count_88 : decode cX6_count 88 = .ok (.aload_n 0, 1) := by decide +kernel
theorem dX6_count_89 : decode cX6_count 89 = .ok (.getfield 47, 3) := by decide +kernel
theorem dX6_count_92 : decode cX6_count 92 = .ok (.getfield 145, 3) := by decide +kernel
theorem dX6_count_95 : decode cX6_count 95 = .ok (.ireturn, 1) := by decide +kernel
theorem dX6_count_96 : decode cX6_count 96 = .ok (.aload_n 0, 1) := by decide +kernel
theorem dX6_count_97 : decode cX6_count 97 = .ok (.getfield 26, 3) := by decide +kernel
theorem dX6_count_100 : decode cX6_count 100 = .ok (.invokevirtual 161, 3) := by decide +kernel
theorem dX6_count_103 : decode cX6_count 103 = .ok (.ireturn, 1) := by decide +kernel
theorem dX6_count_104 : decode cX6_count 104 = .ok (.aload_n 0, 1) := by decide +kernel
theorem dX6_count_105 : decode cX6_count 105 = .ok (.getfield 19, 3) := by decide +kernel
theorem dX6_count_108 : decode cX6_count 108 = .ok (.invokevirtual 254, 3) := by decide +kernel
theorem dX6_count_111 : decode cX6_count 111 = .ok (.ireturn, 1) := by decide +kernel
theorem dX6_count_112 : decode cX6_count 112 = .ok (.ldc 66, 2) := by decide +kernel
theorem dX6_count_114 : decode cX6_count 114 = .ok (.ireturn, 1) := by decide +kernel
theorem dX6_status_0 : decode cX6_status 0 = .ok (.aload_n 0, 1) := by decide +kernel
theorem dX6_status_1 : decode cX6_status 1 = .ok (.getfield 257, 3) := by decide +kernel
theorem dX6_status_4 : decode cX6_status 4 = .ok (.ireturn, 1) := by decide +kernel
theorem dX6_found_0 : decode cX6_found 0 = .ok (.aload_n 0, 1) := by decide +kernel
theorem dX6_found_1 : decode cX6_found 1 = .ok (.iload_n 1, 1) := by decide +kernel
theorem dX6_found_2 : decode cX6_found 2 = .ok (.putfield 257, 3) := by decide +kernel
theorem dX6_found_5 : decode cX6_found 5 = .ok (.ldc_w 260, 3) := by decide +kernel
theorem dX6_found_8 : decode cX6_found 8 = .ok (.iload_n 1, 1) := by decide +kernel
theorem dX6_found_9 : decode cX6_found 9 = .ok (.isub, 1) := by decide +kernel
theorem dX6_found_10 : decode cX6_found 10 = .ok (.ireturn, 1) := by decide +kernel
theorem dX6_sound_0 : decode cX6_sound 0 = .ok (.aload_n 0, 1) := by decide +kernel
theorem dX6_sound_1 : decode cX6_sound 1 = .ok (.iconst 0, 1) := by decide +kernel
theorem dX6_sound_2 : decode cX6_sound 2 = .ok (.putfield 257, 3) := by decide +kernel
theorem dX6_sound_5 : decode cX6_sound 5 = .ok (.iload_n 1, 1) := by decide +kernel
theorem dX6_sound_6 : decode cX6_sound 6 = .ok (.ireturn, 1) := by decide +kernel
set_option maxRecDepth 20000 in
theorem ggX6_isAsTold_X2_leftOn : GoodIn wsX6_isAsTold wsX2_leftOn := goodIn_r _ [7, 8, 9, 10, 6, 11, 12, 13, 14, 15, 16, 17, 18, 19, 20, 21, 22, 23, 24, 25, 26, 27, 28, 29, 30, 31, 32, 33, 34, 35, 36, 37, 38, 39, 40, 41, 42, 49, 50, 51, 52, 53, 54, 55, 56, 57] (by decide +kernel) (by decide +kernel)
set_option maxRecDepth 20000 in
theorem gX6_isAsTold_X2_leftOn : GoodIn wsX6_isAsTold (wsV RX6 136 RX2 yX2_leftOn wsX2_leftOn) := goodIn_app (goodIn_of _ (by decide +kernel)) ggX6_isAsTold_X2_leftOn
set_option maxRecDepth 20000 in
theorem ggX6_isAsTold_X4_itemAt : GoodIn wsX6_isAsTold wsX4_itemAt := goodIn_r _ [47, 48, 67, 68, 69] (by decide +kernel) (by decide +kernel)
set_option maxRecDepth 20000 in
theorem gX6_isAsTold_X4_itemAt : GoodIn wsX6_isAsTold (wsV RX6 261 RX4 yX4_itemAt wsX4_itemAt) := goodIn_app (goodIn_of _ (by decide +kernel)) ggX6_isAsTold_X4_itemAt
theorem dX6_isAsTold_0 : decode cX6_isAsTold 0 = .ok (.iconst 0, 1) := by decide +kernel
theorem dX6_isAsTold_1 : decode cX6_isAsTold 1 = .ok (.istore 5, 2) := by decide +kernel
theorem dX6_isAsTold_3 : decode cX6_isAsTold 3 = .ok (.iload 5, 2) := by decide +kernel
theorem dX6_isAsTold_5 : decode cX6_isAsTold 5 = .ok (.iload 4, 2) := by decide +kernel
theorem dX6_isAsTold_7 : decode cX6_isAsTold 7 = .ok (.if_icmp .ge 37, 3) := by decide +kernel
theorem dX6_isAsTold_10 : decode cX6_isAsTold 10 = .ok (.aload_n 1, 1) := by decide +kernel
theorem dX6_isAsTold_11 : decode cX6_isAsTold 11 = .ok (.aload_n 1, 1) := by decide +kernel
theorem dX6_isAsTold_12 : decode cX6_isAsTold 12 = .ok (.getfield 130, 3) := by decide +kernel
theorem dX6_isAsTold_15 : decode cX6_isAsTold 15 = .ok (.iload 5, 2) := by decide +kernel
theorem dX6_isAsTold_17 : decode cX6_isAsTold 17 = .ok (.iadd, 1) := by decide +kernel
theorem dX6_isAsTold_18 : decode cX6_isAsTold 18 = .ok (.invokevirtual 136, 3) := by decide +kernel
theorem dX6_isAsTold_21 : decode cX6_isAsTold 21 = .ok (.aload_n 0, 1) := by decide +kernel
theorem dX6_isAsTold_22 : decode cX6_isAsTold 22 = .ok (.getfield 10, 3) := by decide +kernel
theorem dX6_isAsTold_25 : decode cX6_isAsTold 25 = .ok (.iload_n 2, 1) := by decide +kernel
theorem dX6_isAsTold_26 : decode cX6_isAsTold 26 = .ok (.iload_n 3, 1) := by decide +kernel
theorem dX6_isAsTold_27 : decode cX6_isAsTold 27 = .ok (.iload 5, 2) := by decide +kernel
theorem dX6_isAsTold_29 : decode cX6_isAsTold 29 = .ok (.iadd, 1) := by decide +kernel
theorem dX6_isAsTold_30 : decode cX6_isAsTold 30 = .ok (.invokevirtual 261, 3) := by decide +kernel
theorem dX6_isAsTold_33 : decode cX6_isAsTold 33 = .ok (.if_icmp .eq 5, 3) := by decide +kernel
theorem dX6_isAsTold_36 : decode cX6_isAsTold 36 = .ok (.iconst 0, 1) := by decide +kernel
theorem dX6_isAsTold_37 : decode cX6_isAsTold 37 = .ok (.ireturn, 1) := by decide +kernel
theorem dX6_isAsTold_38 : decode cX6_isAsTold 38 = .ok (.iinc 5 1, 3) := by decide +kernel
theorem dX6_isAsTold_41 : decode cX6_isAsTold 41 = .ok (.goto (-38), 3) := by decide +kernel
theorem dX6_isAsTold_44 : decode cX6_isAsTold 44 = .ok (.iconst 1, 1) := by decide +kernel
theorem dX6_isAsTold_45 : decode cX6_isAsTold 45 = .ok (.ireturn, 1) := by decide +kernel
set_option maxRecDepth 20000 in
theorem ggX6_tellSet_J6_bitCount_0f7a4 : GoodIn wsX6_tellSet wsJ6_bitCount_0f7a4 := goodIn_r _ [5, 6, 7, 8] (by decide +kernel) (by decide +kernel)
set_option maxRecDepth 20000 in
theorem gX6_tellSet_J6_bitCount_0f7a4 : GoodIn wsX6_tellSet (va_wsS RX6 180 yJ6_bitCount_0f7a4 wsJ6_bitCount_0f7a4) := goodIn_app (goodIn_of _ (by decide +kernel)) ggX6_tellSet_J6_bitCount_0f7a4
theorem dX6_tellSet_0 : decode cX6_tellSet 0 = .ok (.iload_n 0, 1) := by decide +kernel
theorem dX6_tellSet_1 : decode cX6_tellSet 1 = .ok (.ldc 185, 2) := by decide +kernel
theorem dX6_tellSet_3 : decode cX6_tellSet 3 = .ok (.if_icmp .ne 6, 3) := by decide +kernel
theorem dX6_tellSet_6 : decode cX6_tellSet 6 = .ok (.ldc 185, 2) := by decide +kernel
theorem dX6_tellSet_8 : decode cX6_tellSet 8 = .ok (.ireturn, 1) := by decide +kernel
theorem dX6_tellSet_9 : decode cX6_tellSet 9 = .ok (.iload_n 1, 1) := by decide +kernel
theorem dX6_tellSet_10 : decode cX6_tellSet 10 = .ok (.ifCond .ne 10, 3) := by decide +kernel
theorem dX6_tellSet_13 : decode cX6_tellSet 13 = .ok (.iload_n 0, 1) := by decide +kernel
theorem dX6_tellSet_14 : decode cX6_tellSet 14 = .ok (.invokestatic 180, 3) := by decide +kernel
theorem dX6_tellSet_17 : decode cX6_tellSet 17 = .ok (.goto 4, 3) := by decide +kernel
theorem dX6_tellSet_20 : decode cX6_tellSet 20 = .ok (.iload_n 0, 1) := by decide +kernel
theorem dX6_tellSet_21 : decode cX6_tellSet 21 = .ok (.ireturn, 1) := by decide +kernel
theorem dX6_isWithin_0 : decode cX6_isWithin 0 = .ok (.iload_n 0, 1) := by decide +kernel
theorem dX6_isWithin_1 : decode cX6_isWithin 1 = .ok (.iload_n 1, 1) := by decide +kernel
theorem dX6_isWithin_2 : decode cX6_isWithin 2 = .ok (.if_icmp .lt 12, 3) := by decide +kernel
theorem dX6_isWithin_5 : decode cX6_isWithin 5 = .ok (.iload_n 0, 1) := by decide +kernel
theorem dX6_isWithin_6 : decode cX6_isWithin 6 = .ok (.iload_n 2, 1) := by decide +kernel
theorem dX6_isWithin_7 : decode cX6_isWithin 7 = .ok (.if_icmp .gt 7, 3) := by decide +kernel
theorem dX6_isWithin_10 : decode cX6_isWithin 10 = .ok (.iconst 1, 1) := by decide +kernel
theorem dX6_isWithin_11 : decode cX6_isWithin 11 = .ok (.goto 4, 3) := by decide +kernel
theorem dX6_isWithin_14 : decode cX6_isWithin 14 = .ok (.iconst 0, 1) := by decide +kernel
theorem dX6_isWithin_15 : decode cX6_isWithin 15 = .ok (.ireturn, 1) := by decide +kernel
theorem dX6_isIn_0 : decode cX6_isIn 0 = .ok (.iload_n 0, 1) := by decide +kernel
theorem dX6_isIn_1 : decode cX6_isIn 1 = .ok (.iload_n 1, 1) := by decide +kernel
theorem dX6_isIn_2 : decode cX6_isIn 2 = .ok (.ishr, 1) := by decide +kernel
theorem dX6_isIn_3 : decode cX6_isIn 3 = .ok (.iconst 1, 1) := by decide +kernel
theorem dX6_isIn_4 : decode cX6_isIn 4 = .ok (.iand, 1) := by decide +kernel
theorem dX6_isIn_5 : decode cX6_isIn 5 = .ok (.iconst 1, 1) := by decide +kernel
theorem dX6_isIn_6 : decode cX6_isIn 6 = .ok (.if_icmp .ne 7, 3) := by decide +kernel
theorem dX6_isIn_9 : decode cX6_isIn 9 = .ok (.iconst 1, 1) := by decide +kernel
theorem dX6_isIn_10 : decode cX6_isIn 10 = .ok (.goto 4, 3) := by decide +kernel
theorem dX6_isIn_13 : decode cX6_isIn 13 = .ok (.iconst 0, 1) := by decide +kernel
theorem dX6_isIn_14 : decode cX6_isIn 14 = .ok (.ireturn, 1) := by decide +kernel
set_option maxRecDepth 20000 in
theorem ggX6_onlyOne_J6_bitCount_0f7a4 : GoodIn wsX6_onlyOne wsJ6_bitCount_0f7a4 := goodIn_r _ [5, 6, 7, 8] (by decide +kernel) (by decide +kernel)
set_option maxRecDepth 20000 in
theorem gX6_onlyOne_J6_bitCount_0f7a4 : GoodIn wsX6_onlyOne (va_wsS RX6 180 yJ6_bitCount_0f7a4 wsJ6_bitCount_0f7a4) := goodIn_app (goodIn_of _ (by decide +kernel)) ggX6_onlyOne_J6_bitCount_0f7a4
set_option maxRecDepth 20000 in
theorem ggX6_onlyOne_J6_numberOfTrailingZeros_0f7a4 : GoodIn wsX6_onlyOne wsJ6_numberOfTrailingZeros_0f7a4 := goodIn_r _ [11, 12] (by decide +kernel) (by decide +kernel)
set_option maxRecDepth 20000 in
theorem gX6_onlyOne_J6_numberOfTrailingZeros_0f7a4 : GoodIn wsX6_onlyOne (va_wsS RX6 264 yJ6_numberOfTrailingZeros_0f7a4 wsJ6_numberOfTrailingZeros_0f7a4) := goodIn_app (goodIn_of _ (by decide +kernel)) ggX6_onlyOne_J6_numberOfTrailingZeros_0f7a4
theorem dX6_onlyOne_0 : decode cX6_onlyOne 0 = .ok (.iload_n 0, 1) := by decide +kernel
theorem dX6_onlyOne_1 : decode cX6_onlyOne 1 = .ok (.invokestatic 180, 3) := by decide +kernel
theorem dX6_onlyOne_4 : decode cX6_onlyOne 4 = .ok (.iconst 1, 1) := by decide +kernel
theorem dX6_onlyOne_5 : decode cX6_onlyOne 5 = .ok (.if_icmp .ne 10, 3) := by decide +kernel
theorem dX6_onlyOne_8 : decode cX6_onlyOne 8 = .ok (.iload_n 0, 1) := by decide +kernel
theorem dX6_onlyOne_9 : decode cX6_onlyOne 9 = .ok (.invokestatic 264, 3) := by decide +kernel
theorem dX6_onlyOne_12 : decode cX6_onlyOne 12 = .ok (.goto 5, 3) := by decide +kernel
theorem dX6_onlyOne_15 : decode cX6_onlyOne 15 = .ok (.ldc 185, 2) := by decide +kernel
theorem dX6_onlyOne_17 : decode cX6_onlyOne 17 = .ok (.ireturn, 1) := by decide +kernel
theorem dX6_power_0 : decode cX6_power 0 = .ok (.iconst 1, 1) := by decide +kernel
theorem dX6_power_1 : decode cX6_power 1 = .ok (.istore_n 2, 1) := by decide +kernel
theorem dX6_power_2 : decode cX6_power 2 = .ok (.iconst 0, 1) := by decide +kernel
theorem dX6_power_3 : decode cX6_power 3 = .ok (.istore_n 3, 1) := by decide +kernel
theorem dX6_power_4 : decode cX6_power 4 = .ok (.iload_n 3, 1) := by decide +kernel
theorem dX6_power_5 : decode cX6_power 5 = .ok (.iload_n 1, 1) := by decide +kernel
theorem dX6_power_6 : decode cX6_power 6 = .ok (.if_icmp .ge 13, 3) := by decide +kernel
theorem dX6_power_9 : decode cX6_power 9 = .ok (.iload_n 2, 1) := by decide +kernel
theorem dX6_power_10 : decode cX6_power 10 = .ok (.iload_n 0, 1) := by decide +kernel
theorem dX6_power_11 : decode cX6_power 11 = .ok (.imul, 1) := by decide +kernel
theorem dX6_power_12 : decode cX6_power 12 = .ok (.istore_n 2, 1) := by decide +kernel
theorem dX6_power_13 : decode cX6_power 13 = .ok (.iinc 3 1, 3) := by decide +kernel
theorem dX6_power_16 : decode cX6_power 16 = .ok (.goto (-12), 3) := by decide +kernel
theorem dX6_power_19 : decode cX6_power 19 = .ok (.iload_n 2, 1) := by decide +kernel
theorem dX6_power_20 : decode cX6_power 20 = .ok (.ireturn, 1) := by decide +kernel
theorem dX6_greatestDivisor_0 : decode cX6_greatestDivisor 0 = .ok (.iload_n 0, 1) := by decide +kernel
theorem dX6_greatestDivisor_1 : decode cX6_greatestDivisor 1 = .ok (.istore_n 2, 1) := by decide +kernel
theorem dX6_greatestDivisor_2 : decode cX6_greatestDivisor 2 = .ok (.iload_n 1, 1) := by decide +kernel
theorem dX6_greatestDivisor_3 : decode cX6_greatestDivisor 3 = .ok (.istore_n 3, 1) := by decide +kernel
theorem dX6_greatestDivisor_4 : decode cX6_greatestDivisor 4 = .ok (.iconst 0, 1) := by decide +kernel
theorem dX6_greatestDivisor_5 : decode cX6_greatestDivisor 5 = .ok (.istore 4, 2) := by decide +kernel
theorem dX6_greatestDivisor_7 : decode cX6_greatestDivisor 7 = .ok (.iload 4, 2) := by decide +kernel
theorem dX6_greatestDivisor_9 : decode cX6_greatestDivisor 9 = .ok (.bipush 100, 2) := by decide +kernel
theorem dX6_greatestDivisor_11 : decode cX6_greatestDivisor 11 = .ok (.if_icmp .ge 23, 3) := by decide +kernel
theorem dX6_greatestDivisor_14 : decode cX6_greatestDivisor 14 = .ok (.iload_n 3, 1) := by decide +kernel
theorem dX6_greatestDivisor_15 : decode cX6_greatestDivisor 15 = .ok (.ifCond .eq 19, 3) := by decide +kernel
theorem dX6_greatestDivisor_18 : decode cX6_greatestDivisor 18 = .ok (.iload_n 2, 1) := by decide +kernel
theorem dX6_greatestDivisor_19 : decode cX6_greatestDivisor 19 = .ok (.iload_n 3, 1) := by decide +kernel
theorem dX6_greatestDivisor_20 : decode cX6_greatestDivisor 20 = .ok (.irem, 1) := by decide +kernel
theorem dX6_greatestDivisor_21 : decode cX6_greatestDivisor 21 = .ok (.istore 5, 2) := by decide +kernel
theorem dX6_greatestDivisor_23 : decode cX6_greatestDivisor 23 = .ok (.iload_n 3, 1) := by decide +kernel
theorem dX6_greatestDivisor_24 : decode cX6_greatestDivisor 24 = .ok (.istore_n 2, 1) := by decide +kernel
theorem dX6_greatestDivisor_25 : decode cX6_greatestDivisor 25 = .ok (.iload 5, 2) := by decide +kernel
theorem dX6_greatestDivisor_27 : decode cX6_greatestDivisor 27 = .ok (.istore_n 3, 1) := by decide +kernel
theorem dX6_greatestDivisor_28 : decode cX6_greatestDivisor 28 = .ok (.iinc 4 1, 3) := by decide +kernel
theorem dX6_greatestDivisor_31 : decode cX6_greatestDivisor 31 = .ok (.goto (-24), 3) := by decide +kernel
theorem dX6_greatestDivisor_34 : decode cX6_greatestDivisor 34 = .ok (.iload_n 2, 1) := by decide +kernel
theorem dX6_greatestDivisor_35 : decode cX6_greatestDivisor 35 = .ok (.ireturn, 1) := by decide +kernel
theorem dX7_init_0 : decode cX7_init 0 = .ok (.aload_n 0, 1) := by decide +kernel
theorem dX7_init_1 : decode cX7_init 1 = .ok (.invokespecial 1, 3) := by decide +kernel
theorem dX7_init_4 : decode cX7_init 4 = .ok (.aload_n 0, 1) := by decide +kernel
theorem dX7_init_5 : decode cX7_init 5 = .ok (.bipush 8, 2) := by decide +kernel
theorem dX7_init_7 : decode cX7_init 7 = .ok (.newarray .int, 2) := by decide +kernel
theorem dX7_init_9 : decode cX7_init 9 = .ok (.putfield 7, 3) := by decide +kernel
theorem dX7_init_12 : decode cX7_init 12 = .ok (.aload_n 0, 1) := by decide +kernel
theorem dX7_init_13 : decode cX7_init 13 = .ok (.bipush 8, 2) := by decide +kernel
theorem dX7_init_15 : decode cX7_init 15 = .ok (.newarray .int, 2) := by decide +kernel
theorem dX7_init_17 : decode cX7_init 17 = .ok (.putfield 13, 3) := by decide +kernel
theorem dX7_init_20 : decode cX7_init 20 = .ok (.aload_n 0, 1) := by decide +kernel
theorem dX7_init_21 : decode cX7_init 21 = .ok (.sipush 320, 3) := by decide +kernel
theorem dX7_init_24 : decode cX7_init 24 = .ok (.newarray .int, 2) := by decide +kernel
theorem dX7_init_26 : decode cX7_init 26 = .ok (.putfield 16, 3) := by decide +kernel
theorem dX7_init_29 : decode cX7_init 29 = .ok (.aload_n 0, 1) := by decide +kernel
theorem dX7_init_30 : decode cX7_init 30 = .ok (.bipush 40, 2) := by decide +kernel
theorem dX7_init_32 : decode cX7_init 32 = .ok (.newarray .int, 2) := by decide +kernel
theorem dX7_init_34 : decode cX7_init 34 = .ok (.putfield 19, 3) := by decide +kernel
theorem dX7_init_37 : decode cX7_init 37 = .ok (.aload_n 0, 1) := by decide +kernel
theorem dX7_init_38 : decode cX7_init 38 = .ok (.bipush 100, 2) := by decide +kernel
theorem dX7_init_40 : decode cX7_init 40 = .ok (.newarray .int, 2) := by decide +kernel
theorem dX7_init_42 : decode cX7_init 42 = .ok (.putfield 22, 3) := by decide +kernel
theorem dX7_init_45 : decode cX7_init 45 = .ok (.aload_n 0, 1) := by decide +kernel
theorem dX7_init_46 : decode cX7_init 46 = .ok (.bipush 29, 2) := by decide +kernel
theorem dX7_init_48 : decode cX7_init 48 = .ok (.newarray .int, 2) := by decide +kernel
theorem dX7_init_50 : decode cX7_init 50 = .ok (.putfield 25, 3) := by decide +kernel
theorem dX7_init_53 : decode cX7_init 53 = .ok (.aload_n 0, 1) := by decide +kernel
theorem dX7_init_54 : decode cX7_init 54 = .ok (.bipush 29, 2) := by decide +kernel
theorem dX7_init_56 : decode cX7_init 56 = .ok (.newarray .int, 2) := by decide +kernel
theorem dX7_init_58 : decode cX7_init 58 = .ok (.putfield 28, 3) := by decide +kernel
theorem dX7_init_61 : decode cX7_init 61 = .ok (.aload_n 0, 1) := by decide +kernel
theorem dX7_init_62 : decode cX7_init 62 = .ok (.bipush 29, 2) := by decide +kernel
theorem dX7_init_64 : decode cX7_init 64 = .ok (.newarray .int, 2) := by decide +kernel
theorem dX7_init_66 : decode cX7_init 66 = .ok (.putfield 31, 3) := by decide +kernel
theorem dX7_init_69 : decode cX7_init 69 = .ok (.aload_n 0, 1) := by decide +kernel
theorem dX7_init_70 : decode cX7_init 70 = .ok (.sipush 696, 3) := by decide +kernel
theorem dX7_init_73 : decode cX7_init 73 = .ok (.newarray .int, 2) := by decide +kernel
theorem dX7_init_75 : decode cX7_init 75 = .ok (.putfield 34, 3) := by decide +kernel
theorem dX7_init_78 : decode cX7_init 78 = .ok (.aload_n 0, 1) := by decide +kernel
theorem dX7_init_79 : decode cX7_init 79 = .ok (.bipush 58, 2) := by decide +kernel
theorem dX7_init_81 : decode cX7_init 81 = .ok (.newarray .int, 2) := by decide +kernel
theorem dX7_init_83 : decode cX7_init 83 = .ok (.putfield 37, 3) := by decide +kernel
theorem dX7_init_86 : decode cX7_init 86 = .ok (.aload_n 0, 1) := by decide +kernel
theorem dX7_init_87 : decode cX7_init 87 = .ok (.iconst 2, 1) := by decide +kernel
theorem dX7_init_88 : decode cX7_init 88 = .ok (.newarray .boolean, 2) := by decide +kernel
theorem dX7_init_90 : decode cX7_init 90 = .ok (.putfield 40, 3) := by decide +kernel
theorem dX7_init_93 : decode cX7_init 93 = .ok (.aload_n 0, 1) := by decide +kernel
theorem dX7_init_94 : decode cX7_init 94 = .ok (.bipush 6, 2) := by decide +kernel
theorem dX7_init_96 : decode cX7_init 96 = .ok (.newarray .int, 2) := by decide +kernel
theorem dX7_init_98 : decode cX7_init 98 = .ok (.putfield 44, 3) := by decide +kernel
theorem dX7_init_101 : decode cX7_init 101 = .ok (.aload_n 0, 1) := by decide +kernel
theorem dX7_init_102 : decode cX7_init 102 = .ok (.bipush 16, 2) := by decide +kernel
theorem dX7_init_104 : decode cX7_init 104 = .ok (.newarray .int, 2) := by decide +kernel
theorem dX7_init_106 : decode cX7_init 106 = .ok (.putfield 47, 3) := by decide +kernel
theorem dX7_init_109 : decode cX7_init 109 = .ok (.iconst 0, 1) := by decide +kernel
theorem dX7_init_110 : decode cX7_init 110 = .ok (.istore_n 1, 1) := by decide +kernel
theorem dX7_init_111 : decode cX7_init 111 = .ok (.iload_n 1, 1) := by decide +kernel
theorem dX7_init_112 : decode cX7_init 112 = .ok (.bipush 8, 2) := by decide +kernel
theorem dX7_init_114 : decode cX7_init 114 = .ok (.if_icmp .ge 17, 3) := by decide +kernel
theorem dX7_init_117 : decode cX7_init 117 = .ok (.aload_n 0, 1) := by decide +kernel
theorem dX7_init_118 : decode cX7_init 118 = .ok (.getfield 7, 3) := by decide +kernel
theorem dX7_init_121 : decode cX7_init 121 = .ok (.iload_n 1, 1) := by decide +kernel
theorem dX7_init_122 : decode cX7_init 122 = .ok (.ldc 50, 2) := by decide +kernel
theorem dX7_init_124 : decode cX7_init 124 = .ok (.iastore, 1) := by decide +kernel
theorem dX7_init_125 : decode cX7_init 125 = .ok (.iinc 1 1, 3) := by decide +kernel
theorem dX7_init_128 : decode cX7_init 128 = .ok (.goto (-17), 3) := by decide +kernel
theorem dX7_init_131 : decode cX7_init 131 = .ok (.return_, 1) := by decide +kernel
theorem dX7_in_0 : decode cX7_in 0 = .ok (.iload_n 0, 1) := by decide +kernel
theorem dX7_in_1 : decode cX7_in 1 = .ok (.iload_n 1, 1) := by decide +kernel
theorem dX7_in_2 : decode cX7_in 2 = .ok (.if_icmp .lt 12, 3) := by decide +kernel
theorem dX7_in_5 : decode cX7_in 5 = .ok (.iload_n 0, 1) := by decide +kernel
theorem dX7_in_6 : decode cX7_in 6 = .ok (.iload_n 2, 1) := by decide +kernel
theorem dX7_in_7 : decode cX7_in 7 = .ok (.if_icmp .gt 7, 3) := by decide +kernel
theorem dX7_in_10 : decode cX7_in 10 = .ok (.iconst 1, 1) := by decide +kernel
theorem dX7_in_11 : decode cX7_in 11 = .ok (.goto 4, 3) := by decide +kernel
theorem dX7_in_14 : decode cX7_in 14 = .ok (.iconst 0, 1) := by decide +kernel
theorem dX7_in_15 : decode cX7_in 15 = .ok (.ireturn, 1) := by decide +kernel
theorem dX7_has_0 : decode cX7_has 0 = .ok (.iload_n 0, 1) := by decide +kernel
theorem dX7_has_1 : decode cX7_has 1 = .ok (.iload_n 1, 1) := by decide +kernel
theorem dX7_has_2 : decode cX7_has 2 = .ok (.ishr, 1) := by decide +kernel
theorem dX7_has_3 : decode cX7_has 3 = .ok (.iconst 1, 1) := by decide +kernel
theorem dX7_has_4 : decode cX7_has 4 = .ok (.iand, 1) := by decide +kernel
theorem dX7_has_5 : decode cX7_has 5 = .ok (.iconst 1, 1) := by decide +kernel
theorem dX7_has_6 : decode cX7_has 6 = .ok (.if_icmp .ne 7, 3) := by decide +kernel
theorem dX7_has_9 : decode cX7_has 9 = .ok (.iconst 1, 1) := by decide +kernel
theorem dX7_has_10 : decode cX7_has 10 = .ok (.goto 4, 3) := by decide +kernel
theorem dX7_has_13 : decode cX7_has 13 = .ok (.iconst 0, 1) := by decide +kernel
theorem dX7_has_14 : decode cX7_has 14 = .ok (.ireturn, 1) := by decide +kernel
theorem dX7_ones_0 : decode cX7_ones 0 = .ok (.iconst 0, 1) := by decide +kernel
theorem dX7_ones_1 : decode cX7_ones 1 = .ok (.istore_n 1, 1) := by decide +kernel
theorem dX7_ones_2 : decode cX7_ones 2 = .ok (.iconst 0, 1) := by decide +kernel
theorem dX7_ones_3 : decode cX7_ones 3 = .ok (.istore_n 2, 1) := by decide +kernel
theorem dX7_ones_4 : decode cX7_ones 4 = .ok (.iload_n 2, 1) := by decide +kernel
theorem dX7_ones_5 : decode cX7_ones 5 = .ok (.bipush 8, 2) := by decide +kernel
theorem dX7_ones_7 : decode cX7_ones 7 = .ok (.if_icmp .ge 17, 3) := by decide +kernel
theorem dX7_ones_10 : decode cX7_ones 10 = .ok (.iload_n 1, 1) := by decide +kernel
theorem dX7_ones_11 : decode cX7_ones 11 = .ok (.iload_n 0, 1) := by decide +kernel
theorem dX7_ones_12 : decode cX7_ones 12 = .ok (.iload_n 2, 1) := by decide +kernel
theorem dX7_ones_13 : decode cX7_ones 13 = .ok (.ishr, 1) := by decide +kernel
theorem dX7_ones_14 : decode cX7_ones 14 = .ok (.iconst 1, 1) := by decide +kernel
theorem dX7_ones_15 : decode cX7_ones 15 = .ok (.iand, 1) := by decide +kernel
theorem dX7_ones_16 : decode cX7_ones 16 = .ok (.iadd, 1) := by decide +kernel
theorem dX7_ones_17 : decode cX7_ones 17 = .ok (.istore_n 1, 1) := by decide +kernel
theorem dX7_ones_18 : decode cX7_ones 18 = .ok (.iinc 2 1, 3) := by decide +kernel
theorem dX7_ones_21 : decode cX7_ones 21 = .ok (.goto (-17), 3) := by decide +kernel
theorem dX7_ones_24 : decode cX7_ones 24 = .ok (.iload_n 1, 1) := by decide +kernel
theorem dX7_ones_25 : decode cX7_ones 25 = .ok (.ireturn, 1) := by decide +kernel
theorem dX7_found_0 : decode cX7_found 0 = .ok (.aload_n 0, 1) := by decide +kernel
theorem dX7_found_1 : decode cX7_found 1 = .ok (.iload_n 1, 1) := by decide +kernel
theorem dX7_found_2 : decode cX7_found 2 = .ok (.putfield 51, 3) := by decide +kernel
theorem dX7_found_5 : decode cX7_found 5 = .ok (.ldc 55, 2) := by decide +kernel
theorem dX7_found_7 : decode cX7_found 7 = .ok (.iload_n 1, 1) := by decide +kernel
theorem dX7_found_8 : decode cX7_found 8 = .ok (.isub, 1) := by decide +kernel
theorem dX7_found_9 : decode cX7_found 9 = .ok (.ireturn, 1) := by decide +kernel
theorem dX7_well_0 : decode cX7_well 0 = .ok (.aload_n 0, 1) := by decide +kernel
theorem dX7_well_1 : decode cX7_well 1 = .ok (.iconst 0, 1) := by decide +kernel
theorem dX7_well_2 : decode cX7_well 2 = .ok (.putfield 51, 3) := by decide +kernel
theorem dX7_well_5 : decode cX7_well 5 = .ok (.iload_n 1, 1) := by decide +kernel
theorem dX7_well_6 : decode cX7_well 6 = .ok (.ireturn, 1) := by decide +kernel
theorem dX7_copies_0 : decode cX7_copies 0 = .ok (.iconst 0, 1) := by decide +kernel
theorem dX7_copies_1 : decode cX7_copies 1 = .ok (.istore 4, 2) := by decide +kernel
theorem dX7_copies_3 : decode cX7_copies 3 = .ok (.iload 4, 2) := by decide +kernel
theorem dX7_copies_5 : decode cX7_copies 5 = .ok (.bipush 29, 2) := by decide +kernel
theorem dX7_copies_7 : decode cX7_copies 7 = .ok (.if_icmp .ge 21, 3) := by decide +kernel
theorem dX7_copies_10 : decode cX7_copies 10 = .ok (.aload_n 2, 1) := by decide +kernel
theorem dX7_copies_11 : decode cX7_copies 11 = .ok (.iload_n 3, 1) := by decide +kernel
theorem dX7_copies_12 : decode cX7_copies 12 = .ok (.iload 4, 2) := by decide +kernel
theorem dX7_copies_14 : decode cX7_copies 14 = .ok (.iadd, 1) := by decide +kernel
theorem dX7_copies_15 : decode cX7_copies 15 = .ok (.aload_n 0, 1) := by decide +kernel
theorem dX7_copies_16 : decode cX7_copies 16 = .ok (.iload_n 1, 1) := by decide +kernel
theorem dX7_copies_17 : decode cX7_copies 17 = .ok (.iload 4, 2) := by decide +kernel
theorem dX7_copies_19 : decode cX7_copies 19 = .ok (.iadd, 1) := by decide +kernel
theorem dX7_copies_20 : decode cX7_copies 20 = .ok (.iaload, 1) := by decide +kernel
theorem dX7_copies_21 : decode cX7_copies 21 = .ok (.iastore, 1) := by decide +kernel
theorem dX7_copies_22 : decode cX7_copies 22 = .ok (.iinc 4 1, 3) := by decide +kernel
theorem dX7_copies_25 : decode cX7_copies 25 = .ok (.goto (-22), 3) := by decide +kernel
theorem dX7_copies_28 : decode cX7_copies 28 = .ok (.return_, 1) := by decide +kernel
set_option maxRecDepth 20000 in
theorem ggX7_isRow_X7_in : GoodIn wsX7_isRow wsX7_in := goodIn_r _ [4] (by decide +kernel) (by decide +kernel)
set_option maxRecDepth 20000 in
theorem gX7_isRow_X7_in : GoodIn wsX7_isRow (va_wsS RX7 56 yX7_in wsX7_in) := goodIn_app (goodIn_of _ (by decide +kernel)) ggX7_isRow_X7_in
theorem dX7_isRow_0 : decode cX7_isRow 0 = .ok (.iload_n 0, 1) := by decide +kernel
theorem dX7_isRow_1 : decode cX7_isRow 1 = .ok (.iconst 0, 1) := by decide +kernel
theorem dX7_isRow_2 : decode cX7_isRow 2 = .ok (.bipush 7, 2) := by decide +kernel
theorem dX7_isRow_4 : decode cX7_isRow 4 = .ok (.invokestatic 56, 3) := by decide +kernel
theorem dX7_isRow_7 : decode cX7_isRow 7 = .ok (.ireturn, 1) := by decide +kernel
theorem dX7_isMissing_0 : decode cX7_isMissing 0 = .ok (.aload_n 0, 1) := by decide +kernel
theorem dX7_isMissing_1 : decode cX7_isMissing 1 = .ok (.getfield 7, 3) := by decide +kernel
theorem dX7_isMissing_4 : decode cX7_isMissing 4 = .ok (.iload_n 1, 1) := by decide +kernel
theorem dX7_isMissing_5 : decode cX7_isMissing 5 = .ok (.iaload, 1) := by decide +kernel
theorem dX7_isMissing_6 : decode cX7_isMissing 6 = .ok (.ldc 50, 2) := by decide +kernel
theorem dX7_isMissing_8 : decode cX7_isMissing 8 = .ok (.if_icmp .ne 7, 3) := by decide +kernel
theorem dX7_isMissing_11 : decode cX7_isMissing 11 = .ok (.iconst 1, 1) := by decide +kernel
theorem dX7_isMissing_12 : decode cX7_isMissing 12 = .ok (.goto 4, 3) := by decide +kernel
theorem dX7_isMissing_15 : decode cX7_isMissing 15 = .ok (.iconst 0, 1) := by decide +kernel
theorem dX7_isMissing_16 : decode cX7_isMissing 16 = .ok (.ireturn, 1) := by decide +kernel
theorem dX7_cut_0 : decode cX7_cut 0 = .ok (.iload_n 0, 1) := by decide +kernel
theorem dX7_cut_1 : decode cX7_cut 1 = .ok (.ifCond .ne 13, 3) := by decide +kernel
theorem dX7_cut_4 : decode cX7_cut 4 = .ok (.iload_n 1, 1) := by decide +kernel
theorem dX7_cut_5 : decode cX7_cut 5 = .ok (.bipush 24, 2) := by decide +kernel
theorem dX7_cut_7 : decode cX7_cut 7 = .ok (.ishl, 1) := by decide +kernel
theorem dX7_cut_8 : decode cX7_cut 8 = .ok (.bipush 24, 2) := by decide +kernel
theorem dX7_cut_10 : decode cX7_cut 10 = .ok (.ishr, 1) := by decide +kernel
theorem dX7_cut_11 : decode cX7_cut 11 = .ok (.goto 19, 3) := by decide +kernel
theorem dX7_cut_14 : decode cX7_cut 14 = .ok (.iload_n 0, 1) := by decide +kernel
theorem dX7_cut_15 : decode cX7_cut 15 = .ok (.iconst 1, 1) := by decide +kernel
theorem dX7_cut_16 : decode cX7_cut 16 = .ok (.if_icmp .ne 13, 3) := by decide +kernel
theorem dX7_cut_19 : decode cX7_cut 19 = .ok (.iload_n 1, 1) := by decide +kernel
theorem dX7_cut_20 : decode cX7_cut 20 = .ok (.bipush 16, 2) := by decide +kernel
theorem dX7_cut_22 : decode cX7_cut 22 = .ok (.ishl, 1) := by decide +kernel
theorem dX7_cut_23 : decode cX7_cut 23 = .ok (.bipush 16, 2) := by decide +kernel
theorem dX7_cut_25 : decode cX7_cut 25 = .ok (.ishr, 1) := by decide +kernel
theorem dX7_cut_26 : decode cX7_cut 26 = .ok (.goto 4, 3) := by decide +kernel
theorem dX7_cut_29 : decode cX7_cut 29 = .ok (.iload_n 1, 1) := by decide +kernel
theorem dX7_cut_30 : decode cX7_cut 30 = .ok (.ireturn, 1) := by decide +kernel
set_option maxRecDepth 20000 in
theorem ggX7_row_X7_isRow : GoodIn wsX7_row wsX7_isRow := goodIn_r _ [8, 9, 10, 7, 11] (by decide +kernel) (by decide +kernel)
set_option maxRecDepth 20000 in
theorem gX7_row_X7_isRow : GoodIn wsX7_row (va_wsS RX7 60 yX7_isRow wsX7_isRow) := goodIn_app (goodIn_of _ (by decide +kernel)) ggX7_row_X7_isRow
set_option maxRecDepth 20000 in
theorem ggX7_row_X7_in : GoodIn wsX7_row wsX7_in := goodIn_r _ [11] (by decide +kernel) (by decide +kernel)
set_option maxRecDepth 20000 in
theorem gX7_row_X7_in : GoodIn wsX7_row (va_wsS RX7 56 yX7_in wsX7_in) := goodIn_app (goodIn_of _ (by decide +kernel)) ggX7_row_X7_in
set_option maxRecDepth 20000 in
theorem ggX7_row_X7_found : GoodIn wsX7_row wsX7_found := goodIn_r _ [15, 16, 17, 22, 23, 24, 25, 26, 27, 28, 29, 30, 31, 32, 33, 34, 35, 36, 37, 38, 39, 40, 41, 42, 43, 44] (by decide +kernel) (by decide +kernel)
set_option maxRecDepth 20000 in
theorem gX7_row_X7_found : GoodIn wsX7_row (wsV RX7 65 RX7 yX7_found wsX7_found) := goodIn_app (goodIn_of _ (by decide +kernel)) ggX7_row_X7_found
set_option maxRecDepth 20000 in
theorem ggX7_row_X7_well : GoodIn wsX7_row wsX7_well := goodIn_r _ [21, 16, 22, 23, 24, 25, 26, 27, 28, 29, 30, 31, 32, 33, 34, 35, 36, 37, 38, 39, 40, 41, 42, 43, 44] (by decide +kernel) (by decide +kernel)
set_option maxRecDepth 20000 in
theorem gX7_row_X7_well : GoodIn wsX7_row (wsV RX7 69 RX7 yX7_well wsX7_well) := goodIn_app (goodIn_of _ (by decide +kernel)) ggX7_row_X7_well
theorem dX7_row_0 : decode cX7_row 0 = .ok (.iload_n 1, 1) := by decide +kernel
theorem dX7_row_1 : decode cX7_row 1 = .ok (.invokestatic 60, 3) := by decide +kernel
theorem dX7_row_4 : decode cX7_row 4 = .ok (.ifCond .eq 18, 3) := by decide +kernel
theorem dX7_row_7 : decode cX7_row 7 = .ok (.iload_n 2, 1) := by decide +kernel
theorem dX7_row_8 : decode cX7_row 8 = .ok (.iconst 0, 1) := by decide +kernel
theorem dX7_row_9 : decode cX7_row 9 = .ok (.iconst 2, 1) := by decide +kernel
theorem dX7_row_10 : decode cX7_row 10 = .ok (.invokestatic 56, 3) := by decide +kernel
theorem dX7_row_13 : decode cX7_row 13 = .ok (.ifCond .eq 9, 3) := by decide +kernel
theorem dX7_row_16 : decode cX7_row 16 = .ok (.iload_n 3, 1) := by decide +kernel
theorem dX7_row_17 : decode cX7_row 17 = .ok (.bipush 40, 2) := by decide +kernel
theorem dX7_row_19 : decode cX7_row 19 = .ok (.if_icmp .le 6, 3) := by decide +kernel
theorem dX7_row_22 : decode cX7_row 22 = .ok (.ldc 64, 2) := by decide +kernel
theorem dX7_row_24 : decode cX7_row 24 = .ok (.ireturn, 1) := by decide +kernel
theorem dX7_row_25 : decode cX7_row 25 = .ok (.iload_n 3, 1) := by decide +kernel
theorem dX7_row_26 : decode cX7_row 26 = .ok (.ifCond .ge 9, 3) := by decide +kernel
theorem dX7_row_29 : decode cX7_row 29 = .ok (.aload_n 0, 1) := by decide +kernel
theorem dX7_row_30 : decode cX7_row 30 = .ok (.iconst 4, 1) := by decide +kernel
theorem dX7_row_31 : decode cX7_row 31 = .ok (.invokevirtual 65, 3) := by decide +kernel
theorem dX7_row_34 : decode cX7_row 34 = .ok (.ireturn, 1) := by decide +kernel
theorem dX7_row_35 : decode cX7_row 35 = .ok (.aload_n 0, 1) := by decide +kernel
theorem dX7_row_36 : decode cX7_row 36 = .ok (.getfield 7, 3) := by decide +kernel
theorem dX7_row_39 : decode cX7_row 39 = .ok (.iload_n 1, 1) := by decide +kernel
theorem dX7_row_40 : decode cX7_row 40 = .ok (.iload_n 2, 1) := by decide +kernel
theorem dX7_row_41 : decode cX7_row 41 = .ok (.iastore, 1) := by decide +kernel
theorem dX7_row_42 : decode cX7_row 42 = .ok (.aload_n 0, 1) := by decide +kernel
theorem dX7_row_43 : decode cX7_row 43 = .ok (.getfield 13, 3) := by decide +kernel
theorem dX7_row_46 : decode cX7_row 46 = .ok (.iload_n 1, 1) := by decide +kernel
theorem dX7_row_47 : decode cX7_row 47 = .ok (.iload_n 3, 1) := by decide +kernel
theorem dX7_row_48 : decode cX7_row 48 = .ok (.iastore, 1) := by decide +kernel
theorem dX7_row_49 : decode cX7_row 49 = .ok (.iconst 0, 1) := by decide +kernel
theorem dX7_row_50 : decode cX7_row 50 = .ok (.istore 4, 2) := by decide +kernel
theorem dX7_row_52 : decode cX7_row 52 = .ok (.iload 4, 2) := by decide +kernel
theorem dX7_row_54 : decode cX7_row 54 = .ok (.bipush 40, 2) := by decide +kernel
theorem dX7_row_56 : decode cX7_row 56 = .ok (.if_icmp .ge 22, 3) := by decide +kernel
theorem dX7_row_59 : decode cX7_row 59 = .ok (.aload_n 0, 1) := by decide +kernel
theorem dX7_row_60 : decode cX7_row 60 = .ok (.getfield 16, 3) := by decide +kernel
theorem dX7_row_63 : decode cX7_row 63 = .ok (.bipush 40, 2) := by decide +kernel
theorem dX7_row_65 : decode cX7_row 65 = .ok (.iload_n 1, 1) := by decide +kernel
theorem dX7_row_66 : decode cX7_row 66 = .ok (.imul, 1) := by decide +kernel
theorem dX7_row_67 : decode cX7_row 67 = .ok (.iload 4, 2) := by decide +kernel
theorem dX7_row_69 : decode cX7_row 69 = .ok (.iadd, 1) := by decide +kernel
theorem dX7_row_70 : decode cX7_row 70 = .ok (.iconst 0, 1) := by decide +kernel
theorem dX7_row_71 : decode cX7_row 71 = .ok (.iastore, 1) := by decide +kernel
theorem dX7_row_72 : decode cX7_row 72 = .ok (.iinc 4 1, 3) := by decide +kernel
theorem dX7_row_75 : decode cX7_row 75 = .ok (.goto (-23), 3) := by decide +kernel
theorem dX7_row_78 : decode cX7_row 78 = .ok (.aload_n 0, 1) := by decide +kernel
theorem dX7_row_79 : decode cX7_row 79 = .ok (.iload_n 3, 1) := by decide +kernel
theorem dX7_row_80 : decode cX7_row 80 = .ok (.invokevirtual 69, 3) := by decide +kernel
theorem dX7_row_83 : decode cX7_row 83 = .ok (.ireturn, 1) := by decide +kernel
set_option maxRecDepth 20000 in
theorem ggX7_set_X7_isRow : GoodIn wsX7_set wsX7_isRow := goodIn_r _ [8, 9, 10, 7, 11] (by decide +kernel) (by decide +kernel)
set_option maxRecDepth 20000 in
theorem gX7_set_X7_isRow : GoodIn wsX7_set (va_wsS RX7 60 yX7_isRow wsX7_isRow) := goodIn_app (goodIn_of _ (by decide +kernel)) ggX7_set_X7_isRow
set_option maxRecDepth 20000 in
theorem ggX7_set_X7_isMissing : GoodIn wsX7_set wsX7_isMissing := goodIn_r _ [15, 4, 16, 30, 31, 32, 33, 34, 35, 36, 37, 38, 39, 40, 41, 42, 43, 44, 45, 46, 47, 48, 49, 50, 51, 52] (by decide +kernel) (by decide +kernel)
set_option maxRecDepth 20000 in
theorem gX7_set_X7_isMissing : GoodIn wsX7_set (wsV RX7 72 RX7 yX7_isMissing wsX7_isMissing) := goodIn_app (goodIn_of _ (by decide +kernel)) ggX7_set_X7_isMissing
set_option maxRecDepth 20000 in
theorem ggX7_set_X7_found : GoodIn wsX7_set wsX7_found := goodIn_r _ [20, 21, 22, 30, 31, 32, 33, 34, 35, 36, 37, 38, 39, 40, 41, 42, 43, 44, 45, 46, 47, 48, 49, 50, 51, 52] (by decide +kernel) (by decide +kernel)
set_option maxRecDepth 20000 in
theorem gX7_set_X7_found : GoodIn wsX7_set (wsV RX7 65 RX7 yX7_found wsX7_found) := goodIn_app (goodIn_of _ (by decide +kernel)) ggX7_set_X7_found
set_option maxRecDepth 20000 in
theorem ggX7_set_X7_in : GoodIn wsX7_set wsX7_in := goodIn_r _ [11] (by decide +kernel) (by decide +kernel)
set_option maxRecDepth 20000 in
theorem gX7_set_X7_in : GoodIn wsX7_set (va_wsS RX7 56 yX7_in wsX7_in) := goodIn_app (goodIn_of _ (by decide +kernel)) ggX7_set_X7_in
set_option maxRecDepth 20000 in
theorem ggX7_set_X7_cut : GoodIn wsX7_set wsX7_cut := goodIn_r _ [25] (by decide +kernel) (by decide +kernel)
set_option maxRecDepth 20000 in
theorem gX7_set_X7_cut : GoodIn wsX7_set (va_wsS RX7 75 yX7_cut wsX7_cut) := goodIn_app (goodIn_of _ (by decide +kernel)) ggX7_set_X7_cut
set_option maxRecDepth 20000 in
theorem ggX7_set_X7_well : GoodIn wsX7_set wsX7_well := goodIn_r _ [29, 21, 30, 31, 32, 33, 34, 35, 36, 37, 38, 39, 40, 41, 42, 43, 44, 45, 46, 47, 48, 49, 50, 51, 52] (by decide +kernel) (by decide +kernel)
set_option maxRecDepth 20000 in
theorem gX7_set_X7_well : GoodIn wsX7_set (wsV RX7 69 RX7 yX7_well wsX7_well) := goodIn_app (goodIn_of _ (by decide +kernel)) ggX7_set_X7_well
theorem dX7_set_0 : decode cX7_set 0 = .ok (.iload_n 1, 1) := by decide +kernel
theorem dX7_set_1 : decode cX7_set 1 = .ok (.invokestatic 60, 3) := by decide +kernel
theorem dX7_set_4 : decode cX7_set 4 = .ok (.ifCond .ne 6, 3) := by decide +kernel
theorem dX7_set_7 : decode cX7_set 7 = .ok (.ldc 64, 2) := by decide +kernel
theorem dX7_set_9 : decode cX7_set 9 = .ok (.ireturn, 1) := by decide +kernel
theorem dX7_set_10 : decode cX7_set 10 = .ok (.aload_n 0, 1) := by decide +kernel
theorem dX7_set_11 : decode cX7_set 11 = .ok (.iload_n 1, 1) := by decide +kernel
theorem dX7_set_12 : decode cX7_set 12 = .ok (.invokevirtual 72, 3) := by decide +kernel
theorem dX7_set_15 : decode cX7_set 15 = .ok (.ifCond .eq 9, 3) := by decide +kernel
theorem dX7_set_18 : decode cX7_set 18 = .ok (.aload_n 0, 1) := by decide +kernel
theorem dX7_set_19 : decode cX7_set 19 = .ok (.iconst 1, 1) := by decide +kernel
theorem dX7_set_20 : decode cX7_set 20 = .ok (.invokevirtual 65, 3) := by decide +kernel
theorem dX7_set_23 : decode cX7_set 23 = .ok (.ireturn, 1) := by decide +kernel
theorem dX7_set_24 : decode cX7_set 24 = .ok (.iload_n 2, 1) := by decide +kernel
theorem dX7_set_25 : decode cX7_set 25 = .ok (.iconst 0, 1) := by decide +kernel
theorem dX7_set_26 : decode cX7_set 26 = .ok (.aload_n 0, 1) := by decide +kernel
theorem dX7_set_27 : decode cX7_set 27 = .ok (.getfield 13, 3) := by decide +kernel
theorem dX7_set_30 : decode cX7_set 30 = .ok (.iload_n 1, 1) := by decide +kernel
theorem dX7_set_31 : decode cX7_set 31 = .ok (.iaload, 1) := by decide +kernel
theorem dX7_set_32 : decode cX7_set 32 = .ok (.iconst 1, 1) := by decide +kernel
theorem dX7_set_33 : decode cX7_set 33 = .ok (.isub, 1) := by decide +kernel
theorem dX7_set_34 : decode cX7_set 34 = .ok (.invokestatic 56, 3) := by decide +kernel
theorem dX7_set_37 : decode cX7_set 37 = .ok (.ifCond .ne 9, 3) := by decide +kernel
theorem dX7_set_40 : decode cX7_set 40 = .ok (.aload_n 0, 1) := by decide +kernel
theorem dX7_set_41 : decode cX7_set 41 = .ok (.iconst 2, 1) := by decide +kernel
theorem dX7_set_42 : decode cX7_set 42 = .ok (.invokevirtual 65, 3) := by decide +kernel
theorem dX7_set_45 : decode cX7_set 45 = .ok (.ireturn, 1) := by decide +kernel
theorem dX7_set_46 : decode cX7_set 46 = .ok (.aload_n 0, 1) := by decide +kernel
theorem dX7_set_47 : decode cX7_set 47 = .ok (.getfield 16, 3) := by decide +kernel
theorem dX7_set_50 : decode cX7_set 50 = .ok (.bipush 40, 2) := by decide +kernel
theorem dX7_set_52 : decode cX7_set 52 = .ok (.iload_n 1, 1) := by decide +kernel
theorem dX7_set_53 : decode cX7_set 53 = .ok (.imul, 1) := by decide +kernel
theorem dX7_set_54 : decode cX7_set 54 = .ok (.iload_n 2, 1) := by decide +kernel
theorem dX7_set_55 : decode cX7_set 55 = .ok (.iadd, 1) := by decide +kernel
theorem dX7_set_56 : decode cX7_set 56 = .ok (.aload_n 0, 1) := by decide +kernel
theorem dX7_set_57 : decode cX7_set 57 = .ok (.getfield 7, 3) := by decide +kernel
theorem dX7_set_60 : decode cX7_set 60 = .ok (.iload_n 1, 1) := by decide +kernel
theorem dX7_set_61 : decode cX7_set 61 = .ok (.iaload, 1) := by decide +kernel
theorem dX7_set_62 : decode cX7_set 62 = .ok (.iload_n 3, 1) := by decide +kernel
theorem dX7_set_63 : decode cX7_set 63 = .ok (.invokestatic 75, 3) := by decide +kernel
theorem dX7_set_66 : decode cX7_set 66 = .ok (.iastore, 1) := by decide +kernel
theorem dX7_set_67 : decode cX7_set 67 = .ok (.aload_n 0, 1) := by decide +kernel
theorem dX7_set_68 : decode cX7_set 68 = .ok (.aload_n 0, 1) := by decide +kernel
theorem dX7_set_69 : decode cX7_set 69 = .ok (.getfield 16, 3) := by decide +kernel
theorem dX7_set_72 : decode cX7_set 72 = .ok (.bipush 40, 2) := by decide +kernel
theorem dX7_set_74 : decode cX7_set 74 = .ok (.iload_n 1, 1) := by decide +kernel
theorem dX7_set_75 : decode cX7_set 75 = .ok (.imul, 1) := by decide +kernel
theorem dX7_set_76 : decode cX7_set 76 = .ok (.iload_n 2, 1) := by decide +kernel
theorem dX7_set_77 : decode cX7_set 77 = .ok (.iadd, 1) := by decide +kernel
theorem dX7_set_78 : decode cX7_set 78 = .ok (.iaload, 1) := by decide +kernel
theorem dX7_set_79 : decode cX7_set 79 = .ok (.invokevirtual 69, 3) := by decide +kernel
theorem dX7_set_82 : decode cX7_set 82 = .ok (.ireturn, 1) := by decide +kernel
theorem dX7_isPart_0 : decode cX7_isPart 0 = .ok (.iload_n 2, 1) := by decide +kernel
theorem dX7_isPart_1 : decode cX7_isPart 1 = .ok (.ifCond .lt 33, 3) := by decide +kernel
theorem dX7_isPart_4 : decode cX7_isPart 4 = .ok (.iload_n 3, 1) := by decide +kernel
theorem dX7_isPart_5 : decode cX7_isPart 5 = .ok (.ifCond .lt 29, 3) := by decide +kernel
theorem dX7_isPart_8 : decode cX7_isPart 8 = .ok (.iload_n 2, 1) := by decide +kernel
theorem dX7_isPart_9 : decode cX7_isPart 9 = .ok (.aload_n 0, 1) := by decide +kernel
theorem dX7_isPart_10 : decode cX7_isPart 10 = .ok (.getfield 13, 3) := by decide +kernel
theorem dX7_isPart_13 : decode cX7_isPart 13 = .ok (.iload_n 1, 1) := by decide +kernel
theorem dX7_isPart_14 : decode cX7_isPart 14 = .ok (.iaload, 1) := by decide +kernel
theorem dX7_isPart_15 : decode cX7_isPart 15 = .ok (.if_icmp .gt 19, 3) := by decide +kernel
theorem dX7_isPart_18 : decode cX7_isPart 18 = .ok (.iload_n 3, 1) := by decide +kernel
theorem dX7_isPart_19 : decode cX7_isPart 19 = .ok (.aload_n 0, 1) := by decide +kernel
theorem dX7_isPart_20 : decode cX7_isPart 20 = .ok (.getfield 13, 3) := by decide +kernel
theorem dX7_isPart_23 : decode cX7_isPart 23 = .ok (.iload_n 1, 1) := by decide +kernel
theorem dX7_isPart_24 : decode cX7_isPart 24 = .ok (.iaload, 1) := by decide +kernel
theorem dX7_isPart_25 : decode cX7_isPart 25 = .ok (.iload_n 2, 1) := by decide +kernel
theorem dX7_isPart_26 : decode cX7_isPart 26 = .ok (.isub, 1) := by decide +kernel
theorem dX7_isPart_27 : decode cX7_isPart 27 = .ok (.if_icmp .gt 7, 3) := by decide +kernel
theorem dX7_isPart_30 : decode cX7_isPart 30 = .ok (.iconst 1, 1) := by decide +kernel
theorem dX7_isPart_31 : decode cX7_isPart 31 = .ok (.goto 4, 3) := by decide +kernel
theorem dX7_isPart_34 : decode cX7_isPart 34 = .ok (.iconst 0, 1) := by decide +kernel
theorem dX7_isPart_35 : decode cX7_isPart 35 = .ok (.ireturn, 1) := by decide +kernel
set_option maxRecDepth 20000 in
theorem ggX7_copy_X7_isRow : GoodIn wsX7_copy wsX7_isRow := goodIn_r _ [8, 9, 10, 7, 11] (by decide +kernel) (by decide +kernel)
set_option maxRecDepth 20000 in
theorem gX7_copy_X7_isRow : GoodIn wsX7_copy (va_wsS RX7 60 yX7_isRow wsX7_isRow) := goodIn_app (goodIn_of _ (by decide +kernel)) ggX7_copy_X7_isRow
set_option maxRecDepth 20000 in
theorem ggX7_copy_X7_isMissing : GoodIn wsX7_copy wsX7_isMissing := goodIn_r _ [15, 2, 16, 32, 33, 34, 35, 36, 37, 38, 39, 40, 41, 42, 43, 44, 45, 46, 47, 48, 49, 50, 51, 52, 53, 54] (by decide +kernel) (by decide +kernel)
set_option maxRecDepth 20000 in
theorem gX7_copy_X7_isMissing : GoodIn wsX7_copy (wsV RX7 72 RX7 yX7_isMissing wsX7_isMissing) := goodIn_app (goodIn_of _ (by decide +kernel)) ggX7_copy_X7_isMissing
set_option maxRecDepth 20000 in
theorem ggX7_copy_X7_found : GoodIn wsX7_copy wsX7_found := goodIn_r _ [20, 21, 22, 32, 33, 34, 35, 36, 37, 38, 39, 40, 41, 42, 43, 44, 45, 46, 47, 48, 49, 50, 51, 52, 53, 54] (by decide +kernel) (by decide +kernel)
set_option maxRecDepth 20000 in
theorem gX7_copy_X7_found : GoodIn wsX7_copy (wsV RX7 65 RX7 yX7_found wsX7_found) := goodIn_app (goodIn_of _ (by decide +kernel)) ggX7_copy_X7_found
set_option maxRecDepth 20000 in
theorem ggX7_copy_X7_isPart : GoodIn wsX7_copy wsX7_isPart := goodIn_r _ [26, 27, 32, 33, 34, 35, 36, 37, 38, 39, 40, 41, 42, 43, 44, 45, 46, 47, 48, 49, 50, 51, 52, 53, 54] (by decide +kernel) (by decide +kernel)
set_option maxRecDepth 20000 in
theorem gX7_copy_X7_isPart : GoodIn wsX7_copy (wsV RX7 79 RX7 yX7_isPart wsX7_isPart) := goodIn_app (goodIn_of _ (by decide +kernel)) ggX7_copy_X7_isPart
set_option maxRecDepth 20000 in
theorem ggX7_copy_X7_well : GoodIn wsX7_copy wsX7_well := goodIn_r _ [31, 21, 32, 33, 34, 35, 36, 37, 38, 39, 40, 41, 42, 43, 44, 45, 46, 47, 48, 49, 50, 51, 52, 53, 54] (by decide +kernel) (by decide +kernel)
set_option maxRecDepth 20000 in
theorem gX7_copy_X7_well : GoodIn wsX7_copy (wsV RX7 69 RX7 yX7_well wsX7_well) := goodIn_app (goodIn_of _ (by decide +kernel)) ggX7_copy_X7_well
theorem dX7_copy_0 : decode cX7_copy 0 = .ok (.iload_n 1, 1) := by decide +kernel
theorem dX7_copy_1 : decode cX7_copy 1 = .ok (.invokestatic 60, 3) := by decide +kernel
theorem dX7_copy_4 : decode cX7_copy 4 = .ok (.ifCond .eq 10, 3) := by decide +kernel
theorem dX7_copy_7 : decode cX7_copy 7 = .ok (.iload_n 3, 1) := by decide +kernel
theorem dX7_copy_8 : decode cX7_copy 8 = .ok (.invokestatic 60, 3) := by decide +kernel
theorem dX7_copy_11 : decode cX7_copy 11 = .ok (.ifCond .ne 6, 3) := by decide +kernel
theorem dX7_copy_14 : decode cX7_copy 14 = .ok (.ldc 64, 2) := by decide +kernel
theorem dX7_copy_16 : decode cX7_copy 16 = .ok (.ireturn, 1) := by decide +kernel
theorem dX7_copy_17 : decode cX7_copy 17 = .ok (.aload_n 0, 1) := by decide +kernel
theorem dX7_copy_18 : decode cX7_copy 18 = .ok (.iload_n 1, 1) := by decide +kernel
theorem dX7_copy_19 : decode cX7_copy 19 = .ok (.invokevirtual 72, 3) := by decide +kernel
theorem dX7_copy_22 : decode cX7_copy 22 = .ok (.ifCond .ne 11, 3) := by decide +kernel
theorem dX7_copy_25 : decode cX7_copy 25 = .ok (.aload_n 0, 1) := by decide +kernel
theorem dX7_copy_26 : decode cX7_copy 26 = .ok (.iload_n 3, 1) := by decide +kernel
theorem dX7_copy_27 : decode cX7_copy 27 = .ok (.invokevirtual 72, 3) := by decide +kernel
theorem dX7_copy_30 : decode cX7_copy 30 = .ok (.ifCond .eq 9, 3) := by decide +kernel
theorem dX7_copy_33 : decode cX7_copy 33 = .ok (.aload_n 0, 1) := by decide +kernel
theorem dX7_copy_34 : decode cX7_copy 34 = .ok (.iconst 1, 1) := by decide +kernel
theorem dX7_copy_35 : decode cX7_copy 35 = .ok (.invokevirtual 65, 3) := by decide +kernel
theorem dX7_copy_38 : decode cX7_copy 38 = .ok (.ireturn, 1) := by decide +kernel
theorem dX7_copy_39 : decode cX7_copy 39 = .ok (.aload_n 0, 1) := by decide +kernel
theorem dX7_copy_40 : decode cX7_copy 40 = .ok (.getfield 7, 3) := by decide +kernel
theorem dX7_copy_43 : decode cX7_copy 43 = .ok (.iload_n 1, 1) := by decide +kernel
theorem dX7_copy_44 : decode cX7_copy 44 = .ok (.iaload, 1) := by decide +kernel
theorem dX7_copy_45 : decode cX7_copy 45 = .ok (.aload_n 0, 1) := by decide +kernel
theorem dX7_copy_46 : decode cX7_copy 46 = .ok (.getfield 7, 3) := by decide +kernel
theorem dX7_copy_49 : decode cX7_copy 49 = .ok (.iload_n 3, 1) := by decide +kernel
theorem dX7_copy_50 : decode cX7_copy 50 = .ok (.iaload, 1) := by decide +kernel
theorem dX7_copy_51 : decode cX7_copy 51 = .ok (.if_icmp .eq 9, 3) := by decide +kernel
theorem dX7_copy_54 : decode cX7_copy 54 = .ok (.aload_n 0, 1) := by decide +kernel
theorem dX7_copy_55 : decode cX7_copy 55 = .ok (.iconst 5, 1) := by decide +kernel
theorem dX7_copy_56 : decode cX7_copy 56 = .ok (.invokevirtual 65, 3) := by decide +kernel
theorem dX7_copy_59 : decode cX7_copy 59 = .ok (.ireturn, 1) := by decide +kernel
theorem dX7_copy_60 : decode cX7_copy 60 = .ok (.aload_n 0, 1) := by decide +kernel
theorem dX7_copy_61 : decode cX7_copy 61 = .ok (.iload_n 1, 1) := by decide +kernel
theorem dX7_copy_62 : decode cX7_copy 62 = .ok (.iload_n 2, 1) := by decide +kernel
theorem dX7_copy_63 : decode cX7_copy 63 = .ok (.iload 5, 2) := by decide +kernel
theorem dX7_copy_65 : decode cX7_copy 65 = .ok (.invokevirtual 79, 3) := by decide +kernel
theorem dX7_copy_68 : decode cX7_copy 68 = .ok (.ifCond .eq 15, 3) := by decide +kernel
theorem dX7_copy_71 : decode cX7_copy 71 = .ok (.aload_n 0, 1) := by decide +kernel
theorem dX7_copy_72 : decode cX7_copy 72 = .ok (.iload_n 3, 1) := by decide +kernel
theorem dX7_copy_73 : decode cX7_copy 73 = .ok (.iload 4, 2) := by decide +kernel
theorem dX7_copy_75 : decode cX7_copy 75 = .ok (.iload 5, 2) := by decide +kernel
theorem dX7_copy_77 : decode cX7_copy 77 = .ok (.invokevirtual 79, 3) := by decide +kernel
theorem dX7_copy_80 : decode cX7_copy 80 = .ok (.ifCond .ne 9, 3) := by decide +kernel
theorem dX7_copy_83 : decode cX7_copy 83 = .ok (.aload_n 0, 1) := by decide +kernel
theorem dX7_copy_84 : decode cX7_copy 84 = .ok (.iconst 2, 1) := by decide +kernel
theorem dX7_copy_85 : decode cX7_copy 85 = .ok (.invokevirtual 65, 3) := by decide +kernel
theorem dX7_copy_88 : decode cX7_copy 88 = .ok (.ireturn, 1) := by decide +kernel
theorem dX7_copy_89 : decode cX7_copy 89 = .ok (.iconst 0, 1) := by decide +kernel
theorem dX7_copy_90 : decode cX7_copy 90 = .ok (.istore 6, 2) := by decide +kernel
theorem dX7_copy_92 : decode cX7_copy 92 = .ok (.iload 6, 2) := by decide +kernel
theorem dX7_copy_94 : decode cX7_copy 94 = .ok (.iload 5, 2) := by decide +kernel
theorem dX7_copy_96 : decode cX7_copy 96 = .ok (.if_icmp .ge 30, 3) := by decide +kernel
theorem dX7_copy_99 : decode cX7_copy 99 = .ok (.aload_n 0, 1) := by decide +kernel
theorem dX7_copy_100 : decode cX7_copy 100 = .ok (.getfield 19, 3) := by decide +kernel
theorem dX7_copy_103 : decode cX7_copy 103 = .ok (.iload 6, 2) := by decide +kernel
theorem dX7_copy_105 : decode cX7_copy 105 = .ok (.aload_n 0, 1) := by decide +kernel
theorem dX7_copy_106 : decode cX7_copy 106 = .ok (.getfield 16, 3) := by decide +kernel
theorem dX7_copy_109 : decode cX7_copy 109 = .ok (.bipush 40, 2) := by decide +kernel
theorem dX7_copy_111 : decode cX7_copy 111 = .ok (.iload_n 1, 1) := by decide +kernel
theorem dX7_copy_112 : decode cX7_copy 112 = .ok (.imul, 1) := by decide +kernel
theorem dX7_copy_113 : decode cX7_copy 113 = .ok (.iload_n 2, 1) := by decide +kernel
theorem dX7_copy_114 : decode cX7_copy 114 = .ok (.iadd, 1) := by decide +kernel
theorem dX7_copy_115 : decode cX7_copy 115 = .ok (.iload 6, 2) := by decide +kernel
theorem dX7_copy_117 : decode cX7_copy 117 = .ok (.iadd, 1) := by decide +kernel
theorem dX7_copy_118 : decode cX7_copy 118 = .ok (.iaload, 1) := by decide +kernel
theorem dX7_copy_119 : decode cX7_copy 119 = .ok (.iastore, 1) := by decide +kernel
theorem dX7_copy_120 : decode cX7_copy 120 = .ok (.iinc 6 1, 3) := by decide +kernel
theorem dX7_copy_123 : decode cX7_copy 123 = .ok (.goto (-31), 3) := by decide +kernel
theorem dX7_copy_126 : decode cX7_copy 126 = .ok (.iconst 0, 1) := by decide +kernel
theorem dX7_copy_127 : decode cX7_copy 127 = .ok (.istore 6, 2) := by decide +kernel
theorem dX7_copy_129 : decode cX7_copy 129 = .ok (.iload 6, 2) := by decide +kernel
theorem dX7_copy_131 : decode cX7_copy 131 = .ok (.iload 5, 2) := by decide +kernel
theorem dX7_copy_133 : decode cX7_copy 133 = .ok (.if_icmp .ge 31, 3) := by decide +kernel
theorem dX7_copy_136 : decode cX7_copy 136 = .ok (.aload_n 0, 1) := by decide +kernel
theorem dX7_copy_137 : decode cX7_copy 137 = .ok (.getfield 16, 3) := by decide +kernel
theorem dX7_copy_140 : decode cX7_copy 140 = .ok (.bipush 40, 2) := by decide +kernel
theorem dX7_copy_142 : decode cX7_copy 142 = .ok (.iload_n 3, 1) := by decide +kernel
theorem dX7_copy_143 : decode cX7_copy 143 = .ok (.imul, 1) := by decide +kernel
theorem dX7_copy_144 : decode cX7_copy 144 = .ok (.iload 4, 2) := by decide +kernel
theorem dX7_copy_146 : decode cX7_copy 146 = .ok (.iadd, 1) := by decide +kernel
theorem dX7_copy_147 : decode cX7_copy 147 = .ok (.iload 6, 2) := by decide +kernel
theorem dX7_copy_149 : decode cX7_copy 149 = .ok (.iadd, 1) := by decide +kernel
theorem dX7_copy_150 : decode cX7_copy 150 = .ok (.aload_n 0, 1) := by decide +kernel
theorem dX7_copy_151 : decode cX7_copy 151 = .ok (.getfield 19, 3) := by decide +kernel
theorem dX7_copy_154 : decode cX7_copy 154 = .ok (.iload 6, 2) := by decide +kernel
theorem dX7_copy_156 : decode cX7_copy 156 = .ok (.iaload, 1) := by decide +kernel
theorem dX7_copy_157 : decode cX7_copy 157 = .ok (.iastore, 1) := by decide +kernel
theorem dX7_copy_158 : decode cX7_copy 158 = .ok (.iinc 6 1, 3) := by decide +kernel
theorem dX7_copy_161 : decode cX7_copy 161 = .ok (.goto (-32), 3) := by decide +kernel
theorem dX7_copy_164 : decode cX7_copy 164 = .ok (.aload_n 0, 1) := by decide +kernel
theorem dX7_copy_165 : decode cX7_copy 165 = .ok (.iload 5, 2) := by decide +kernel
theorem dX7_copy_167 : decode cX7_copy 167 = .ok (.invokevirtual 69, 3) := by decide +kernel
theorem dX7_copy_170 : decode cX7_copy 170 = .ok (.ireturn, 1) := by decide +kernel
set_option maxRecDepth 20000 in
theorem ggX7_drop_X7_isRow : GoodIn wsX7_drop wsX7_isRow := goodIn_r _ [8, 9, 10, 7, 11] (by decide +kernel) (by decide +kernel)
set_option maxRecDepth 20000 in
theorem gX7_drop_X7_isRow : GoodIn wsX7_drop (va_wsS RX7 60 yX7_isRow wsX7_isRow) := goodIn_app (goodIn_of _ (by decide +kernel)) ggX7_drop_X7_isRow
set_option maxRecDepth 20000 in
theorem ggX7_drop_X7_isMissing : GoodIn wsX7_drop wsX7_isMissing := goodIn_r _ [15, 2, 3, 26, 27, 28, 29, 30, 31, 32, 33, 34, 35, 36, 37, 38, 39, 40, 41, 42, 43, 44, 45, 46, 47, 48] (by decide +kernel) (by decide +kernel)
set_option maxRecDepth 20000 in
theorem gX7_drop_X7_isMissing : GoodIn wsX7_drop (wsV RX7 72 RX7 yX7_isMissing wsX7_isMissing) := goodIn_app (goodIn_of _ (by decide +kernel)) ggX7_drop_X7_isMissing
set_option maxRecDepth 20000 in
theorem ggX7_drop_X7_found : GoodIn wsX7_drop wsX7_found := goodIn_r _ [19, 20, 21, 26, 27, 28, 29, 30, 31, 32, 33, 34, 35, 36, 37, 38, 39, 40, 41, 42, 43, 44, 45, 46, 47, 48] (by decide +kernel) (by decide +kernel)
set_option maxRecDepth 20000 in
theorem gX7_drop_X7_found : GoodIn wsX7_drop (wsV RX7 65 RX7 yX7_found wsX7_found) := goodIn_app (goodIn_of _ (by decide +kernel)) ggX7_drop_X7_found
set_option maxRecDepth 20000 in
theorem ggX7_drop_X7_well : GoodIn wsX7_drop wsX7_well := goodIn_r _ [25, 20, 26, 27, 28, 29, 30, 31, 32, 33, 34, 35, 36, 37, 38, 39, 40, 41, 42, 43, 44, 45, 46, 47, 48] (by decide +kernel) (by decide +kernel)
set_option maxRecDepth 20000 in
theorem gX7_drop_X7_well : GoodIn wsX7_drop (wsV RX7 69 RX7 yX7_well wsX7_well) := goodIn_app (goodIn_of _ (by decide +kernel)) ggX7_drop_X7_well
theorem dX7_drop_0 : decode cX7_drop 0 = .ok (.iload_n 1, 1) := by decide +kernel
theorem dX7_drop_1 : decode cX7_drop 1 = .ok (.invokestatic 60, 3) := by decide +kernel
theorem dX7_drop_4 : decode cX7_drop 4 = .ok (.ifCond .ne 6, 3) := by decide +kernel
theorem dX7_drop_7 : decode cX7_drop 7 = .ok (.ldc 64, 2) := by decide +kernel
theorem dX7_drop_9 : decode cX7_drop 9 = .ok (.ireturn, 1) := by decide +kernel
theorem dX7_drop_10 : decode cX7_drop 10 = .ok (.aload_n 0, 1) := by decide +kernel
theorem dX7_drop_11 : decode cX7_drop 11 = .ok (.iload_n 1, 1) := by decide +kernel
theorem dX7_drop_12 : decode cX7_drop 12 = .ok (.invokevirtual 72, 3) := by decide +kernel
theorem dX7_drop_15 : decode cX7_drop 15 = .ok (.ifCond .eq 9, 3) := by decide +kernel
theorem dX7_drop_18 : decode cX7_drop 18 = .ok (.aload_n 0, 1) := by decide +kernel
theorem dX7_drop_19 : decode cX7_drop 19 = .ok (.iconst 1, 1) := by decide +kernel
theorem dX7_drop_20 : decode cX7_drop 20 = .ok (.invokevirtual 65, 3) := by decide +kernel
theorem dX7_drop_23 : decode cX7_drop 23 = .ok (.ireturn, 1) := by decide +kernel
theorem dX7_drop_24 : decode cX7_drop 24 = .ok (.aload_n 0, 1) := by decide +kernel
theorem dX7_drop_25 : decode cX7_drop 25 = .ok (.getfield 7, 3) := by decide +kernel
theorem dX7_drop_28 : decode cX7_drop 28 = .ok (.iload_n 1, 1) := by decide +kernel
theorem dX7_drop_29 : decode cX7_drop 29 = .ok (.ldc 50, 2) := by decide +kernel
theorem dX7_drop_31 : decode cX7_drop 31 = .ok (.iastore, 1) := by decide +kernel
theorem dX7_drop_32 : decode cX7_drop 32 = .ok (.aload_n 0, 1) := by decide +kernel
theorem dX7_drop_33 : decode cX7_drop 33 = .ok (.aload_n 0, 1) := by decide +kernel
theorem dX7_drop_34 : decode cX7_drop 34 = .ok (.getfield 13, 3) := by decide +kernel
theorem dX7_drop_37 : decode cX7_drop 37 = .ok (.iload_n 1, 1) := by decide +kernel
theorem dX7_drop_38 : decode cX7_drop 38 = .ok (.iaload, 1) := by decide +kernel
theorem dX7_drop_39 : decode cX7_drop 39 = .ok (.invokevirtual 69, 3) := by decide +kernel
theorem dX7_drop_42 : decode cX7_drop 42 = .ok (.ireturn, 1) := by decide +kernel
set_option maxRecDepth 20000 in
theorem ggX7_feed_X7_in : GoodIn wsX7_feed wsX7_in := goodIn_r _ [8] (by decide +kernel) (by decide +kernel)
set_option maxRecDepth 20000 in
theorem gX7_feed_X7_in : GoodIn wsX7_feed (va_wsS RX7 56 yX7_in wsX7_in) := goodIn_app (goodIn_of _ (by decide +kernel)) ggX7_feed_X7_in
theorem dX7_feed_0 : decode cX7_feed 0 = .ok (.iload_n 1, 1) := by decide +kernel
theorem dX7_feed_1 : decode cX7_feed 1 = .ok (.iconst 0, 1) := by decide +kernel
theorem dX7_feed_2 : decode cX7_feed 2 = .ok (.sipush 255, 3) := by decide +kernel
theorem dX7_feed_5 : decode cX7_feed 5 = .ok (.invokestatic 56, 3) := by decide +kernel
theorem dX7_feed_8 : decode cX7_feed 8 = .ok (.ifCond .ne 6, 3) := by decide +kernel
theorem dX7_feed_11 : decode cX7_feed 11 = .ok (.ldc 64, 2) := by decide +kernel
theorem dX7_feed_13 : decode cX7_feed 13 = .ok (.ireturn, 1) := by decide +kernel
theorem dX7_feed_14 : decode cX7_feed 14 = .ok (.aload_n 0, 1) := by decide +kernel
theorem dX7_feed_15 : decode cX7_feed 15 = .ok (.getfield 82, 3) := by decide +kernel
theorem dX7_feed_18 : decode cX7_feed 18 = .ok (.bipush 100, 2) := by decide +kernel
theorem dX7_feed_20 : decode cX7_feed 20 = .ok (.if_icmp .ne 6, 3) := by decide +kernel
theorem dX7_feed_23 : decode cX7_feed 23 = .ok (.ldc 85, 2) := by decide +kernel
theorem dX7_feed_25 : decode cX7_feed 25 = .ok (.ireturn, 1) := by decide +kernel
theorem dX7_feed_26 : decode cX7_feed 26 = .ok (.aload_n 0, 1) := by decide +kernel
theorem dX7_feed_27 : decode cX7_feed 27 = .ok (.getfield 22, 3) := by decide +kernel
theorem dX7_feed_30 : decode cX7_feed 30 = .ok (.aload_n 0, 1) := by decide +kernel
theorem dX7_feed_31 : decode cX7_feed 31 = .ok (.getfield 82, 3) := by decide +kernel
theorem dX7_feed_34 : decode cX7_feed 34 = .ok (.iload_n 1, 1) := by decide +kernel
theorem dX7_feed_35 : decode cX7_feed 35 = .ok (.iastore, 1) := by decide +kernel
theorem dX7_feed_36 : decode cX7_feed 36 = .ok (.aload_n 0, 1) := by decide +kernel
theorem dX7_feed_37 : decode cX7_feed 37 = .ok (.dup, 1) := by decide +kernel
theorem dX7_feed_38 : decode cX7_feed 38 = .ok (.getfield 82, 3) := by decide +kernel
theorem dX7_feed_41 : decode cX7_feed 41 = .ok (.iconst 1, 1) := by decide +kernel
theorem dX7_feed_42 : decode cX7_feed 42 = .ok (.iadd, 1) := by decide +kernel
theorem dX7_feed_43 : decode cX7_feed 43 = .ok (.putfield 82, 3) := by decide +kernel
theorem dX7_feed_46 : decode cX7_feed 46 = .ok (.aload_n 0, 1) := by decide +kernel
theorem dX7_feed_47 : decode cX7_feed 47 = .ok (.getfield 82, 3) := by decide +kernel
theorem dX7_feed_50 : decode cX7_feed 50 = .ok (.ireturn, 1) := by decide +kernel
theorem dX7_byteAt_0 : decode cX7_byteAt 0 = .ok (.iload_n 1, 1) := by decide +kernel
theorem dX7_byteAt_1 : decode cX7_byteAt 1 = .ok (.aload_n 0, 1) := by decide +kernel
theorem dX7_byteAt_2 : decode cX7_byteAt 2 = .ok (.getfield 82, 3) := by decide +kernel
theorem dX7_byteAt_5 : decode cX7_byteAt 5 = .ok (.if_icmp .ge 12, 3) := by decide +kernel
theorem dX7_byteAt_8 : decode cX7_byteAt 8 = .ok (.aload_n 0, 1) := by decide +kernel
theorem dX7_byteAt_9 : decode cX7_byteAt 9 = .ok (.getfield 22, 3) := by decide +kernel
theorem dX7_byteAt_12 : decode cX7_byteAt 12 = .ok (.iload_n 1, 1) := by decide +kernel
theorem dX7_byteAt_13 : decode cX7_byteAt 13 = .ok (.iaload, 1) := by decide +kernel
theorem dX7_byteAt_14 : decode cX7_byteAt 14 = .ok (.goto 4, 3) := by decide +kernel
theorem dX7_byteAt_17 : decode cX7_byteAt 17 = .ok (.iconst (-1), 1) := by decide +kernel
theorem dX7_byteAt_18 : decode cX7_byteAt 18 = .ok (.ireturn, 1) := by decide +kernel
set_option maxRecDepth 20000 in
theorem ggX7_advances_X7_byteAt : GoodIn wsX7_advances wsX7_byteAt := goodIn_r _ [9, 10, 11, 15, 16, 17, 18, 19, 20, 21, 22, 23, 24, 25, 26, 27, 28, 29, 30, 31, 32, 33, 34, 35, 36, 37] (by decide +kernel) (by decide +kernel)
set_option maxRecDepth 20000 in
theorem gX7_advances_X7_byteAt : GoodIn wsX7_advances (wsV RX7 92 RX7 yX7_byteAt wsX7_byteAt) := goodIn_app (goodIn_of _ (by decide +kernel)) ggX7_advances_X7_byteAt
set_option maxRecDepth 20000 in
theorem ggX7_advances_X7_in : GoodIn wsX7_advances wsX7_in := goodIn_r _ [14] (by decide +kernel) (by decide +kernel)
set_option maxRecDepth 20000 in
theorem gX7_advances_X7_in : GoodIn wsX7_advances (va_wsS RX7 56 yX7_in wsX7_in) := goodIn_app (goodIn_of _ (by decide +kernel)) ggX7_advances_X7_in
theorem dX7_advances_0 : decode cX7_advances 0 = .ok (.aload_n 0, 1) := by decide +kernel
theorem dX7_advances_1 : decode cX7_advances 1 = .ok (.aload_n 0, 1) := by decide +kernel
theorem dX7_advances_2 : decode cX7_advances 2 = .ok (.getfield 86, 3) := by decide +kernel
theorem dX7_advances_5 : decode cX7_advances 5 = .ok (.putfield 89, 3) := by decide +kernel
theorem dX7_advances_8 : decode cX7_advances 8 = .ok (.aload_n 0, 1) := by decide +kernel
theorem dX7_advances_9 : decode cX7_advances 9 = .ok (.aload_n 0, 1) := by decide +kernel
theorem dX7_advances_10 : decode cX7_advances 10 = .ok (.getfield 86, 3) := by decide +kernel
theorem dX7_advances_13 : decode cX7_advances 13 = .ok (.invokevirtual 92, 3) := by decide +kernel
theorem dX7_advances_16 : decode cX7_advances 16 = .ok (.istore_n 1, 1) := by decide +kernel
theorem dX7_advances_17 : decode cX7_advances 17 = .ok (.aload_n 0, 1) := by decide +kernel
theorem dX7_advances_18 : decode cX7_advances 18 = .ok (.iload_n 1, 1) := by decide +kernel
theorem dX7_advances_19 : decode cX7_advances 19 = .ok (.putfield 95, 3) := by decide +kernel
theorem dX7_advances_22 : decode cX7_advances 22 = .ok (.iload_n 1, 1) := by decide +kernel
theorem dX7_advances_23 : decode cX7_advances 23 = .ok (.bipush 48, 2) := by decide +kernel
theorem dX7_advances_25 : decode cX7_advances 25 = .ok (.bipush 57, 2) := by decide +kernel
theorem dX7_advances_27 : decode cX7_advances 27 = .ok (.invokestatic 56, 3) := by decide +kernel
theorem dX7_advances_30 : decode cX7_advances 30 = .ok (.ifCond .eq 105, 3) := by decide +kernel
theorem dX7_advances_33 : decode cX7_advances 33 = .ok (.aload_n 0, 1) := by decide +kernel
theorem dX7_advances_34 : decode cX7_advances 34 = .ok (.iconst 0, 1) := by decide +kernel
theorem dX7_advances_35 : decode cX7_advances 35 = .ok (.putfield 95, 3) := by decide +kernel
theorem dX7_advances_38 : decode cX7_advances 38 = .ok (.aload_n 0, 1) := by decide +kernel
theorem dX7_advances_39 : decode cX7_advances 39 = .ok (.aload_n 0, 1) := by decide +kernel
theorem dX7_advances_40 : decode cX7_advances 40 = .ok (.getfield 86, 3) := by decide +kernel
theorem dX7_advances_43 : decode cX7_advances 43 = .ok (.invokevirtual 92, 3) := by decide +kernel
theorem dX7_advances_46 : decode cX7_advances 46 = .ok (.bipush 48, 2) := by decide +kernel
theorem dX7_advances_48 : decode cX7_advances 48 = .ok (.bipush 57, 2) := by decide +kernel
theorem dX7_advances_50 : decode cX7_advances 50 = .ok (.invokestatic 56, 3) := by decide +kernel
theorem dX7_advances_53 : decode cX7_advances 53 = .ok (.ifCond .eq 59, 3) := by decide +kernel
theorem dX7_advances_56 : decode cX7_advances 56 = .ok (.aload_n 0, 1) := by decide +kernel
theorem dX7_advances_57 : decode cX7_advances 57 = .ok (.aload_n 0, 1) := by decide +kernel
theorem dX7_advances_58 : decode cX7_advances 58 = .ok (.getfield 86, 3) := by decide +kernel
theorem dX7_advances_61 : decode cX7_advances 61 = .ok (.aload_n 0, 1) := by decide +kernel
theorem dX7_advances_62 : decode cX7_advances 62 = .ok (.getfield 89, 3) := by decide +kernel
theorem dX7_advances_65 : decode cX7_advances 65 = .ok (.isub, 1) := by decide +kernel
theorem dX7_advances_66 : decode cX7_advances 66 = .ok (.iconst 2, 1) := by decide +kernel
theorem dX7_advances_67 : decode cX7_advances 67 = .ok (.if_icmp .ge 25, 3) := by decide +kernel
theorem dX7_advances_70 : decode cX7_advances 70 = .ok (.bipush 10, 2) := by decide +kernel
theorem dX7_advances_72 : decode cX7_advances 72 = .ok (.aload_n 0, 1) := by decide +kernel
theorem dX7_advances_73 : decode cX7_advances 73 = .ok (.getfield 95, 3) := by decide +kernel
theorem dX7_advances_76 : decode cX7_advances 76 = .ok (.imul, 1) := by decide +kernel
theorem dX7_advances_77 : decode cX7_advances 77 = .ok (.aload_n 0, 1) := by decide +kernel
theorem dX7_advances_78 : decode cX7_advances 78 = .ok (.aload_n 0, 1) := by decide +kernel
theorem dX7_advances_79 : decode cX7_advances 79 = .ok (.getfield 86, 3) := by decide +kernel
theorem dX7_advances_82 : decode cX7_advances 82 = .ok (.invokevirtual 92, 3) := by decide +kernel
theorem dX7_advances_85 : decode cX7_advances 85 = .ok (.iadd, 1) := by decide +kernel
theorem dX7_advances_86 : decode cX7_advances 86 = .ok (.bipush 48, 2) := by decide +kernel
theorem dX7_advances_88 : decode cX7_advances 88 = .ok (.isub, 1) := by decide +kernel
theorem dX7_advances_89 : decode cX7_advances 89 = .ok (.goto 7, 3) := by decide +kernel
theorem dX7_advances_92 : decode cX7_advances 92 = .ok (.aload_n 0, 1) := by decide +kernel
theorem dX7_advances_93 : decode cX7_advances 93 = .ok (.getfield 95, 3) := by decide +kernel
theorem dX7_advances_96 : decode cX7_advances 96 = .ok (.putfield 95, 3) := by decide +kernel
theorem dX7_advances_99 : decode cX7_advances 99 = .ok (.aload_n 0, 1) := by decide +kernel
theorem dX7_advances_100 : decode cX7_advances 100 = .ok (.dup, 1) := by decide +kernel
theorem dX7_advances_101 : decode cX7_advances 101 = .ok (.getfield 86, 3) := by decide +kernel
theorem dX7_advances_104 : decode cX7_advances 104 = .ok (.iconst 1, 1) := by decide +kernel
theorem dX7_advances_105 : decode cX7_advances 105 = .ok (.iadd, 1) := by decide +kernel
theorem dX7_advances_106 : decode cX7_advances 106 = .ok (.putfield 86, 3) := by decide +kernel
theorem dX7_advances_109 : decode cX7_advances 109 = .ok (.goto (-71), 3) := by decide +kernel
theorem dX7_advances_112 : decode cX7_advances 112 = .ok (.aload_n 0, 1) := by decide +kernel
theorem dX7_advances_113 : decode cX7_advances 113 = .ok (.aload_n 0, 1) := by decide +kernel
theorem dX7_advances_114 : decode cX7_advances 114 = .ok (.getfield 86, 3) := by decide +kernel
theorem dX7_advances_117 : decode cX7_advances 117 = .ok (.aload_n 0, 1) := by decide +kernel
theorem dX7_advances_118 : decode cX7_advances 118 = .ok (.getfield 89, 3) := by decide +kernel
theorem dX7_advances_121 : decode cX7_advances 121 = .ok (.isub, 1) := by decide +kernel
theorem dX7_advances_122 : decode cX7_advances 122 = .ok (.iconst 3, 1) := by decide +kernel
theorem dX7_advances_123 : decode cX7_advances 123 = .ok (.if_icmp .ge 7, 3) := by decide +kernel
theorem dX7_advances_126 : decode cX7_advances 126 = .ok (.iconst 2, 1) := by decide +kernel
theorem dX7_advances_127 : decode cX7_advances 127 = .ok (.goto 4, 3) := by decide +kernel
theorem dX7_advances_130 : decode cX7_advances 130 = .ok (.iconst 5, 1) := by decide +kernel
theorem dX7_advances_131 : decode cX7_advances 131 = .ok (.putfield 98, 3) := by decide +kernel
theorem dX7_advances_134 : decode cX7_advances 134 = .ok (.return_, 1) := by decide +kernel
theorem dX7_advances_135 : decode cX7_advances 135 = .ok (.aload_n 0, 1) := by decide +kernel
theorem dX7_advances_136 : decode cX7_advances 136 = .ok (.iload_n 1, 1) := by decide +kernel
theorem dX7_advances_137 : decode cX7_advances 137 = .ok (.ifCond .ge 7, 3) := by decide +kernel
theorem dX7_advances_140 : decode cX7_advances 140 = .ok (.iconst 0, 1) := by decide +kernel
theorem dX7_advances_141 : decode cX7_advances 141 = .ok (.goto 39, 3) := by decide +kernel
theorem dX7_advances_144 : decode cX7_advances 144 = .ok (.iload_n 1, 1) := by decide +kernel
theorem dX7_advances_145 : decode cX7_advances 145 = .ok (.bipush 97, 2) := by decide +kernel
theorem dX7_advances_147 : decode cX7_advances 147 = .ok (.bipush 122, 2) := by decide +kernel
theorem dX7_advances_149 : decode cX7_advances 149 = .ok (.invokestatic 56, 3) := by decide +kernel
theorem dX7_advances_152 : decode cX7_advances 152 = .ok (.ifCond .eq 7, 3) := by decide +kernel
theorem dX7_advances_155 : decode cX7_advances 155 = .ok (.iconst 1, 1) := by decide +kernel
theorem dX7_advances_156 : decode cX7_advances 156 = .ok (.goto 24, 3) := by decide +kernel
theorem dX7_advances_159 : decode cX7_advances 159 = .ok (.iload_n 1, 1) := by decide +kernel
theorem dX7_advances_160 : decode cX7_advances 160 = .ok (.bipush 44, 2) := by decide +kernel
theorem dX7_advances_162 : decode cX7_advances 162 = .ok (.if_icmp .ne 7, 3) := by decide +kernel
theorem dX7_advances_165 : decode cX7_advances 165 = .ok (.iconst 3, 1) := by decide +kernel
theorem dX7_advances_166 : decode cX7_advances 166 = .ok (.goto 14, 3) := by decide +kernel
theorem dX7_advances_169 : decode cX7_advances 169 = .ok (.iload_n 1, 1) := by decide +kernel
theorem dX7_advances_170 : decode cX7_advances 170 = .ok (.bipush 59, 2) := by decide +kernel
theorem dX7_advances_172 : decode cX7_advances 172 = .ok (.if_icmp .ne 7, 3) := by decide +kernel
theorem dX7_advances_175 : decode cX7_advances 175 = .ok (.iconst 4, 1) := by decide +kernel
theorem dX7_advances_176 : decode cX7_advances 176 = .ok (.goto 4, 3) := by decide +kernel
theorem dX7_advances_179 : decode cX7_advances 179 = .ok (.iconst 5, 1) := by decide +kernel
theorem dX7_advances_180 : decode cX7_advances 180 = .ok (.putfield 98, 3) := by decide +kernel
theorem dX7_advances_183 : decode cX7_advances 183 = .ok (.aload_n 0, 1) := by decide +kernel
theorem dX7_advances_184 : decode cX7_advances 184 = .ok (.dup, 1) := by decide +kernel
theorem dX7_advances_185 : decode cX7_advances 185 = .ok (.getfield 86, 3) := by decide +kernel
theorem dX7_advances_188 : decode cX7_advances 188 = .ok (.aload_n 0, 1) := by decide +kernel
theorem dX7_advances_189 : decode cX7_advances 189 = .ok (.getfield 98, 3) := by decide +kernel
theorem dX7_advances_192 : decode cX7_advances 192 = .ok (.ifCond .ne 7, 3) := by decide +kernel
theorem dX7_advances_195 : decode cX7_advances 195 = .ok (.iconst 0, 1) := by decide +kernel
theorem dX7_advances_196 : decode cX7_advances 196 = .ok (.goto 4, 3) := by decide +kernel
theorem dX7_advances_199 : decode cX7_advances 199 = .ok (.iconst 1, 1) := by decide +kernel
theorem dX7_advances_200 : decode cX7_advances 200 = .ok (.iadd, 1) := by decide +kernel
theorem dX7_advances_201 : decode cX7_advances 201 = .ok (.putfield 86, 3) := by decide +kernel
theorem dX7_advances_204 : decode cX7_advances 204 = .ok (.return_, 1) := by decide +kernel
theorem dX7_isWell_0 : decode cX7_isWell 0 = .ok (.aload_n 0, 1) := by decide +kernel
theorem dX7_isWell_1 : decode cX7_isWell 1 = .ok (.getfield 101, 3) := by decide +kernel
theorem dX7_isWell_4 : decode cX7_isWell 4 = .ok (.ifCond .ge 7, 3) := by decide +kernel
theorem dX7_isWell_7 : decode cX7_isWell 7 = .ok (.iconst 1, 1) := by decide +kernel
theorem dX7_isWell_8 : decode cX7_isWell 8 = .ok (.goto 4, 3) := by decide +kernel
theorem dX7_isWell_11 : decode cX7_isWell 11 = .ok (.iconst 0, 1) := by decide +kernel
theorem dX7_isWell_12 : decode cX7_isWell 12 = .ok (.ireturn, 1) := by decide +kernel
set_option maxRecDepth 20000 in
theorem ggX7_takes_X7_isWell : GoodIn wsX7_takes wsX7_isWell := goodIn_r _ [9, 2, 25, 26, 27, 28, 29, 30, 31, 32, 33, 34, 35, 36, 37, 38, 39, 40, 41, 42, 43, 44, 45, 46, 47] (by decide +kernel) (by decide +kernel)
set_option maxRecDepth 20000 in
theorem gX7_takes_X7_isWell : GoodIn wsX7_takes (wsV RX7 104 RX7 yX7_isWell wsX7_isWell) := goodIn_app (goodIn_of _ (by decide +kernel)) ggX7_takes_X7_isWell
set_option maxRecDepth 20000 in
theorem ggX7_takes_X7_advances : GoodIn wsX7_takes wsX7_advances := goodIn_r _ [13, 14, 1, 4, 15, 16, 17, 18, 8, 19, 20, 21, 22, 23, 24, 25, 26, 27, 28, 29, 30, 31, 32, 33, 34, 35, 36, 37, 38, 39, 40, 41, 42, 43, 44, 45, 46, 47] (by decide +kernel) (by decide +kernel)
set_option maxRecDepth 20000 in
theorem gX7_takes_X7_advances : GoodIn wsX7_takes (wsV RX7 111 RX7 yX7_advances wsX7_advances) := goodIn_app (goodIn_of _ (by decide +kernel)) ggX7_takes_X7_advances
theorem dX7_takes_0 : decode cX7_takes 0 = .ok (.aload_n 0, 1) := by decide +kernel
theorem dX7_takes_1 : decode cX7_takes 1 = .ok (.invokevirtual 104, 3) := by decide +kernel
theorem dX7_takes_4 : decode cX7_takes 4 = .ok (.ifCond .ne 5, 3) := by decide +kernel
theorem dX7_takes_7 : decode cX7_takes 7 = .ok (.iconst 0, 1) := by decide +kernel
theorem dX7_takes_8 : decode cX7_takes 8 = .ok (.ireturn, 1) := by decide +kernel
theorem dX7_takes_9 : decode cX7_takes 9 = .ok (.iload_n 1, 1) := by decide +kernel
theorem dX7_takes_10 : decode cX7_takes 10 = .ok (.ifCond .ne 18, 3) := by decide +kernel
theorem dX7_takes_13 : decode cX7_takes 13 = .ok (.aload_n 0, 1) := by decide +kernel
theorem dX7_takes_14 : decode cX7_takes 14 = .ok (.aload_n 0, 1) := by decide +kernel
theorem dX7_takes_15 : decode cX7_takes 15 = .ok (.getfield 89, 3) := by decide +kernel
theorem dX7_takes_18 : decode cX7_takes 18 = .ok (.putfield 101, 3) := by decide +kernel
theorem dX7_takes_21 : decode cX7_takes 21 = .ok (.aload_n 0, 1) := by decide +kernel
theorem dX7_takes_22 : decode cX7_takes 22 = .ok (.iload_n 2, 1) := by decide +kernel
theorem dX7_takes_23 : decode cX7_takes 23 = .ok (.putfield 108, 3) := by decide +kernel
theorem dX7_takes_26 : decode cX7_takes 26 = .ok (.iconst 0, 1) := by decide +kernel
theorem dX7_takes_27 : decode cX7_takes 27 = .ok (.ireturn, 1) := by decide +kernel
theorem dX7_takes_28 : decode cX7_takes 28 = .ok (.aload_n 0, 1) := by decide +kernel
theorem dX7_takes_29 : decode cX7_takes 29 = .ok (.getfield 95, 3) := by decide +kernel
theorem dX7_takes_32 : decode cX7_takes 32 = .ok (.istore_n 3, 1) := by decide +kernel
theorem dX7_takes_33 : decode cX7_takes 33 = .ok (.aload_n 0, 1) := by decide +kernel
theorem dX7_takes_34 : decode cX7_takes 34 = .ok (.invokevirtual 111, 3) := by decide +kernel
theorem dX7_takes_37 : decode cX7_takes 37 = .ok (.iload_n 3, 1) := by decide +kernel
theorem dX7_takes_38 : decode cX7_takes 38 = .ok (.ireturn, 1) := by decide +kernel
set_option maxRecDepth 20000 in
theorem ggX7_figure_X7_isWell : GoodIn wsX7_figure wsX7_isWell := goodIn_r _ [7, 8, 29, 30, 31, 32, 33, 34, 35, 36, 37, 38, 39, 40, 41, 42, 43, 44, 45, 46, 47, 48, 49, 50, 51] (by decide +kernel) (by decide +kernel)
set_option maxRecDepth 20000 in
theorem gX7_figure_X7_isWell : GoodIn wsX7_figure (wsV RX7 104 RX7 yX7_isWell wsX7_isWell) := goodIn_app (goodIn_of _ (by decide +kernel)) ggX7_figure_X7_isWell
set_option maxRecDepth 20000 in
theorem ggX7_figure_X7_takes : GoodIn wsX7_figure wsX7_takes := goodIn_r _ [12, 13, 8, 14, 2, 3, 4, 5, 6, 7, 15, 16, 17, 18, 19, 1, 20, 21, 22, 23, 24, 25, 26, 27, 28, 29, 30, 31, 32, 33, 34, 35, 36, 37, 38, 39, 40, 41, 42, 43, 44, 45, 46, 47, 48, 49, 50, 51] (by decide +kernel) (by decide +kernel)
set_option maxRecDepth 20000 in
theorem gX7_figure_X7_takes : GoodIn wsX7_figure (wsV RX7 114 RX7 yX7_takes wsX7_takes) := goodIn_app (goodIn_of _ (by decide +kernel)) ggX7_figure_X7_takes
set_option maxRecDepth 20000 in
theorem ggX7_figure_X7_in : GoodIn wsX7_figure wsX7_in := goodIn_r _ [28] (by decide +kernel) (by decide +kernel)
set_option maxRecDepth 20000 in
theorem gX7_figure_X7_in : GoodIn wsX7_figure (va_wsS RX7 56 yX7_in wsX7_in) := goodIn_app (goodIn_of _ (by decide +kernel)) ggX7_figure_X7_in
theorem dX7_figure_0 : decode cX7_figure 0 = .ok (.aload_n 0, 1) := by decide +kernel
theorem dX7_figure_1 : decode cX7_figure 1 = .ok (.invokevirtual 104, 3) := by decide +kernel
theorem dX7_figure_4 : decode cX7_figure 4 = .ok (.ifCond .eq 18, 3) := by decide +kernel
theorem dX7_figure_7 : decode cX7_figure 7 = .ok (.aload_n 0, 1) := by decide +kernel
theorem dX7_figure_8 : decode cX7_figure 8 = .ok (.getfield 98, 3) := by decide +kernel
theorem dX7_figure_11 : decode cX7_figure 11 = .ok (.iconst 2, 1) := by decide +kernel
theorem dX7_figure_12 : decode cX7_figure 12 = .ok (.if_icmp .eq 10, 3) := by decide +kernel
theorem dX7_figure_15 : decode cX7_figure 15 = .ok (.aload_n 0, 1) := by decide +kernel
theorem dX7_figure_16 : decode cX7_figure 16 = .ok (.iconst 0, 1) := by decide +kernel
theorem dX7_figure_17 : decode cX7_figure 17 = .ok (.iconst 1, 1) := by decide +kernel
theorem dX7_figure_18 : decode cX7_figure 18 = .ok (.invokevirtual 114, 3) := by decide +kernel
theorem dX7_figure_21 : decode cX7_figure 21 = .ok (.ireturn, 1) := by decide +kernel
theorem dX7_figure_22 : decode cX7_figure 22 = .ok (.aload_n 0, 1) := by decide +kernel
theorem dX7_figure_23 : decode cX7_figure 23 = .ok (.aload_n 0, 1) := by decide +kernel
theorem dX7_figure_24 : decode cX7_figure 24 = .ok (.getfield 95, 3) := by decide +kernel
theorem dX7_figure_27 : decode cX7_figure 27 = .ok (.iload_n 1, 1) := by decide +kernel
theorem dX7_figure_28 : decode cX7_figure 28 = .ok (.iload_n 2, 1) := by decide +kernel
theorem dX7_figure_29 : decode cX7_figure 29 = .ok (.invokestatic 56, 3) := by decide +kernel
theorem dX7_figure_32 : decode cX7_figure 32 = .ok (.iconst 2, 1) := by decide +kernel
theorem dX7_figure_33 : decode cX7_figure 33 = .ok (.invokevirtual 114, 3) := by decide +kernel
theorem dX7_figure_36 : decode cX7_figure 36 = .ok (.ireturn, 1) := by decide +kernel
theorem dX7_kindOf_0 : decode cX7_kindOf 0 = .ok (.iload_n 0, 1) := by decide +kernel
theorem dX7_kindOf_1 : decode cX7_kindOf 1 = .ok (.bipush 116, 2) := by decide +kernel
theorem dX7_kindOf_3 : decode cX7_kindOf 3 = .ok (.if_icmp .ne 7, 3) := by decide +kernel
theorem dX7_kindOf_6 : decode cX7_kindOf 6 = .ok (.iconst 1, 1) := by decide +kernel
theorem dX7_kindOf_7 : decode cX7_kindOf 7 = .ok (.goto 44, 3) := by decide +kernel
theorem dX7_kindOf_10 : decode cX7_kindOf 10 = .ok (.iload_n 0, 1) := by decide +kernel
theorem dX7_kindOf_11 : decode cX7_kindOf 11 = .ok (.bipush 103, 2) := by decide +kernel
theorem dX7_kindOf_13 : decode cX7_kindOf 13 = .ok (.if_icmp .ne 7, 3) := by decide +kernel
theorem dX7_kindOf_16 : decode cX7_kindOf 16 = .ok (.iconst 2, 1) := by decide +kernel
theorem dX7_kindOf_17 : decode cX7_kindOf 17 = .ok (.goto 34, 3) := by decide +kernel
theorem dX7_kindOf_20 : decode cX7_kindOf 20 = .ok (.iload_n 0, 1) := by decide +kernel
theorem dX7_kindOf_21 : decode cX7_kindOf 21 = .ok (.bipush 118, 2) := by decide +kernel
theorem dX7_kindOf_23 : decode cX7_kindOf 23 = .ok (.if_icmp .ne 7, 3) := by decide +kernel
theorem dX7_kindOf_26 : decode cX7_kindOf 26 = .ok (.iconst 3, 1) := by decide +kernel
theorem dX7_kindOf_27 : decode cX7_kindOf 27 = .ok (.goto 24, 3) := by decide +kernel
theorem dX7_kindOf_30 : decode cX7_kindOf 30 = .ok (.iload_n 0, 1) := by decide +kernel
theorem dX7_kindOf_31 : decode cX7_kindOf 31 = .ok (.bipush 115, 2) := by decide +kernel
theorem dX7_kindOf_33 : decode cX7_kindOf 33 = .ok (.if_icmp .ne 7, 3) := by decide +kernel
theorem dX7_kindOf_36 : decode cX7_kindOf 36 = .ok (.iconst 4, 1) := by decide +kernel
theorem dX7_kindOf_37 : decode cX7_kindOf 37 = .ok (.goto 14, 3) := by decide +kernel
theorem dX7_kindOf_40 : decode cX7_kindOf 40 = .ok (.iload_n 0, 1) := by decide +kernel
theorem dX7_kindOf_41 : decode cX7_kindOf 41 = .ok (.bipush 97, 2) := by decide +kernel
theorem dX7_kindOf_43 : decode cX7_kindOf 43 = .ok (.if_icmp .ne 7, 3) := by decide +kernel
theorem dX7_kindOf_46 : decode cX7_kindOf 46 = .ok (.iconst 5, 1) := by decide +kernel
theorem dX7_kindOf_47 : decode cX7_kindOf 47 = .ok (.goto 4, 3) := by decide +kernel
theorem dX7_kindOf_50 : decode cX7_kindOf 50 = .ok (.iconst 0, 1) := by decide +kernel
theorem dX7_kindOf_51 : decode cX7_kindOf 51 = .ok (.ireturn, 1) := by decide +kernel
set_option maxRecDepth 20000 in
theorem ggX7_next_X7_takes : GoodIn wsX7_next wsX7_takes := goodIn_r _ [6, 7, 8, 9, 10, 11, 12, 13, 5, 14, 15, 16, 17, 18, 19, 1, 20, 21, 22, 23, 24, 25, 26, 27, 28, 33, 34, 35, 36, 37, 38, 39, 40, 41, 42, 43, 44, 45, 46, 47, 48, 49, 50, 51, 52, 53, 54, 55] (by decide +kernel) (by decide +kernel)
set_option maxRecDepth 20000 in
theorem gX7_next_X7_takes : GoodIn wsX7_next (wsV RX7 114 RX7 yX7_takes wsX7_takes) := goodIn_app (goodIn_of _ (by decide +kernel)) ggX7_next_X7_takes
set_option maxRecDepth 20000 in
theorem ggX7_next_X7_figure : GoodIn wsX7_next wsX7_figure := goodIn_r _ [32, 1, 10, 11, 12, 13, 5, 14, 8, 2, 3, 4, 6, 7, 9, 15, 16, 17, 18, 19, 20, 21, 22, 23, 24, 25, 26, 27, 28, 33, 34, 35, 36, 37, 38, 39, 40, 41, 42, 43, 44, 45, 46, 47, 48, 49, 50, 51, 52, 53, 54, 55] (by decide +kernel) (by decide +kernel)
set_option maxRecDepth 20000 in
theorem gX7_next_X7_figure : GoodIn wsX7_next (wsV RX7 118 RX7 yX7_figure wsX7_figure) := goodIn_app (goodIn_of _ (by decide +kernel)) ggX7_next_X7_figure
theorem dX7_next_0 : decode cX7_next 0 = .ok (.aload_n 0, 1) := by decide +kernel
theorem dX7_next_1 : decode cX7_next 1 = .ok (.aload_n 0, 1) := by decide +kernel
theorem dX7_next_2 : decode cX7_next 2 = .ok (.getfield 98, 3) := by decide +kernel
theorem dX7_next_5 : decode cX7_next 5 = .ok (.iconst 3, 1) := by decide +kernel
theorem dX7_next_6 : decode cX7_next 6 = .ok (.if_icmp .ne 7, 3) := by decide +kernel
theorem dX7_next_9 : decode cX7_next 9 = .ok (.iconst 1, 1) := by decide +kernel
theorem dX7_next_10 : decode cX7_next 10 = .ok (.goto 4, 3) := by decide +kernel
theorem dX7_next_13 : decode cX7_next 13 = .ok (.iconst 0, 1) := by decide +kernel
theorem dX7_next_14 : decode cX7_next 14 = .ok (.iconst 1, 1) := by decide +kernel
theorem dX7_next_15 : decode cX7_next 15 = .ok (.invokevirtual 114, 3) := by decide +kernel
theorem dX7_next_18 : decode cX7_next 18 = .ok (.pop, 1) := by decide +kernel
theorem dX7_next_19 : decode cX7_next 19 = .ok (.aload_n 0, 1) := by decide +kernel
theorem dX7_next_20 : decode cX7_next 20 = .ok (.iload_n 1, 1) := by decide +kernel
theorem dX7_next_21 : decode cX7_next 21 = .ok (.iload_n 2, 1) := by decide +kernel
theorem dX7_next_22 : decode cX7_next 22 = .ok (.invokevirtual 118, 3) := by decide +kernel
theorem dX7_next_25 : decode cX7_next 25 = .ok (.ireturn, 1) := by decide +kernel
set_option maxRecDepth 20000 in
theorem ggX7_readsClue_X7_kindOf : GoodIn wsX7_readsClue wsX7_kindOf := goodIn_r _ [7] (by decide +kernel) (by decide +kernel)
set_option maxRecDepth 20000 in
theorem gX7_readsClue_X7_kindOf : GoodIn wsX7_readsClue (va_wsS RX7 121 yX7_kindOf wsX7_kindOf) := goodIn_app (goodIn_of _ (by decide +kernel)) ggX7_readsClue_X7_kindOf
set_option maxRecDepth 20000 in
theorem ggX7_readsClue_X7_takes : GoodIn wsX7_readsClue wsX7_takes := goodIn_r _ [11, 12, 13, 14, 1, 15, 16, 17, 6, 18, 19, 20, 21, 22, 23, 3, 24, 25, 26, 27, 28, 29, 30, 31, 32, 41, 42, 43, 44, 45, 46, 47, 48, 49, 50, 51, 52, 53, 54, 55, 56, 57, 58, 59, 60, 61, 62, 63] (by decide +kernel) (by decide +kernel)
set_option maxRecDepth 20000 in
theorem gX7_readsClue_X7_takes : GoodIn wsX7_readsClue (wsV RX7 114 RX7 yX7_takes wsX7_takes) := goodIn_app (goodIn_of _ (by decide +kernel)) ggX7_readsClue_X7_takes
set_option maxRecDepth 20000 in
theorem ggX7_readsClue_X7_figure : GoodIn wsX7_readsClue wsX7_figure := goodIn_r _ [36, 3, 1, 15, 16, 17, 6, 18, 13, 8, 9, 10, 11, 12, 14, 19, 20, 21, 22, 23, 24, 25, 26, 27, 28, 29, 30, 31, 32, 41, 42, 43, 44, 45, 46, 47, 48, 49, 50, 51, 52, 53, 54, 55, 56, 57, 58, 59, 60, 61, 62, 63] (by decide +kernel) (by decide +kernel)
set_option maxRecDepth 20000 in
theorem gX7_readsClue_X7_figure : GoodIn wsX7_readsClue (wsV RX7 118 RX7 yX7_figure wsX7_figure) := goodIn_app (goodIn_of _ (by decide +kernel)) ggX7_readsClue_X7_figure
set_option maxRecDepth 20000 in
theorem ggX7_readsClue_X7_next : GoodIn wsX7_readsClue wsX7_next := goodIn_r _ [40, 3, 8, 9, 10, 6, 11, 12, 13, 14, 1, 15, 16, 17, 18, 19, 20, 21, 22, 23, 24, 25, 26, 27, 28, 29, 30, 31, 32, 33, 34, 35, 36, 41, 42, 43, 44, 45, 46, 47, 48, 49, 50, 51, 52, 53, 54, 55, 56, 57, 58, 59, 60, 61, 62, 63] (by decide +kernel) (by decide +kernel)
set_option maxRecDepth 20000 in
theorem gX7_readsClue_X7_next : GoodIn wsX7_readsClue (wsV RX7 124 RX7 yX7_next wsX7_next) := goodIn_app (goodIn_of _ (by decide +kernel)) ggX7_readsClue_X7_next
set_option maxRecDepth 20000 in
theorem ggX7_readsClue_X7_isWell : GoodIn wsX7_readsClue wsX7_isWell := goodIn_r _ [18, 13, 41, 42, 43, 44, 45, 46, 47, 48, 49, 50, 51, 52, 53, 54, 55, 56, 57, 58, 59, 60, 61, 62, 63] (by decide +kernel) (by decide +kernel)
set_option maxRecDepth 20000 in
theorem gX7_readsClue_X7_isWell : GoodIn wsX7_readsClue (wsV RX7 104 RX7 yX7_isWell wsX7_isWell) := goodIn_app (goodIn_of _ (by decide +kernel)) ggX7_readsClue_X7_isWell
theorem dX7_readsClue_0 : decode cX7_readsClue 0 = .ok (.aload_n 0, 1) := by decide +kernel
theorem dX7_readsClue_1 : decode cX7_readsClue 1 = .ok (.getfield 95, 3) := by decide +kernel
theorem dX7_readsClue_4 : decode cX7_readsClue 4 = .ok (.invokestatic 121, 3) := by decide +kernel
theorem dX7_readsClue_7 : decode cX7_readsClue 7 = .ok (.istore_n 1, 1) := by decide +kernel
theorem dX7_readsClue_8 : decode cX7_readsClue 8 = .ok (.aload_n 0, 1) := by decide +kernel
theorem dX7_readsClue_9 : decode cX7_readsClue 9 = .ok (.aload_n 0, 1) := by decide +kernel
theorem dX7_readsClue_10 : decode cX7_readsClue 10 = .ok (.getfield 28, 3) := by decide +kernel
theorem dX7_readsClue_13 : decode cX7_readsClue 13 = .ok (.iconst 4, 1) := by decide +kernel
theorem dX7_readsClue_14 : decode cX7_readsClue 14 = .ok (.iaload, 1) := by decide +kernel
theorem dX7_readsClue_15 : decode cX7_readsClue 15 = .ok (.bipush 6, 2) := by decide +kernel
theorem dX7_readsClue_17 : decode cX7_readsClue 17 = .ok (.if_icmp .ge 7, 3) := by decide +kernel
theorem dX7_readsClue_20 : decode cX7_readsClue 20 = .ok (.iconst 1, 1) := by decide +kernel
theorem dX7_readsClue_21 : decode cX7_readsClue 21 = .ok (.goto 4, 3) := by decide +kernel
theorem dX7_readsClue_24 : decode cX7_readsClue 24 = .ok (.iconst 0, 1) := by decide +kernel
theorem dX7_readsClue_25 : decode cX7_readsClue 25 = .ok (.iconst 3, 1) := by decide +kernel
theorem dX7_readsClue_26 : decode cX7_readsClue 26 = .ok (.invokevirtual 114, 3) := by decide +kernel
theorem dX7_readsClue_29 : decode cX7_readsClue 29 = .ok (.pop, 1) := by decide +kernel
theorem dX7_readsClue_30 : decode cX7_readsClue 30 = .ok (.iconst 5, 1) := by decide +kernel
theorem dX7_readsClue_31 : decode cX7_readsClue 31 = .ok (.iconst 4, 1) := by decide +kernel
theorem dX7_readsClue_32 : decode cX7_readsClue 32 = .ok (.aload_n 0, 1) := by decide +kernel
theorem dX7_readsClue_33 : decode cX7_readsClue 33 = .ok (.getfield 28, 3) := by decide +kernel
theorem dX7_readsClue_36 : decode cX7_readsClue 36 = .ok (.iconst 4, 1) := by decide +kernel
theorem dX7_readsClue_37 : decode cX7_readsClue 37 = .ok (.iaload, 1) := by decide +kernel
theorem dX7_readsClue_38 : decode cX7_readsClue 38 = .ok (.bipush 6, 2) := by decide +kernel
theorem dX7_readsClue_40 : decode cX7_readsClue 40 = .ok (.if_icmp .ge 12, 3) := by decide +kernel
theorem dX7_readsClue_43 : decode cX7_readsClue 43 = .ok (.aload_n 0, 1) := by decide +kernel
theorem dX7_readsClue_44 : decode cX7_readsClue 44 = .ok (.getfield 28, 3) := by decide +kernel
theorem dX7_readsClue_47 : decode cX7_readsClue 47 = .ok (.iconst 4, 1) := by decide +kernel
theorem dX7_readsClue_48 : decode cX7_readsClue 48 = .ok (.iaload, 1) := by decide +kernel
theorem dX7_readsClue_49 : decode cX7_readsClue 49 = .ok (.goto 4, 3) := by decide +kernel
theorem dX7_readsClue_52 : decode cX7_readsClue 52 = .ok (.iconst 0, 1) := by decide +kernel
theorem dX7_readsClue_53 : decode cX7_readsClue 53 = .ok (.imul, 1) := by decide +kernel
theorem dX7_readsClue_54 : decode cX7_readsClue 54 = .ok (.iadd, 1) := by decide +kernel
theorem dX7_readsClue_55 : decode cX7_readsClue 55 = .ok (.istore_n 2, 1) := by decide +kernel
theorem dX7_readsClue_56 : decode cX7_readsClue 56 = .ok (.aload_n 0, 1) := by decide +kernel
theorem dX7_readsClue_57 : decode cX7_readsClue 57 = .ok (.iconst 1, 1) := by decide +kernel
theorem dX7_readsClue_58 : decode cX7_readsClue 58 = .ok (.iconst 1, 1) := by decide +kernel
theorem dX7_readsClue_59 : decode cX7_readsClue 59 = .ok (.aload_n 0, 1) := by decide +kernel
theorem dX7_readsClue_60 : decode cX7_readsClue 60 = .ok (.getfield 28, 3) := by decide +kernel
theorem dX7_readsClue_63 : decode cX7_readsClue 63 = .ok (.iconst 0, 1) := by decide +kernel
theorem dX7_readsClue_64 : decode cX7_readsClue 64 = .ok (.iaload, 1) := by decide +kernel
theorem dX7_readsClue_65 : decode cX7_readsClue 65 = .ok (.ishl, 1) := by decide +kernel
theorem dX7_readsClue_66 : decode cX7_readsClue 66 = .ok (.iconst 1, 1) := by decide +kernel
theorem dX7_readsClue_67 : decode cX7_readsClue 67 = .ok (.isub, 1) := by decide +kernel
theorem dX7_readsClue_68 : decode cX7_readsClue 68 = .ok (.invokevirtual 118, 3) := by decide +kernel
theorem dX7_readsClue_71 : decode cX7_readsClue 71 = .ok (.istore_n 3, 1) := by decide +kernel
theorem dX7_readsClue_72 : decode cX7_readsClue 72 = .ok (.aload_n 0, 1) := by decide +kernel
theorem dX7_readsClue_73 : decode cX7_readsClue 73 = .ok (.iconst 2, 1) := by decide +kernel
theorem dX7_readsClue_74 : decode cX7_readsClue 74 = .ok (.iconst 4, 1) := by decide +kernel
theorem dX7_readsClue_75 : decode cX7_readsClue 75 = .ok (.invokevirtual 124, 3) := by decide +kernel
theorem dX7_readsClue_78 : decode cX7_readsClue 78 = .ok (.istore 4, 2) := by decide +kernel
theorem dX7_readsClue_80 : decode cX7_readsClue 80 = .ok (.aload_n 0, 1) := by decide +kernel
theorem dX7_readsClue_81 : decode cX7_readsClue 81 = .ok (.iconst 0, 1) := by decide +kernel
theorem dX7_readsClue_82 : decode cX7_readsClue 82 = .ok (.iload 4, 2) := by decide +kernel
theorem dX7_readsClue_84 : decode cX7_readsClue 84 = .ok (.iconst 1, 1) := by decide +kernel
theorem dX7_readsClue_85 : decode cX7_readsClue 85 = .ok (.isub, 1) := by decide +kernel
theorem dX7_readsClue_86 : decode cX7_readsClue 86 = .ok (.invokevirtual 124, 3) := by decide +kernel
theorem dX7_readsClue_89 : decode cX7_readsClue 89 = .ok (.istore 5, 2) := by decide +kernel
theorem dX7_readsClue_91 : decode cX7_readsClue 91 = .ok (.aload_n 0, 1) := by decide +kernel
theorem dX7_readsClue_92 : decode cX7_readsClue 92 = .ok (.aload_n 0, 1) := by decide +kernel
theorem dX7_readsClue_93 : decode cX7_readsClue 93 = .ok (.getfield 98, 3) := by decide +kernel
theorem dX7_readsClue_96 : decode cX7_readsClue 96 = .ok (.iconst 4, 1) := by decide +kernel
theorem dX7_readsClue_97 : decode cX7_readsClue 97 = .ok (.if_icmp .ne 7, 3) := by decide +kernel
theorem dX7_readsClue_100 : decode cX7_readsClue 100 = .ok (.iconst 1, 1) := by decide +kernel
theorem dX7_readsClue_101 : decode cX7_readsClue 101 = .ok (.goto 4, 3) := by decide +kernel
theorem dX7_readsClue_104 : decode cX7_readsClue 104 = .ok (.iconst 0, 1) := by decide +kernel
theorem dX7_readsClue_105 : decode cX7_readsClue 105 = .ok (.iconst 1, 1) := by decide +kernel
theorem dX7_readsClue_106 : decode cX7_readsClue 106 = .ok (.invokevirtual 114, 3) := by decide +kernel
theorem dX7_readsClue_109 : decode cX7_readsClue 109 = .ok (.pop, 1) := by decide +kernel
theorem dX7_readsClue_110 : decode cX7_readsClue 110 = .ok (.aload_n 0, 1) := by decide +kernel
theorem dX7_readsClue_111 : decode cX7_readsClue 111 = .ok (.invokevirtual 104, 3) := by decide +kernel
theorem dX7_readsClue_114 : decode cX7_readsClue 114 = .ok (.ifCond .eq 49, 3) := by decide +kernel
theorem dX7_readsClue_117 : decode cX7_readsClue 117 = .ok (.aload_n 0, 1) := by decide +kernel
theorem dX7_readsClue_118 : decode cX7_readsClue 118 = .ok (.getfield 28, 3) := by decide +kernel
theorem dX7_readsClue_121 : decode cX7_readsClue 121 = .ok (.iload_n 2, 1) := by decide +kernel
theorem dX7_readsClue_122 : decode cX7_readsClue 122 = .ok (.iload_n 1, 1) := by decide +kernel
theorem dX7_readsClue_123 : decode cX7_readsClue 123 = .ok (.iastore, 1) := by decide +kernel
theorem dX7_readsClue_124 : decode cX7_readsClue 124 = .ok (.aload_n 0, 1) := by decide +kernel
theorem dX7_readsClue_125 : decode cX7_readsClue 125 = .ok (.getfield 28, 3) := by decide +kernel
theorem dX7_readsClue_128 : decode cX7_readsClue 128 = .ok (.iload_n 2, 1) := by decide +kernel
theorem dX7_readsClue_129 : decode cX7_readsClue 129 = .ok (.iconst 1, 1) := by decide +kernel
theorem dX7_readsClue_130 : decode cX7_readsClue 130 = .ok (.iadd, 1) := by decide +kernel
theorem dX7_readsClue_131 : decode cX7_readsClue 131 = .ok (.iload_n 3, 1) := by decide +kernel
theorem dX7_readsClue_132 : decode cX7_readsClue 132 = .ok (.iastore, 1) := by decide +kernel
theorem dX7_readsClue_133 : decode cX7_readsClue 133 = .ok (.aload_n 0, 1) := by decide +kernel
theorem dX7_readsClue_134 : decode cX7_readsClue 134 = .ok (.getfield 28, 3) := by decide +kernel
theorem dX7_readsClue_137 : decode cX7_readsClue 137 = .ok (.iload_n 2, 1) := by decide +kernel
theorem dX7_readsClue_138 : decode cX7_readsClue 138 = .ok (.iconst 2, 1) := by decide +kernel
theorem dX7_readsClue_139 : decode cX7_readsClue 139 = .ok (.iadd, 1) := by decide +kernel
theorem dX7_readsClue_140 : decode cX7_readsClue 140 = .ok (.iload 4, 2) := by decide +kernel
theorem dX7_readsClue_142 : decode cX7_readsClue 142 = .ok (.iastore, 1) := by decide +kernel
theorem dX7_readsClue_143 : decode cX7_readsClue 143 = .ok (.aload_n 0, 1) := by decide +kernel
theorem dX7_readsClue_144 : decode cX7_readsClue 144 = .ok (.getfield 28, 3) := by decide +kernel
theorem dX7_readsClue_147 : decode cX7_readsClue 147 = .ok (.iload_n 2, 1) := by decide +kernel
theorem dX7_readsClue_148 : decode cX7_readsClue 148 = .ok (.iconst 3, 1) := by decide +kernel
theorem dX7_readsClue_149 : decode cX7_readsClue 149 = .ok (.iadd, 1) := by decide +kernel
theorem dX7_readsClue_150 : decode cX7_readsClue 150 = .ok (.iload 5, 2) := by decide +kernel
theorem dX7_readsClue_152 : decode cX7_readsClue 152 = .ok (.iastore, 1) := by decide +kernel
theorem dX7_readsClue_153 : decode cX7_readsClue 153 = .ok (.aload_n 0, 1) := by decide +kernel
theorem dX7_readsClue_154 : decode cX7_readsClue 154 = .ok (.getfield 28, 3) := by decide +kernel
theorem dX7_readsClue_157 : decode cX7_readsClue 157 = .ok (.iconst 4, 1) := by decide +kernel
theorem dX7_readsClue_158 : decode cX7_readsClue 158 = .ok (.dup2, 1) := by decide +kernel
theorem dX7_readsClue_159 : decode cX7_readsClue 159 = .ok (.iaload, 1) := by decide +kernel
theorem dX7_readsClue_160 : decode cX7_readsClue 160 = .ok (.iconst 1, 1) := by decide +kernel
theorem dX7_readsClue_161 : decode cX7_readsClue 161 = .ok (.iadd, 1) := by decide +kernel
theorem dX7_readsClue_162 : decode cX7_readsClue 162 = .ok (.iastore, 1) := by decide +kernel
theorem dX7_readsClue_163 : decode cX7_readsClue 163 = .ok (.return_, 1) := by decide +kernel
set_option maxRecDepth 20000 in
theorem ggX7_city_X7_advances : GoodIn wsX7_city wsX7_advances := goodIn_r _ [14, 2, 15, 5, 4, 16, 17, 18, 13, 19, 6, 20, 21, 22, 23, 51, 52, 53, 54, 55, 56, 57, 58, 59, 60, 61, 62, 63, 64, 65, 66, 67, 68, 69, 70, 71, 72, 73] (by decide +kernel) (by decide +kernel)
set_option maxRecDepth 20000 in
theorem gX7_city_X7_advances : GoodIn wsX7_city (wsV RX7 111 RX7 yX7_advances wsX7_advances) := goodIn_app (goodIn_of _ (by decide +kernel)) ggX7_city_X7_advances
set_option maxRecDepth 20000 in
theorem ggX7_city_X7_takes : GoodIn wsX7_city wsX7_takes := goodIn_r _ [27, 15, 3, 28, 5, 29, 30, 31, 13, 32, 10, 11, 12, 14, 2, 4, 16, 17, 18, 19, 6, 20, 21, 22, 23, 51, 52, 53, 54, 55, 56, 57, 58, 59, 60, 61, 62, 63, 64, 65, 66, 67, 68, 69, 70, 71, 72, 73] (by decide +kernel) (by decide +kernel)
set_option maxRecDepth 20000 in
theorem gX7_city_X7_takes : GoodIn wsX7_city (wsV RX7 114 RX7 yX7_takes wsX7_takes) := goodIn_app (goodIn_of _ (by decide +kernel)) ggX7_city_X7_takes
set_option maxRecDepth 20000 in
theorem ggX7_city_X7_figure : GoodIn wsX7_city wsX7_figure := goodIn_r _ [36, 4, 5, 29, 30, 31, 13, 32, 3, 24, 25, 26, 27, 15, 28, 10, 11, 12, 14, 2, 16, 17, 18, 19, 6, 20, 21, 22, 23, 51, 52, 53, 54, 55, 56, 57, 58, 59, 60, 61, 62, 63, 64, 65, 66, 67, 68, 69, 70, 71, 72, 73] (by decide +kernel) (by decide +kernel)
set_option maxRecDepth 20000 in
theorem gX7_city_X7_figure : GoodIn wsX7_city (wsV RX7 118 RX7 yX7_figure wsX7_figure) := goodIn_app (goodIn_of _ (by decide +kernel)) ggX7_city_X7_figure
set_option maxRecDepth 20000 in
theorem ggX7_city_X7_next : GoodIn wsX7_city wsX7_next := goodIn_r _ [40, 4, 24, 25, 26, 13, 27, 15, 3, 28, 5, 29, 30, 31, 32, 10, 11, 12, 14, 2, 16, 17, 18, 19, 6, 20, 21, 22, 23, 33, 34, 35, 36, 51, 52, 53, 54, 55, 56, 57, 58, 59, 60, 61, 62, 63, 64, 65, 66, 67, 68, 69, 70, 71, 72, 73] (by decide +kernel) (by decide +kernel)
set_option maxRecDepth 20000 in
theorem gX7_city_X7_next : GoodIn wsX7_city (wsV RX7 124 RX7 yX7_next wsX7_next) := goodIn_app (goodIn_of _ (by decide +kernel)) ggX7_city_X7_next
set_option maxRecDepth 20000 in
theorem ggX7_city_X7_isWell : GoodIn wsX7_city wsX7_isWell := goodIn_r _ [32, 3, 51, 52, 53, 54, 55, 56, 57, 58, 59, 60, 61, 62, 63, 64, 65, 66, 67, 68, 69, 70, 71, 72, 73] (by decide +kernel) (by decide +kernel)
set_option maxRecDepth 20000 in
theorem gX7_city_X7_isWell : GoodIn wsX7_city (wsV RX7 104 RX7 yX7_isWell wsX7_isWell) := goodIn_app (goodIn_of _ (by decide +kernel)) ggX7_city_X7_isWell
set_option maxRecDepth 20000 in
theorem ggX7_city_X7_kindOf : GoodIn wsX7_city wsX7_kindOf := goodIn_r _ [43] (by decide +kernel) (by decide +kernel)
set_option maxRecDepth 20000 in
theorem gX7_city_X7_kindOf : GoodIn wsX7_city (va_wsS RX7 121 yX7_kindOf wsX7_kindOf) := goodIn_app (goodIn_of _ (by decide +kernel)) ggX7_city_X7_kindOf
set_option maxRecDepth 20000 in
theorem ggX7_city_X7_readsClue : GoodIn wsX7_city wsX7_readsClue := goodIn_r _ [47, 5, 1, 4, 41, 42, 13, 43, 24, 25, 26, 27, 15, 3, 28, 29, 30, 31, 32, 10, 11, 12, 14, 2, 16, 17, 18, 19, 6, 20, 21, 22, 23, 33, 34, 35, 36, 37, 38, 39, 40, 51, 52, 53, 54, 55, 56, 57, 58, 59, 60, 61, 62, 63, 64, 65, 66, 67, 68, 69, 70, 71, 72, 73] (by decide +kernel) (by decide +kernel)
set_option maxRecDepth 20000 in
theorem gX7_city_X7_readsClue : GoodIn wsX7_city (wsV RX7 127 RX7 yX7_readsClue wsX7_readsClue) := goodIn_app (goodIn_of _ (by decide +kernel)) ggX7_city_X7_readsClue
set_option maxRecDepth 20000 in
theorem ggX7_city_X7_copies : GoodIn wsX7_city wsX7_copies := goodIn_r _ [50] (by decide +kernel) (by decide +kernel)
set_option maxRecDepth 20000 in
theorem gX7_city_X7_copies : GoodIn wsX7_city (va_wsS RX7 131 yX7_copies wsX7_copies) := goodIn_app (goodIn_of _ (by decide +kernel)) ggX7_city_X7_copies
theorem dX7_city_0 : decode cX7_city 0 = .ok (.iconst 0, 1) := by decide +kernel
theorem dX7_city_1 : decode cX7_city 1 = .ok (.istore_n 1, 1) := by decide +kernel
theorem dX7_city_2 : decode cX7_city 2 = .ok (.iload_n 1, 1) := by decide +kernel
theorem dX7_city_3 : decode cX7_city 3 = .ok (.bipush 29, 2) := by decide +kernel
theorem dX7_city_5 : decode cX7_city 5 = .ok (.if_icmp .ge 16, 3) := by decide +kernel
theorem dX7_city_8 : decode cX7_city 8 = .ok (.aload_n 0, 1) := by decide +kernel
theorem dX7_city_9 : decode cX7_city 9 = .ok (.getfield 28, 3) := by decide +kernel
theorem dX7_city_12 : decode cX7_city 12 = .ok (.iload_n 1, 1) := by decide +kernel
theorem dX7_city_13 : decode cX7_city 13 = .ok (.iconst 0, 1) := by decide +kernel
theorem dX7_city_14 : decode cX7_city 14 = .ok (.iastore, 1) := by decide +kernel
theorem dX7_city_15 : decode cX7_city 15 = .ok (.iinc 1 1, 3) := by decide +kernel
theorem dX7_city_18 : decode cX7_city 18 = .ok (.goto (-16), 3) := by decide +kernel
theorem dX7_city_21 : decode cX7_city 21 = .ok (.aload_n 0, 1) := by decide +kernel
theorem dX7_city_22 : decode cX7_city 22 = .ok (.iconst 0, 1) := by decide +kernel
theorem dX7_city_23 : decode cX7_city 23 = .ok (.putfield 86, 3) := by decide +kernel
theorem dX7_city_26 : decode cX7_city 26 = .ok (.aload_n 0, 1) := by decide +kernel
theorem dX7_city_27 : decode cX7_city 27 = .ok (.iconst (-1), 1) := by decide +kernel
theorem dX7_city_28 : decode cX7_city 28 = .ok (.putfield 101, 3) := by decide +kernel
theorem dX7_city_31 : decode cX7_city 31 = .ok (.aload_n 0, 1) := by decide +kernel
theorem dX7_city_32 : decode cX7_city 32 = .ok (.invokevirtual 111, 3) := by decide +kernel
theorem dX7_city_35 : decode cX7_city 35 = .ok (.aload_n 0, 1) := by decide +kernel
theorem dX7_city_36 : decode cX7_city 36 = .ok (.aload_n 0, 1) := by decide +kernel
theorem dX7_city_37 : decode cX7_city 37 = .ok (.getfield 98, 3) := by decide +kernel
theorem dX7_city_40 : decode cX7_city 40 = .ok (.iconst 1, 1) := by decide +kernel
theorem dX7_city_41 : decode cX7_city 41 = .ok (.if_icmp .ne 16, 3) := by decide +kernel
theorem dX7_city_44 : decode cX7_city 44 = .ok (.aload_n 0, 1) := by decide +kernel
theorem dX7_city_45 : decode cX7_city 45 = .ok (.getfield 95, 3) := by decide +kernel
theorem dX7_city_48 : decode cX7_city 48 = .ok (.bipush 99, 2) := by decide +kernel
theorem dX7_city_50 : decode cX7_city 50 = .ok (.if_icmp .ne 7, 3) := by decide +kernel
theorem dX7_city_53 : decode cX7_city 53 = .ok (.iconst 1, 1) := by decide +kernel
theorem dX7_city_54 : decode cX7_city 54 = .ok (.goto 4, 3) := by decide +kernel
theorem dX7_city_57 : decode cX7_city 57 = .ok (.iconst 0, 1) := by decide +kernel
theorem dX7_city_58 : decode cX7_city 58 = .ok (.iconst 1, 1) := by decide +kernel
theorem dX7_city_59 : decode cX7_city 59 = .ok (.invokevirtual 114, 3) := by decide +kernel
theorem dX7_city_62 : decode cX7_city 62 = .ok (.pop, 1) := by decide +kernel
theorem dX7_city_63 : decode cX7_city 63 = .ok (.aload_n 0, 1) := by decide +kernel
theorem dX7_city_64 : decode cX7_city 64 = .ok (.getfield 28, 3) := by decide +kernel
theorem dX7_city_67 : decode cX7_city 67 = .ok (.iconst 0, 1) := by decide +kernel
theorem dX7_city_68 : decode cX7_city 68 = .ok (.aload_n 0, 1) := by decide +kernel
theorem dX7_city_69 : decode cX7_city 69 = .ok (.iconst 2, 1) := by decide +kernel
theorem dX7_city_70 : decode cX7_city 70 = .ok (.bipush 6, 2) := by decide +kernel
theorem dX7_city_72 : decode cX7_city 72 = .ok (.invokevirtual 118, 3) := by decide +kernel
theorem dX7_city_75 : decode cX7_city 75 = .ok (.iastore, 1) := by decide +kernel
theorem dX7_city_76 : decode cX7_city 76 = .ok (.aload_n 0, 1) := by decide +kernel
theorem dX7_city_77 : decode cX7_city 77 = .ok (.getfield 28, 3) := by decide +kernel
theorem dX7_city_80 : decode cX7_city 80 = .ok (.iconst 1, 1) := by decide +kernel
theorem dX7_city_81 : decode cX7_city 81 = .ok (.aload_n 0, 1) := by decide +kernel
theorem dX7_city_82 : decode cX7_city 82 = .ok (.iconst 0, 1) := by decide +kernel
theorem dX7_city_83 : decode cX7_city 83 = .ok (.bipush 6, 2) := by decide +kernel
theorem dX7_city_85 : decode cX7_city 85 = .ok (.invokevirtual 124, 3) := by decide +kernel
theorem dX7_city_88 : decode cX7_city 88 = .ok (.iastore, 1) := by decide +kernel
theorem dX7_city_89 : decode cX7_city 89 = .ok (.aload_n 0, 1) := by decide +kernel
theorem dX7_city_90 : decode cX7_city 90 = .ok (.aload_n 0, 1) := by decide +kernel
theorem dX7_city_91 : decode cX7_city 91 = .ok (.getfield 98, 3) := by decide +kernel
theorem dX7_city_94 : decode cX7_city 94 = .ok (.iconst 4, 1) := by decide +kernel
theorem dX7_city_95 : decode cX7_city 95 = .ok (.if_icmp .ne 7, 3) := by decide +kernel
theorem dX7_city_98 : decode cX7_city 98 = .ok (.iconst 1, 1) := by decide +kernel
theorem dX7_city_99 : decode cX7_city 99 = .ok (.goto 4, 3) := by decide +kernel
theorem dX7_city_102 : decode cX7_city 102 = .ok (.iconst 0, 1) := by decide +kernel
theorem dX7_city_103 : decode cX7_city 103 = .ok (.iconst 1, 1) := by decide +kernel
theorem dX7_city_104 : decode cX7_city 104 = .ok (.invokevirtual 114, 3) := by decide +kernel
theorem dX7_city_107 : decode cX7_city 107 = .ok (.pop, 1) := by decide +kernel
theorem dX7_city_108 : decode cX7_city 108 = .ok (.aload_n 0, 1) := by decide +kernel
theorem dX7_city_109 : decode cX7_city 109 = .ok (.invokevirtual 104, 3) := by decide +kernel
theorem dX7_city_112 : decode cX7_city 112 = .ok (.ifCond .eq 28, 3) := by decide +kernel
theorem dX7_city_115 : decode cX7_city 115 = .ok (.aload_n 0, 1) := by decide +kernel
theorem dX7_city_116 : decode cX7_city 116 = .ok (.getfield 98, 3) := by decide +kernel
theorem dX7_city_119 : decode cX7_city 119 = .ok (.iconst 1, 1) := by decide +kernel
theorem dX7_city_120 : decode cX7_city 120 = .ok (.if_icmp .ne 20, 3) := by decide +kernel
theorem dX7_city_123 : decode cX7_city 123 = .ok (.aload_n 0, 1) := by decide +kernel
theorem dX7_city_124 : decode cX7_city 124 = .ok (.getfield 95, 3) := by decide +kernel
theorem dX7_city_127 : decode cX7_city 127 = .ok (.invokestatic 121, 3) := by decide +kernel
theorem dX7_city_130 : decode cX7_city 130 = .ok (.ifCond .le 10, 3) := by decide +kernel
theorem dX7_city_133 : decode cX7_city 133 = .ok (.aload_n 0, 1) := by decide +kernel
theorem dX7_city_134 : decode cX7_city 134 = .ok (.invokevirtual 127, 3) := by decide +kernel
theorem dX7_city_137 : decode cX7_city 137 = .ok (.goto (-29), 3) := by decide +kernel
theorem dX7_city_140 : decode cX7_city 140 = .ok (.aload_n 0, 1) := by decide +kernel
theorem dX7_city_141 : decode cX7_city 141 = .ok (.invokevirtual 104, 3) := by decide +kernel
theorem dX7_city_144 : decode cX7_city 144 = .ok (.ifCond .eq 17, 3) := by decide +kernel
theorem dX7_city_147 : decode cX7_city 147 = .ok (.aload_n 0, 1) := by decide +kernel
theorem dX7_city_148 : decode cX7_city 148 = .ok (.getfield 98, 3) := by decide +kernel
theorem dX7_city_151 : decode cX7_city 151 = .ok (.ifCond .eq 10, 3) := by decide +kernel
theorem dX7_city_154 : decode cX7_city 154 = .ok (.aload_n 0, 1) := by decide +kernel
theorem dX7_city_155 : decode cX7_city 155 = .ok (.iconst 0, 1) := by decide +kernel
theorem dX7_city_156 : decode cX7_city 156 = .ok (.iconst 1, 1) := by decide +kernel
theorem dX7_city_157 : decode cX7_city 157 = .ok (.invokevirtual 114, 3) := by decide +kernel
theorem dX7_city_160 : decode cX7_city 160 = .ok (.pop, 1) := by decide +kernel
theorem dX7_city_161 : decode cX7_city 161 = .ok (.aload_n 0, 1) := by decide +kernel
theorem dX7_city_162 : decode cX7_city 162 = .ok (.iconst 0, 1) := by decide +kernel
theorem dX7_city_163 : decode cX7_city 163 = .ok (.putfield 82, 3) := by decide +kernel
theorem dX7_city_166 : decode cX7_city 166 = .ok (.aload_n 0, 1) := by decide +kernel
theorem dX7_city_167 : decode cX7_city 167 = .ok (.invokevirtual 104, 3) := by decide +kernel
theorem dX7_city_170 : decode cX7_city 170 = .ok (.ifCond .ne 11, 3) := by decide +kernel
theorem dX7_city_173 : decode cX7_city 173 = .ok (.ldc 130, 2) := by decide +kernel
theorem dX7_city_175 : decode cX7_city 175 = .ok (.aload_n 0, 1) := by decide +kernel
theorem dX7_city_176 : decode cX7_city 176 = .ok (.getfield 101, 3) := by decide +kernel
theorem dX7_city_179 : decode cX7_city 179 = .ok (.isub, 1) := by decide +kernel
theorem dX7_city_180 : decode cX7_city 180 = .ok (.ireturn, 1) := by decide +kernel
theorem dX7_city_181 : decode cX7_city 181 = .ok (.aload_n 0, 1) := by decide +kernel
theorem dX7_city_182 : decode cX7_city 182 = .ok (.getfield 28, 3) := by decide +kernel
theorem dX7_city_185 : decode cX7_city 185 = .ok (.iconst 0, 1) := by decide +kernel
theorem dX7_city_186 : decode cX7_city 186 = .ok (.aload_n 0, 1) := by decide +kernel
theorem dX7_city_187 : decode cX7_city 187 = .ok (.getfield 25, 3) := by decide +kernel
theorem dX7_city_190 : decode cX7_city 190 = .ok (.iconst 0, 1) := by decide +kernel
theorem dX7_city_191 : decode cX7_city 191 = .ok (.invokestatic 131, 3) := by decide +kernel
theorem dX7_city_194 : decode cX7_city 194 = .ok (.aload_n 0, 1) := by decide +kernel
theorem dX7_city_195 : decode cX7_city 195 = .ok (.iconst 0, 1) := by decide +kernel
theorem dX7_city_196 : decode cX7_city 196 = .ok (.putfield 135, 3) := by decide +kernel
theorem dX7_city_199 : decode cX7_city 199 = .ok (.aload_n 0, 1) := by decide +kernel
theorem dX7_city_200 : decode cX7_city 200 = .ok (.getfield 25, 3) := by decide +kernel
theorem dX7_city_203 : decode cX7_city 203 = .ok (.iconst 4, 1) := by decide +kernel
theorem dX7_city_204 : decode cX7_city 204 = .ok (.iaload, 1) := by decide +kernel
theorem dX7_city_205 : decode cX7_city 205 = .ok (.ireturn, 1) := by decide +kernel
theorem dX7_fault_0 : decode cX7_fault 0 = .ok (.aload_n 0, 1) := by decide +kernel
theorem dX7_fault_1 : decode cX7_fault 1 = .ok (.getfield 108, 3) := by decide +kernel
theorem dX7_fault_4 : decode cX7_fault 4 = .ok (.ireturn, 1) := by decide +kernel
theorem dX7_isCity_0 : decode cX7_isCity 0 = .ok (.aload_n 0, 1) := by decide +kernel
theorem dX7_isCity_1 : decode cX7_isCity 1 = .ok (.getfield 25, 3) := by decide +kernel
theorem dX7_isCity_4 : decode cX7_isCity 4 = .ok (.iconst 0, 1) := by decide +kernel
theorem dX7_isCity_5 : decode cX7_isCity 5 = .ok (.iaload, 1) := by decide +kernel
theorem dX7_isCity_6 : decode cX7_isCity 6 = .ok (.ifCond .le 7, 3) := by decide +kernel
theorem dX7_isCity_9 : decode cX7_isCity 9 = .ok (.iconst 1, 1) := by decide +kernel
theorem dX7_isCity_10 : decode cX7_isCity 10 = .ok (.goto 4, 3) := by decide +kernel
theorem dX7_isCity_13 : decode cX7_isCity 13 = .ok (.iconst 0, 1) := by decide +kernel
theorem dX7_isCity_14 : decode cX7_isCity 14 = .ok (.ireturn, 1) := by decide +kernel
set_option maxRecDepth 20000 in
theorem ggX7_isClue_X7_in : GoodIn wsX7_isClue wsX7_in := goodIn_r _ [5] (by decide +kernel) (by decide +kernel)
set_option maxRecDepth 20000 in
theorem gX7_isClue_X7_in : GoodIn wsX7_isClue (va_wsS RX7 56 yX7_in wsX7_in) := goodIn_app (goodIn_of _ (by decide +kernel)) ggX7_isClue_X7_in
theorem dX7_isClue_0 : decode cX7_isClue 0 = .ok (.iload_n 1, 1) := by decide +kernel
theorem dX7_isClue_1 : decode cX7_isClue 1 = .ok (.iconst 0, 1) := by decide +kernel
theorem dX7_isClue_2 : decode cX7_isClue 2 = .ok (.aload_n 0, 1) := by decide +kernel
theorem dX7_isClue_3 : decode cX7_isClue 3 = .ok (.getfield 25, 3) := by decide +kernel
theorem dX7_isClue_6 : decode cX7_isClue 6 = .ok (.iconst 4, 1) := by decide +kernel
theorem dX7_isClue_7 : decode cX7_isClue 7 = .ok (.iaload, 1) := by decide +kernel
theorem dX7_isClue_8 : decode cX7_isClue 8 = .ok (.iconst 1, 1) := by decide +kernel
theorem dX7_isClue_9 : decode cX7_isClue 9 = .ok (.isub, 1) := by decide +kernel
theorem dX7_isClue_10 : decode cX7_isClue 10 = .ok (.invokestatic 56, 3) := by decide +kernel
theorem dX7_isClue_13 : decode cX7_isClue 13 = .ok (.ireturn, 1) := by decide +kernel
set_option maxRecDepth 20000 in
theorem ggX7_isFar_X7_in : GoodIn wsX7_isFar wsX7_in := goodIn_r _ [4] (by decide +kernel) (by decide +kernel)
set_option maxRecDepth 20000 in
theorem gX7_isFar_X7_in : GoodIn wsX7_isFar (va_wsS RX7 56 yX7_in wsX7_in) := goodIn_app (goodIn_of _ (by decide +kernel)) ggX7_isFar_X7_in
theorem dX7_isFar_0 : decode cX7_isFar 0 = .ok (.iload_n 0, 1) := by decide +kernel
theorem dX7_isFar_1 : decode cX7_isFar 1 = .ok (.iconst 0, 1) := by decide +kernel
theorem dX7_isFar_2 : decode cX7_isFar 2 = .ok (.bipush 99, 2) := by decide +kernel
theorem dX7_isFar_4 : decode cX7_isFar 4 = .ok (.invokestatic 56, 3) := by decide +kernel
theorem dX7_isFar_7 : decode cX7_isFar 7 = .ok (.ireturn, 1) := by decide +kernel
theorem dX7_all_0 : decode cX7_all 0 = .ok (.iconst 1, 1) := by decide +kernel
theorem dX7_all_1 : decode cX7_all 1 = .ok (.aload_n 0, 1) := by decide +kernel
theorem dX7_all_2 : decode cX7_all 2 = .ok (.iconst 0, 1) := by decide +kernel
theorem dX7_all_3 : decode cX7_all 3 = .ok (.iaload, 1) := by decide +kernel
theorem dX7_all_4 : decode cX7_all 4 = .ok (.ishl, 1) := by decide +kernel
theorem dX7_all_5 : decode cX7_all 5 = .ok (.iconst 1, 1) := by decide +kernel
theorem dX7_all_6 : decode cX7_all 6 = .ok (.isub, 1) := by decide +kernel
theorem dX7_all_7 : decode cX7_all 7 = .ok (.ireturn, 1) := by decide +kernel
theorem dX7_isAtWork_0 : decode cX7_isAtWork 0 = .ok (.iconst 5, 1) := by decide +kernel
theorem dX7_isAtWork_1 : decode cX7_isAtWork 1 = .ok (.iconst 4, 1) := by decide +kernel
theorem dX7_isAtWork_2 : decode cX7_isAtWork 2 = .ok (.iload_n 1, 1) := by decide +kernel
theorem dX7_isAtWork_3 : decode cX7_isAtWork 3 = .ok (.imul, 1) := by decide +kernel
theorem dX7_isAtWork_4 : decode cX7_isAtWork 4 = .ok (.iadd, 1) := by decide +kernel
theorem dX7_isAtWork_5 : decode cX7_isAtWork 5 = .ok (.istore_n 3, 1) := by decide +kernel
theorem dX7_isAtWork_6 : decode cX7_isAtWork 6 = .ok (.iload_n 2, 1) := by decide +kernel
theorem dX7_isAtWork_7 : decode cX7_isAtWork 7 = .ok (.aload_n 0, 1) := by decide +kernel
theorem dX7_isAtWork_8 : decode cX7_isAtWork 8 = .ok (.iload_n 3, 1) := by decide +kernel
theorem dX7_isAtWork_9 : decode cX7_isAtWork 9 = .ok (.iconst 2, 1) := by decide +kernel
theorem dX7_isAtWork_10 : decode cX7_isAtWork 10 = .ok (.iadd, 1) := by decide +kernel
theorem dX7_isAtWork_11 : decode cX7_isAtWork 11 = .ok (.iaload, 1) := by decide +kernel
theorem dX7_isAtWork_12 : decode cX7_isAtWork 12 = .ok (.irem, 1) := by decide +kernel
theorem dX7_isAtWork_13 : decode cX7_isAtWork 13 = .ok (.aload_n 0, 1) := by decide +kernel
theorem dX7_isAtWork_14 : decode cX7_isAtWork 14 = .ok (.iload_n 3, 1) := by decide +kernel
theorem dX7_isAtWork_15 : decode cX7_isAtWork 15 = .ok (.iconst 3, 1) := by decide +kernel
theorem dX7_isAtWork_16 : decode cX7_isAtWork 16 = .ok (.iadd, 1) := by decide +kernel
theorem dX7_isAtWork_17 : decode cX7_isAtWork 17 = .ok (.iaload, 1) := by decide +kernel
theorem dX7_isAtWork_18 : decode cX7_isAtWork 18 = .ok (.if_icmp .eq 7, 3) := by decide +kernel
theorem dX7_isAtWork_21 : decode cX7_isAtWork 21 = .ok (.iconst 1, 1) := by decide +kernel
theorem dX7_isAtWork_22 : decode cX7_isAtWork 22 = .ok (.goto 4, 3) := by decide +kernel
theorem dX7_isAtWork_25 : decode cX7_isAtWork 25 = .ok (.iconst 0, 1) := by decide +kernel
theorem dX7_isAtWork_26 : decode cX7_isAtWork 26 = .ok (.istore 4, 2) := by decide +kernel
theorem dX7_isAtWork_28 : decode cX7_isAtWork 28 = .ok (.aload_n 0, 1) := by decide +kernel
theorem dX7_isAtWork_29 : decode cX7_isAtWork 29 = .ok (.iload_n 3, 1) := by decide +kernel
theorem dX7_isAtWork_30 : decode cX7_isAtWork 30 = .ok (.iaload, 1) := by decide +kernel
theorem dX7_isAtWork_31 : decode cX7_isAtWork 31 = .ok (.iconst 5, 1) := by decide +kernel
theorem dX7_isAtWork_32 : decode cX7_isAtWork 32 = .ok (.if_icmp .eq 25, 3) := by decide +kernel
theorem dX7_isAtWork_35 : decode cX7_isAtWork 35 = .ok (.iload 4, 2) := by decide +kernel
theorem dX7_isAtWork_37 : decode cX7_isAtWork 37 = .ok (.ifCond .eq 24, 3) := by decide +kernel
theorem dX7_isAtWork_40 : decode cX7_isAtWork 40 = .ok (.aload_n 0, 1) := by decide +kernel
theorem dX7_isAtWork_41 : decode cX7_isAtWork 41 = .ok (.iload_n 3, 1) := by decide +kernel
theorem dX7_isAtWork_42 : decode cX7_isAtWork 42 = .ok (.iaload, 1) := by decide +kernel
theorem dX7_isAtWork_43 : decode cX7_isAtWork 43 = .ok (.iconst 2, 1) := by decide +kernel
theorem dX7_isAtWork_44 : decode cX7_isAtWork 44 = .ok (.if_icmp .ne 13, 3) := by decide +kernel
theorem dX7_isAtWork_47 : decode cX7_isAtWork 47 = .ok (.iload_n 2, 1) := by decide +kernel
theorem dX7_isAtWork_48 : decode cX7_isAtWork 48 = .ok (.bipush 7, 2) := by decide +kernel
theorem dX7_isAtWork_50 : decode cX7_isAtWork 50 = .ok (.irem, 1) := by decide +kernel
theorem dX7_isAtWork_51 : decode cX7_isAtWork 51 = .ok (.aload_n 0, 1) := by decide +kernel
theorem dX7_isAtWork_52 : decode cX7_isAtWork 52 = .ok (.iconst 1, 1) := by decide +kernel
theorem dX7_isAtWork_53 : decode cX7_isAtWork 53 = .ok (.iaload, 1) := by decide +kernel
theorem dX7_isAtWork_54 : decode cX7_isAtWork 54 = .ok (.if_icmp .eq 7, 3) := by decide +kernel
theorem dX7_isAtWork_57 : decode cX7_isAtWork 57 = .ok (.iconst 1, 1) := by decide +kernel
theorem dX7_isAtWork_58 : decode cX7_isAtWork 58 = .ok (.goto 4, 3) := by decide +kernel
theorem dX7_isAtWork_61 : decode cX7_isAtWork 61 = .ok (.iconst 0, 1) := by decide +kernel
theorem dX7_isAtWork_62 : decode cX7_isAtWork 62 = .ok (.ireturn, 1) := by decide +kernel
set_option maxRecDepth 20000 in
theorem ggX7_leaves_X7_has : GoodIn wsX7_leaves wsX7_has := goodIn_r _ [4] (by decide +kernel) (by decide +kernel)
set_option maxRecDepth 20000 in
theorem gX7_leaves_X7_has : GoodIn wsX7_leaves (va_wsS RX7 138 yX7_has wsX7_has) := goodIn_app (goodIn_of _ (by decide +kernel)) ggX7_leaves_X7_has
set_option maxRecDepth 20000 in
theorem ggX7_leaves_X7_all : GoodIn wsX7_leaves wsX7_all := goodIn_r _ [7] (by decide +kernel) (by decide +kernel)
set_option maxRecDepth 20000 in
theorem gX7_leaves_X7_all : GoodIn wsX7_leaves (va_wsS RX7 142 yX7_all wsX7_all) := goodIn_app (goodIn_of _ (by decide +kernel)) ggX7_leaves_X7_all
theorem dX7_leaves_0 : decode cX7_leaves 0 = .ok (.iconst 5, 1) := by decide +kernel
theorem dX7_leaves_1 : decode cX7_leaves 1 = .ok (.iconst 4, 1) := by decide +kernel
theorem dX7_leaves_2 : decode cX7_leaves 2 = .ok (.iload_n 1, 1) := by decide +kernel
theorem dX7_leaves_3 : decode cX7_leaves 3 = .ok (.imul, 1) := by decide +kernel
theorem dX7_leaves_4 : decode cX7_leaves 4 = .ok (.iadd, 1) := by decide +kernel
theorem dX7_leaves_5 : decode cX7_leaves 5 = .ok (.istore_n 2, 1) := by decide +kernel
theorem dX7_leaves_6 : decode cX7_leaves 6 = .ok (.aload_n 0, 1) := by decide +kernel
theorem dX7_leaves_7 : decode cX7_leaves 7 = .ok (.iconst 3, 1) := by decide +kernel
theorem dX7_leaves_8 : decode cX7_leaves 8 = .ok (.iaload, 1) := by decide +kernel
theorem dX7_leaves_9 : decode cX7_leaves 9 = .ok (.iload_n 1, 1) := by decide +kernel
theorem dX7_leaves_10 : decode cX7_leaves 10 = .ok (.invokestatic 138, 3) := by decide +kernel
theorem dX7_leaves_13 : decode cX7_leaves 13 = .ok (.istore_n 3, 1) := by decide +kernel
theorem dX7_leaves_14 : decode cX7_leaves 14 = .ok (.aload_n 0, 1) := by decide +kernel
theorem dX7_leaves_15 : decode cX7_leaves 15 = .ok (.invokestatic 142, 3) := by decide +kernel
theorem dX7_leaves_18 : decode cX7_leaves 18 = .ok (.aload_n 0, 1) := by decide +kernel
theorem dX7_leaves_19 : decode cX7_leaves 19 = .ok (.iload_n 2, 1) := by decide +kernel
theorem dX7_leaves_20 : decode cX7_leaves 20 = .ok (.iconst 1, 1) := by decide +kernel
theorem dX7_leaves_21 : decode cX7_leaves 21 = .ok (.iadd, 1) := by decide +kernel
theorem dX7_leaves_22 : decode cX7_leaves 22 = .ok (.iaload, 1) := by decide +kernel
theorem dX7_leaves_23 : decode cX7_leaves 23 = .ok (.iconst (-1), 1) := by decide +kernel
theorem dX7_leaves_24 : decode cX7_leaves 24 = .ok (.ixor, 1) := by decide +kernel
theorem dX7_leaves_25 : decode cX7_leaves 25 = .ok (.iand, 1) := by decide +kernel
theorem dX7_leaves_26 : decode cX7_leaves 26 = .ok (.istore 4, 2) := by decide +kernel
theorem dX7_leaves_28 : decode cX7_leaves 28 = .ok (.aload_n 0, 1) := by decide +kernel
theorem dX7_leaves_29 : decode cX7_leaves 29 = .ok (.iload_n 2, 1) := by decide +kernel
theorem dX7_leaves_30 : decode cX7_leaves 30 = .ok (.iaload, 1) := by decide +kernel
theorem dX7_leaves_31 : decode cX7_leaves 31 = .ok (.iconst 3, 1) := by decide +kernel
theorem dX7_leaves_32 : decode cX7_leaves 32 = .ok (.if_icmp .ne 18, 3) := by decide +kernel
theorem dX7_leaves_35 : decode cX7_leaves 35 = .ok (.iload_n 3, 1) := by decide +kernel
theorem dX7_leaves_36 : decode cX7_leaves 36 = .ok (.ifCond .eq 8, 3) := by decide +kernel
theorem dX7_leaves_39 : decode cX7_leaves 39 = .ok (.iload 4, 2) := by decide +kernel
theorem dX7_leaves_41 : decode cX7_leaves 41 = .ok (.goto 8, 3) := by decide +kernel
theorem dX7_leaves_44 : decode cX7_leaves 44 = .ok (.aload_n 0, 1) := by decide +kernel
theorem dX7_leaves_45 : decode cX7_leaves 45 = .ok (.iload_n 2, 1) := by decide +kernel
theorem dX7_leaves_46 : decode cX7_leaves 46 = .ok (.iconst 1, 1) := by decide +kernel
theorem dX7_leaves_47 : decode cX7_leaves 47 = .ok (.iadd, 1) := by decide +kernel
theorem dX7_leaves_48 : decode cX7_leaves 48 = .ok (.iaload, 1) := by decide +kernel
theorem dX7_leaves_49 : decode cX7_leaves 49 = .ok (.ireturn, 1) := by decide +kernel
theorem dX7_leaves_50 : decode cX7_leaves 50 = .ok (.iload_n 3, 1) := by decide +kernel
theorem dX7_leaves_51 : decode cX7_leaves 51 = .ok (.ifCond .eq 10, 3) := by decide +kernel
theorem dX7_leaves_54 : decode cX7_leaves 54 = .ok (.aload_n 0, 1) := by decide +kernel
theorem dX7_leaves_55 : decode cX7_leaves 55 = .ok (.invokestatic 142, 3) := by decide +kernel
theorem dX7_leaves_58 : decode cX7_leaves 58 = .ok (.goto 20, 3) := by decide +kernel
theorem dX7_leaves_61 : decode cX7_leaves 61 = .ok (.aload_n 0, 1) := by decide +kernel
theorem dX7_leaves_62 : decode cX7_leaves 62 = .ok (.iload_n 2, 1) := by decide +kernel
theorem dX7_leaves_63 : decode cX7_leaves 63 = .ok (.iaload, 1) := by decide +kernel
theorem dX7_leaves_64 : decode cX7_leaves 64 = .ok (.iconst 4, 1) := by decide +kernel
theorem dX7_leaves_65 : decode cX7_leaves 65 = .ok (.if_icmp .lt 8, 3) := by decide +kernel
theorem dX7_leaves_68 : decode cX7_leaves 68 = .ok (.iload 4, 2) := by decide +kernel
theorem dX7_leaves_70 : decode cX7_leaves 70 = .ok (.goto 8, 3) := by decide +kernel
theorem dX7_leaves_73 : decode cX7_leaves 73 = .ok (.aload_n 0, 1) := by decide +kernel
theorem dX7_leaves_74 : decode cX7_leaves 74 = .ok (.iload_n 2, 1) := by decide +kernel
theorem dX7_leaves_75 : decode cX7_leaves 75 = .ok (.iconst 1, 1) := by decide +kernel
theorem dX7_leaves_76 : decode cX7_leaves 76 = .ok (.iadd, 1) := by decide +kernel
theorem dX7_leaves_77 : decode cX7_leaves 77 = .ok (.iaload, 1) := by decide +kernel
theorem dX7_leaves_78 : decode cX7_leaves 78 = .ok (.ireturn, 1) := by decide +kernel
set_option maxRecDepth 20000 in
theorem ggX7_workers_X7_isAtWork : GoodIn wsX7_workers wsX7_isAtWork := goodIn_r _ [4] (by decide +kernel) (by decide +kernel)
set_option maxRecDepth 20000 in
theorem gX7_workers_X7_isAtWork : GoodIn wsX7_workers (va_wsS RX7 146 yX7_isAtWork wsX7_isAtWork) := goodIn_app (goodIn_of _ (by decide +kernel)) ggX7_workers_X7_isAtWork
theorem dX7_workers_0 : decode cX7_workers 0 = .ok (.iconst 0, 1) := by decide +kernel
theorem dX7_workers_1 : decode cX7_workers 1 = .ok (.istore_n 2, 1) := by decide +kernel
theorem dX7_workers_2 : decode cX7_workers 2 = .ok (.iconst 0, 1) := by decide +kernel
theorem dX7_workers_3 : decode cX7_workers 3 = .ok (.istore_n 3, 1) := by decide +kernel
theorem dX7_workers_4 : decode cX7_workers 4 = .ok (.iload_n 3, 1) := by decide +kernel
theorem dX7_workers_5 : decode cX7_workers 5 = .ok (.aload_n 0, 1) := by decide +kernel
theorem dX7_workers_6 : decode cX7_workers 6 = .ok (.iconst 4, 1) := by decide +kernel
theorem dX7_workers_7 : decode cX7_workers 7 = .ok (.iaload, 1) := by decide +kernel
theorem dX7_workers_8 : decode cX7_workers 8 = .ok (.if_icmp .ge 28, 3) := by decide +kernel
theorem dX7_workers_11 : decode cX7_workers 11 = .ok (.iload_n 2, 1) := by decide +kernel
theorem dX7_workers_12 : decode cX7_workers 12 = .ok (.aload_n 0, 1) := by decide +kernel
theorem dX7_workers_13 : decode cX7_workers 13 = .ok (.iload_n 3, 1) := by decide +kernel
theorem dX7_workers_14 : decode cX7_workers 14 = .ok (.iload_n 1, 1) := by decide +kernel
theorem dX7_workers_15 : decode cX7_workers 15 = .ok (.invokestatic 146, 3) := by decide +kernel
theorem dX7_workers_18 : decode cX7_workers 18 = .ok (.ifCond .eq 9, 3) := by decide +kernel
theorem dX7_workers_21 : decode cX7_workers 21 = .ok (.iconst 1, 1) := by decide +kernel
theorem dX7_workers_22 : decode cX7_workers 22 = .ok (.iload_n 3, 1) := by decide +kernel
theorem dX7_workers_23 : decode cX7_workers 23 = .ok (.ishl, 1) := by decide +kernel
theorem dX7_workers_24 : decode cX7_workers 24 = .ok (.goto 4, 3) := by decide +kernel
theorem dX7_workers_27 : decode cX7_workers 27 = .ok (.iconst 0, 1) := by decide +kernel
theorem dX7_workers_28 : decode cX7_workers 28 = .ok (.ior, 1) := by decide +kernel
theorem dX7_workers_29 : decode cX7_workers 29 = .ok (.istore_n 2, 1) := by decide +kernel
theorem dX7_workers_30 : decode cX7_workers 30 = .ok (.iinc 3 1, 3) := by decide +kernel
theorem dX7_workers_33 : decode cX7_workers 33 = .ok (.goto (-29), 3) := by decide +kernel
theorem dX7_workers_36 : decode cX7_workers 36 = .ok (.iload_n 2, 1) := by decide +kernel
theorem dX7_workers_37 : decode cX7_workers 37 = .ok (.ireturn, 1) := by decide +kernel
set_option maxRecDepth 20000 in
theorem ggX7_leftBy_X7_all : GoodIn wsX7_leftBy wsX7_all := goodIn_r _ [4] (by decide +kernel) (by decide +kernel)
set_option maxRecDepth 20000 in
theorem gX7_leftBy_X7_all : GoodIn wsX7_leftBy (va_wsS RX7 142 yX7_all wsX7_all) := goodIn_app (goodIn_of _ (by decide +kernel)) ggX7_leftBy_X7_all
set_option maxRecDepth 20000 in
theorem ggX7_leftBy_X7_has : GoodIn wsX7_leftBy wsX7_has := goodIn_r _ [7] (by decide +kernel) (by decide +kernel)
set_option maxRecDepth 20000 in
theorem gX7_leftBy_X7_has : GoodIn wsX7_leftBy (va_wsS RX7 138 yX7_has wsX7_has) := goodIn_app (goodIn_of _ (by decide +kernel)) ggX7_leftBy_X7_has
set_option maxRecDepth 20000 in
theorem ggX7_leftBy_X7_leaves : GoodIn wsX7_leftBy wsX7_leaves := goodIn_r _ [10, 5, 6, 3, 7, 1, 2, 4] (by decide +kernel) (by decide +kernel)
set_option maxRecDepth 20000 in
theorem gX7_leftBy_X7_leaves : GoodIn wsX7_leftBy (va_wsS RX7 150 yX7_leaves wsX7_leaves) := goodIn_app (goodIn_of _ (by decide +kernel)) ggX7_leftBy_X7_leaves
theorem dX7_leftBy_0 : decode cX7_leftBy 0 = .ok (.aload_n 0, 1) := by decide +kernel
theorem dX7_leftBy_1 : decode cX7_leftBy 1 = .ok (.invokestatic 142, 3) := by decide +kernel
theorem dX7_leftBy_4 : decode cX7_leftBy 4 = .ok (.istore_n 2, 1) := by decide +kernel
theorem dX7_leftBy_5 : decode cX7_leftBy 5 = .ok (.iconst 0, 1) := by decide +kernel
theorem dX7_leftBy_6 : decode cX7_leftBy 6 = .ok (.istore_n 3, 1) := by decide +kernel
theorem dX7_leftBy_7 : decode cX7_leftBy 7 = .ok (.iload_n 3, 1) := by decide +kernel
theorem dX7_leftBy_8 : decode cX7_leftBy 8 = .ok (.aload_n 0, 1) := by decide +kernel
theorem dX7_leftBy_9 : decode cX7_leftBy 9 = .ok (.iconst 4, 1) := by decide +kernel
theorem dX7_leftBy_10 : decode cX7_leftBy 10 = .ok (.iaload, 1) := by decide +kernel
theorem dX7_leftBy_11 : decode cX7_leftBy 11 = .ok (.if_icmp .ge 29, 3) := by decide +kernel
theorem dX7_leftBy_14 : decode cX7_leftBy 14 = .ok (.iload_n 2, 1) := by decide +kernel
theorem dX7_leftBy_15 : decode cX7_leftBy 15 = .ok (.iload_n 1, 1) := by decide +kernel
theorem dX7_leftBy_16 : decode cX7_leftBy 16 = .ok (.iload_n 3, 1) := by decide +kernel
theorem dX7_leftBy_17 : decode cX7_leftBy 17 = .ok (.invokestatic 138, 3) := by decide +kernel
theorem dX7_leftBy_20 : decode cX7_leftBy 20 = .ok (.ifCond .eq 11, 3) := by decide +kernel
theorem dX7_leftBy_23 : decode cX7_leftBy 23 = .ok (.aload_n 0, 1) := by decide +kernel
theorem dX7_leftBy_24 : decode cX7_leftBy 24 = .ok (.iload_n 3, 1) := by decide +kernel
theorem dX7_leftBy_25 : decode cX7_leftBy 25 = .ok (.invokestatic 150, 3) := by decide +kernel
theorem dX7_leftBy_28 : decode cX7_leftBy 28 = .ok (.goto 4, 3) := by decide +kernel
theorem dX7_leftBy_31 : decode cX7_leftBy 31 = .ok (.iconst (-1), 1) := by decide +kernel
theorem dX7_leftBy_32 : decode cX7_leftBy 32 = .ok (.iand, 1) := by decide +kernel
theorem dX7_leftBy_33 : decode cX7_leftBy 33 = .ok (.istore_n 2, 1) := by decide +kernel
theorem dX7_leftBy_34 : decode cX7_leftBy 34 = .ok (.iinc 3 1, 3) := by decide +kernel
theorem dX7_leftBy_37 : decode cX7_leftBy 37 = .ok (.goto (-30), 3) := by decide +kernel
theorem dX7_leftBy_40 : decode cX7_leftBy 40 = .ok (.iload_n 2, 1) := by decide +kernel
theorem dX7_leftBy_41 : decode cX7_leftBy 41 = .ok (.ireturn, 1) := by decide +kernel
set_option maxRecDepth 20000 in
theorem ggX7_leftOn_X7_workers : GoodIn wsX7_leftOn wsX7_workers := goodIn_r _ [4, 5, 6, 3, 7] (by decide +kernel) (by decide +kernel)
set_option maxRecDepth 20000 in
theorem gX7_leftOn_X7_workers : GoodIn wsX7_leftOn (va_wsS RX7 154 yX7_workers wsX7_workers) := goodIn_app (goodIn_of _ (by decide +kernel)) ggX7_leftOn_X7_workers
set_option maxRecDepth 20000 in
theorem ggX7_leftOn_X7_leftBy : GoodIn wsX7_leftOn wsX7_leftBy := goodIn_r _ [10, 11, 12, 3, 13, 14, 15, 16, 17, 18, 19] (by decide +kernel) (by decide +kernel)
set_option maxRecDepth 20000 in
theorem gX7_leftOn_X7_leftBy : GoodIn wsX7_leftOn (va_wsS RX7 157 yX7_leftBy wsX7_leftBy) := goodIn_app (goodIn_of _ (by decide +kernel)) ggX7_leftOn_X7_leftBy
theorem dX7_leftOn_0 : decode cX7_leftOn 0 = .ok (.aload_n 0, 1) := by decide +kernel
theorem dX7_leftOn_1 : decode cX7_leftOn 1 = .ok (.aload_n 0, 1) := by decide +kernel
theorem dX7_leftOn_2 : decode cX7_leftOn 2 = .ok (.iload_n 1, 1) := by decide +kernel
theorem dX7_leftOn_3 : decode cX7_leftOn 3 = .ok (.invokestatic 154, 3) := by decide +kernel
theorem dX7_leftOn_6 : decode cX7_leftOn 6 = .ok (.invokestatic 157, 3) := by decide +kernel
theorem dX7_leftOn_9 : decode cX7_leftOn 9 = .ok (.ireturn, 1) := by decide +kernel
theorem dX7_only_0 : decode cX7_only 0 = .ok (.iconst 0, 1) := by decide +kernel
theorem dX7_only_1 : decode cX7_only 1 = .ok (.istore_n 1, 1) := by decide +kernel
theorem dX7_only_2 : decode cX7_only 2 = .ok (.iload_n 1, 1) := by decide +kernel
theorem dX7_only_3 : decode cX7_only 3 = .ok (.bipush 6, 2) := by decide +kernel
theorem dX7_only_5 : decode cX7_only 5 = .ok (.if_icmp .ge 18, 3) := by decide +kernel
theorem dX7_only_8 : decode cX7_only 8 = .ok (.iload_n 0, 1) := by decide +kernel
theorem dX7_only_9 : decode cX7_only 9 = .ok (.iconst 1, 1) := by decide +kernel
theorem dX7_only_10 : decode cX7_only 10 = .ok (.iload_n 1, 1) := by decide +kernel
theorem dX7_only_11 : decode cX7_only 11 = .ok (.ishl, 1) := by decide +kernel
theorem dX7_only_12 : decode cX7_only 12 = .ok (.if_icmp .ne 5, 3) := by decide +kernel
theorem dX7_only_15 : decode cX7_only 15 = .ok (.iload_n 1, 1) := by decide +kernel
theorem dX7_only_16 : decode cX7_only 16 = .ok (.ireturn, 1) := by decide +kernel
theorem dX7_only_17 : decode cX7_only 17 = .ok (.iinc 1 1, 3) := by decide +kernel
theorem dX7_only_20 : decode cX7_only 20 = .ok (.goto (-18), 3) := by decide +kernel
theorem dX7_only_23 : decode cX7_only 23 = .ok (.ldc 50, 2) := by decide +kernel
theorem dX7_only_25 : decode cX7_only 25 = .ok (.ireturn, 1) := by decide +kernel
set_option maxRecDepth 20000 in
theorem ggX7_notes_X7_copies : GoodIn wsX7_notes wsX7_copies := goodIn_r _ [7] (by decide +kernel) (by decide +kernel)
set_option maxRecDepth 20000 in
theorem gX7_notes_X7_copies : GoodIn wsX7_notes (va_wsS RX7 131 yX7_copies wsX7_copies) := goodIn_app (goodIn_of _ (by decide +kernel)) ggX7_notes_X7_copies
theorem dX7_notes_0 : decode cX7_notes 0 = .ok (.aload_n 0, 1) := by decide +kernel
theorem dX7_notes_1 : decode cX7_notes 1 = .ok (.getfield 135, 3) := by decide +kernel
theorem dX7_notes_4 : decode cX7_notes 4 = .ok (.bipush 24, 2) := by decide +kernel
theorem dX7_notes_6 : decode cX7_notes 6 = .ok (.if_icmp .ne 43, 3) := by decide +kernel
theorem dX7_notes_9 : decode cX7_notes 9 = .ok (.iconst 0, 1) := by decide +kernel
theorem dX7_notes_10 : decode cX7_notes 10 = .ok (.istore_n 1, 1) := by decide +kernel
theorem dX7_notes_11 : decode cX7_notes 11 = .ok (.iload_n 1, 1) := by decide +kernel
theorem dX7_notes_12 : decode cX7_notes 12 = .ok (.sipush 667, 3) := by decide +kernel
theorem dX7_notes_15 : decode cX7_notes 15 = .ok (.if_icmp .ge 24, 3) := by decide +kernel
theorem dX7_notes_18 : decode cX7_notes 18 = .ok (.aload_n 0, 1) := by decide +kernel
theorem dX7_notes_19 : decode cX7_notes 19 = .ok (.getfield 34, 3) := by decide +kernel
theorem dX7_notes_22 : decode cX7_notes 22 = .ok (.iload_n 1, 1) := by decide +kernel
theorem dX7_notes_23 : decode cX7_notes 23 = .ok (.aload_n 0, 1) := by decide +kernel
theorem dX7_notes_24 : decode cX7_notes 24 = .ok (.getfield 34, 3) := by decide +kernel
theorem dX7_notes_27 : decode cX7_notes 27 = .ok (.iload_n 1, 1) := by decide +kernel
theorem dX7_notes_28 : decode cX7_notes 28 = .ok (.bipush 29, 2) := by decide +kernel
theorem dX7_notes_30 : decode cX7_notes 30 = .ok (.iadd, 1) := by decide +kernel
theorem dX7_notes_31 : decode cX7_notes 31 = .ok (.iaload, 1) := by decide +kernel
theorem dX7_notes_32 : decode cX7_notes 32 = .ok (.iastore, 1) := by decide +kernel
theorem dX7_notes_33 : decode cX7_notes 33 = .ok (.iinc 1 1, 3) := by decide +kernel
theorem dX7_notes_36 : decode cX7_notes 36 = .ok (.goto (-25), 3) := by decide +kernel
theorem dX7_notes_39 : decode cX7_notes 39 = .ok (.aload_n 0, 1) := by decide +kernel
theorem dX7_notes_40 : decode cX7_notes 40 = .ok (.dup, 1) := by decide +kernel
theorem dX7_notes_41 : decode cX7_notes 41 = .ok (.getfield 135, 3) := by decide +kernel
theorem dX7_notes_44 : decode cX7_notes 44 = .ok (.iconst 1, 1) := by decide +kernel
theorem dX7_notes_45 : decode cX7_notes 45 = .ok (.isub, 1) := by decide +kernel
theorem dX7_notes_46 : decode cX7_notes 46 = .ok (.putfield 135, 3) := by decide +kernel
theorem dX7_notes_49 : decode cX7_notes 49 = .ok (.aload_n 0, 1) := by decide +kernel
theorem dX7_notes_50 : decode cX7_notes 50 = .ok (.getfield 25, 3) := by decide +kernel
theorem dX7_notes_53 : decode cX7_notes 53 = .ok (.iconst 0, 1) := by decide +kernel
theorem dX7_notes_54 : decode cX7_notes 54 = .ok (.aload_n 0, 1) := by decide +kernel
theorem dX7_notes_55 : decode cX7_notes 55 = .ok (.getfield 34, 3) := by decide +kernel
theorem dX7_notes_58 : decode cX7_notes 58 = .ok (.bipush 29, 2) := by decide +kernel
theorem dX7_notes_60 : decode cX7_notes 60 = .ok (.aload_n 0, 1) := by decide +kernel
theorem dX7_notes_61 : decode cX7_notes 61 = .ok (.getfield 135, 3) := by decide +kernel
theorem dX7_notes_64 : decode cX7_notes 64 = .ok (.imul, 1) := by decide +kernel
theorem dX7_notes_65 : decode cX7_notes 65 = .ok (.invokestatic 131, 3) := by decide +kernel
theorem dX7_notes_68 : decode cX7_notes 68 = .ok (.aload_n 0, 1) := by decide +kernel
theorem dX7_notes_69 : decode cX7_notes 69 = .ok (.dup, 1) := by decide +kernel
theorem dX7_notes_70 : decode cX7_notes 70 = .ok (.getfield 135, 3) := by decide +kernel
theorem dX7_notes_73 : decode cX7_notes 73 = .ok (.iconst 1, 1) := by decide +kernel
theorem dX7_notes_74 : decode cX7_notes 74 = .ok (.iadd, 1) := by decide +kernel
theorem dX7_notes_75 : decode cX7_notes 75 = .ok (.putfield 135, 3) := by decide +kernel
theorem dX7_notes_78 : decode cX7_notes 78 = .ok (.return_, 1) := by decide +kernel
set_option maxRecDepth 20000 in
theorem ggX7_days_X7_isCity : GoodIn wsX7_days wsX7_isCity := goodIn_r _ [9, 3, 43, 44, 45, 46, 47, 48, 49, 50, 51, 52, 53, 54, 55, 56, 57, 58, 59, 60, 61, 62, 63, 64, 65] (by decide +kernel) (by decide +kernel)
set_option maxRecDepth 20000 in
theorem gX7_days_X7_isCity : GoodIn wsX7_days (wsV RX7 160 RX7 yX7_isCity wsX7_isCity) := goodIn_app (goodIn_of _ (by decide +kernel)) ggX7_days_X7_isCity
set_option maxRecDepth 20000 in
theorem ggX7_days_X7_in : GoodIn wsX7_days wsX7_in := goodIn_r _ [12] (by decide +kernel) (by decide +kernel)
set_option maxRecDepth 20000 in
theorem gX7_days_X7_in : GoodIn wsX7_days (va_wsS RX7 56 yX7_in wsX7_in) := goodIn_app (goodIn_of _ (by decide +kernel)) ggX7_days_X7_in
set_option maxRecDepth 20000 in
theorem ggX7_days_X7_notes : GoodIn wsX7_days wsX7_notes := goodIn_r _ [16, 17, 18, 3, 19, 20, 8, 21, 43, 44, 45, 46, 47, 48, 49, 50, 51, 52, 53, 54, 55, 56, 57, 58, 59, 60, 61, 62, 63, 64, 65] (by decide +kernel) (by decide +kernel)
set_option maxRecDepth 20000 in
theorem gX7_days_X7_notes : GoodIn wsX7_days (wsV RX7 164 RX7 yX7_notes wsX7_notes) := goodIn_app (goodIn_of _ (by decide +kernel)) ggX7_days_X7_notes
set_option maxRecDepth 20000 in
theorem ggX7_days_X7_leftOn : GoodIn wsX7_days wsX7_leftOn := goodIn_r _ [24, 25, 26, 8, 27, 28, 29, 30, 31, 32, 33, 34, 35, 36, 37, 38, 39, 40, 41, 42] (by decide +kernel) (by decide +kernel)
set_option maxRecDepth 20000 in
theorem gX7_days_X7_leftOn : GoodIn wsX7_days (va_wsS RX7 167 yX7_leftOn wsX7_leftOn) := goodIn_app (goodIn_of _ (by decide +kernel)) ggX7_days_X7_leftOn
theorem dX7_days_0 : decode cX7_days 0 = .ok (.aload_n 0, 1) := by decide +kernel
theorem dX7_days_1 : decode cX7_days 1 = .ok (.invokevirtual 160, 3) := by decide +kernel
theorem dX7_days_4 : decode cX7_days 4 = .ok (.ifCond .ne 6, 3) := by decide +kernel
theorem dX7_days_7 : decode cX7_days 7 = .ok (.ldc 163, 2) := by decide +kernel
theorem dX7_days_9 : decode cX7_days 9 = .ok (.ireturn, 1) := by decide +kernel
theorem dX7_days_10 : decode cX7_days 10 = .ok (.iload_n 1, 1) := by decide +kernel
theorem dX7_days_11 : decode cX7_days 11 = .ok (.iconst 1, 1) := by decide +kernel
theorem dX7_days_12 : decode cX7_days 12 = .ok (.bipush 24, 2) := by decide +kernel
theorem dX7_days_14 : decode cX7_days 14 = .ok (.invokestatic 56, 3) := by decide +kernel
theorem dX7_days_17 : decode cX7_days 17 = .ok (.ifCond .ne 6, 3) := by decide +kernel
theorem dX7_days_20 : decode cX7_days 20 = .ok (.ldc 64, 2) := by decide +kernel
theorem dX7_days_22 : decode cX7_days 22 = .ok (.ireturn, 1) := by decide +kernel
theorem dX7_days_23 : decode cX7_days 23 = .ok (.aload_n 0, 1) := by decide +kernel
theorem dX7_days_24 : decode cX7_days 24 = .ok (.getfield 25, 3) := by decide +kernel
theorem dX7_days_27 : decode cX7_days 27 = .ok (.iconst 2, 1) := by decide +kernel
theorem dX7_days_28 : decode cX7_days 28 = .ok (.iaload, 1) := by decide +kernel
theorem dX7_days_29 : decode cX7_days 29 = .ok (.iload_n 1, 1) := by decide +kernel
theorem dX7_days_30 : decode cX7_days 30 = .ok (.iadd, 1) := by decide +kernel
theorem dX7_days_31 : decode cX7_days 31 = .ok (.sipush 999, 3) := by decide +kernel
theorem dX7_days_34 : decode cX7_days 34 = .ok (.if_icmp .le 6, 3) := by decide +kernel
theorem dX7_days_37 : decode cX7_days 37 = .ok (.ldc 85, 2) := by decide +kernel
theorem dX7_days_39 : decode cX7_days 39 = .ok (.ireturn, 1) := by decide +kernel
theorem dX7_days_40 : decode cX7_days 40 = .ok (.iconst 0, 1) := by decide +kernel
theorem dX7_days_41 : decode cX7_days 41 = .ok (.istore_n 2, 1) := by decide +kernel
theorem dX7_days_42 : decode cX7_days 42 = .ok (.iload_n 2, 1) := by decide +kernel
theorem dX7_days_43 : decode cX7_days 43 = .ok (.iload_n 1, 1) := by decide +kernel
theorem dX7_days_44 : decode cX7_days 44 = .ok (.if_icmp .ge 23, 3) := by decide +kernel
theorem dX7_days_47 : decode cX7_days 47 = .ok (.aload_n 0, 1) := by decide +kernel
theorem dX7_days_48 : decode cX7_days 48 = .ok (.invokevirtual 164, 3) := by decide +kernel
theorem dX7_days_51 : decode cX7_days 51 = .ok (.aload_n 0, 1) := by decide +kernel
theorem dX7_days_52 : decode cX7_days 52 = .ok (.getfield 25, 3) := by decide +kernel
theorem dX7_days_55 : decode cX7_days 55 = .ok (.iconst 2, 1) := by decide +kernel
theorem dX7_days_56 : decode cX7_days 56 = .ok (.dup2, 1) := by decide +kernel
theorem dX7_days_57 : decode cX7_days 57 = .ok (.iaload, 1) := by decide +kernel
theorem dX7_days_58 : decode cX7_days 58 = .ok (.iconst 1, 1) := by decide +kernel
theorem dX7_days_59 : decode cX7_days 59 = .ok (.iadd, 1) := by decide +kernel
theorem dX7_days_60 : decode cX7_days 60 = .ok (.iastore, 1) := by decide +kernel
theorem dX7_days_61 : decode cX7_days 61 = .ok (.iinc 2 1, 3) := by decide +kernel
theorem dX7_days_64 : decode cX7_days 64 = .ok (.goto (-22), 3) := by decide +kernel
theorem dX7_days_67 : decode cX7_days 67 = .ok (.aload_n 0, 1) := by decide +kernel
theorem dX7_days_68 : decode cX7_days 68 = .ok (.getfield 25, 3) := by decide +kernel
theorem dX7_days_71 : decode cX7_days 71 = .ok (.aload_n 0, 1) := by decide +kernel
theorem dX7_days_72 : decode cX7_days 72 = .ok (.getfield 25, 3) := by decide +kernel
theorem dX7_days_75 : decode cX7_days 75 = .ok (.iconst 2, 1) := by decide +kernel
theorem dX7_days_76 : decode cX7_days 76 = .ok (.iaload, 1) := by decide +kernel
theorem dX7_days_77 : decode cX7_days 77 = .ok (.invokestatic 167, 3) := by decide +kernel
theorem dX7_days_80 : decode cX7_days 80 = .ok (.ireturn, 1) := by decide +kernel
set_option maxRecDepth 20000 in
theorem ggX7_bribe_X7_isClue : GoodIn wsX7_bribe wsX7_isClue := goodIn_r _ [8, 2, 9, 10, 7, 11, 21, 22, 23, 24, 25, 26, 27, 28, 29, 30, 31, 32, 33, 34, 35, 36, 37, 38, 39, 40, 41, 42, 43] (by decide +kernel) (by decide +kernel)
set_option maxRecDepth 20000 in
theorem gX7_bribe_X7_isClue : GoodIn wsX7_bribe (wsV RX7 170 RX7 yX7_isClue wsX7_isClue) := goodIn_app (goodIn_of _ (by decide +kernel)) ggX7_bribe_X7_isClue
set_option maxRecDepth 20000 in
theorem ggX7_bribe_X7_in : GoodIn wsX7_bribe wsX7_in := goodIn_r _ [11] (by decide +kernel) (by decide +kernel)
set_option maxRecDepth 20000 in
theorem gX7_bribe_X7_in : GoodIn wsX7_bribe (va_wsS RX7 56 yX7_in wsX7_in) := goodIn_app (goodIn_of _ (by decide +kernel)) ggX7_bribe_X7_in
set_option maxRecDepth 20000 in
theorem ggX7_bribe_X7_notes : GoodIn wsX7_bribe wsX7_notes := goodIn_r _ [15, 16, 17, 2, 18, 19, 7, 20, 21, 22, 23, 24, 25, 26, 27, 28, 29, 30, 31, 32, 33, 34, 35, 36, 37, 38, 39, 40, 41, 42, 43] (by decide +kernel) (by decide +kernel)
set_option maxRecDepth 20000 in
theorem gX7_bribe_X7_notes : GoodIn wsX7_bribe (wsV RX7 164 RX7 yX7_notes wsX7_notes) := goodIn_app (goodIn_of _ (by decide +kernel)) ggX7_bribe_X7_notes
theorem dX7_bribe_0 : decode cX7_bribe 0 = .ok (.aload_n 0, 1) := by decide +kernel
theorem dX7_bribe_1 : decode cX7_bribe 1 = .ok (.iload_n 1, 1) := by decide +kernel
theorem dX7_bribe_2 : decode cX7_bribe 2 = .ok (.invokevirtual 170, 3) := by decide +kernel
theorem dX7_bribe_5 : decode cX7_bribe 5 = .ok (.ifCond .eq 12, 3) := by decide +kernel
theorem dX7_bribe_8 : decode cX7_bribe 8 = .ok (.iload_n 2, 1) := by decide +kernel
theorem dX7_bribe_9 : decode cX7_bribe 9 = .ok (.iconst 0, 1) := by decide +kernel
theorem dX7_bribe_10 : decode cX7_bribe 10 = .ok (.iconst 1, 1) := by decide +kernel
theorem dX7_bribe_11 : decode cX7_bribe 11 = .ok (.invokestatic 56, 3) := by decide +kernel
theorem dX7_bribe_14 : decode cX7_bribe 14 = .ok (.ifCond .ne 6, 3) := by decide +kernel
theorem dX7_bribe_17 : decode cX7_bribe 17 = .ok (.ldc 64, 2) := by decide +kernel
theorem dX7_bribe_19 : decode cX7_bribe 19 = .ok (.ireturn, 1) := by decide +kernel
theorem dX7_bribe_20 : decode cX7_bribe 20 = .ok (.aload_n 0, 1) := by decide +kernel
theorem dX7_bribe_21 : decode cX7_bribe 21 = .ok (.getfield 25, 3) := by decide +kernel
theorem dX7_bribe_24 : decode cX7_bribe 24 = .ok (.iconst 3, 1) := by decide +kernel
theorem dX7_bribe_25 : decode cX7_bribe 25 = .ok (.iaload, 1) := by decide +kernel
theorem dX7_bribe_26 : decode cX7_bribe 26 = .ok (.iload_n 1, 1) := by decide +kernel
theorem dX7_bribe_27 : decode cX7_bribe 27 = .ok (.ishr, 1) := by decide +kernel
theorem dX7_bribe_28 : decode cX7_bribe 28 = .ok (.iconst 1, 1) := by decide +kernel
theorem dX7_bribe_29 : decode cX7_bribe 29 = .ok (.iand, 1) := by decide +kernel
theorem dX7_bribe_30 : decode cX7_bribe 30 = .ok (.iload_n 2, 1) := by decide +kernel
theorem dX7_bribe_31 : decode cX7_bribe 31 = .ok (.if_icmp .ne 6, 3) := by decide +kernel
theorem dX7_bribe_34 : decode cX7_bribe 34 = .ok (.ldc 163, 2) := by decide +kernel
theorem dX7_bribe_36 : decode cX7_bribe 36 = .ok (.ireturn, 1) := by decide +kernel
theorem dX7_bribe_37 : decode cX7_bribe 37 = .ok (.aload_n 0, 1) := by decide +kernel
theorem dX7_bribe_38 : decode cX7_bribe 38 = .ok (.invokevirtual 164, 3) := by decide +kernel
theorem dX7_bribe_41 : decode cX7_bribe 41 = .ok (.aload_n 0, 1) := by decide +kernel
theorem dX7_bribe_42 : decode cX7_bribe 42 = .ok (.getfield 25, 3) := by decide +kernel
theorem dX7_bribe_45 : decode cX7_bribe 45 = .ok (.iconst 3, 1) := by decide +kernel
theorem dX7_bribe_46 : decode cX7_bribe 46 = .ok (.dup2, 1) := by decide +kernel
theorem dX7_bribe_47 : decode cX7_bribe 47 = .ok (.iaload, 1) := by decide +kernel
theorem dX7_bribe_48 : decode cX7_bribe 48 = .ok (.iconst 1, 1) := by decide +kernel
theorem dX7_bribe_49 : decode cX7_bribe 49 = .ok (.iload_n 1, 1) := by decide +kernel
theorem dX7_bribe_50 : decode cX7_bribe 50 = .ok (.ishl, 1) := by decide +kernel
theorem dX7_bribe_51 : decode cX7_bribe 51 = .ok (.ixor, 1) := by decide +kernel
theorem dX7_bribe_52 : decode cX7_bribe 52 = .ok (.iastore, 1) := by decide +kernel
theorem dX7_bribe_53 : decode cX7_bribe 53 = .ok (.aload_n 0, 1) := by decide +kernel
theorem dX7_bribe_54 : decode cX7_bribe 54 = .ok (.getfield 25, 3) := by decide +kernel
theorem dX7_bribe_57 : decode cX7_bribe 57 = .ok (.iconst 3, 1) := by decide +kernel
theorem dX7_bribe_58 : decode cX7_bribe 58 = .ok (.iaload, 1) := by decide +kernel
theorem dX7_bribe_59 : decode cX7_bribe 59 = .ok (.ireturn, 1) := by decide +kernel
set_option maxRecDepth 20000 in
theorem ggX7_puts_X7_notes : GoodIn wsX7_puts wsX7_notes := goodIn_r _ [6, 7, 8, 1, 9, 10, 5, 11, 12, 13, 14, 15, 16, 17, 18, 19, 20, 21, 22, 23, 24, 25, 26, 27, 28, 29, 30, 31, 32, 33, 34] (by decide +kernel) (by decide +kernel)
set_option maxRecDepth 20000 in
theorem gX7_puts_X7_notes : GoodIn wsX7_puts (wsV RX7 164 RX7 yX7_notes wsX7_notes) := goodIn_app (goodIn_of _ (by decide +kernel)) ggX7_puts_X7_notes
theorem dX7_puts_0 : decode cX7_puts 0 = .ok (.aload_n 0, 1) := by decide +kernel
theorem dX7_puts_1 : decode cX7_puts 1 = .ok (.invokevirtual 164, 3) := by decide +kernel
theorem dX7_puts_4 : decode cX7_puts 4 = .ok (.aload_n 0, 1) := by decide +kernel
theorem dX7_puts_5 : decode cX7_puts 5 = .ok (.getfield 25, 3) := by decide +kernel
theorem dX7_puts_8 : decode cX7_puts 8 = .ok (.iload_n 1, 1) := by decide +kernel
theorem dX7_puts_9 : decode cX7_puts 9 = .ok (.iaload, 1) := by decide +kernel
theorem dX7_puts_10 : decode cX7_puts 10 = .ok (.istore_n 3, 1) := by decide +kernel
theorem dX7_puts_11 : decode cX7_puts 11 = .ok (.aload_n 0, 1) := by decide +kernel
theorem dX7_puts_12 : decode cX7_puts 12 = .ok (.getfield 25, 3) := by decide +kernel
theorem dX7_puts_15 : decode cX7_puts 15 = .ok (.iload_n 1, 1) := by decide +kernel
theorem dX7_puts_16 : decode cX7_puts 16 = .ok (.iload_n 2, 1) := by decide +kernel
theorem dX7_puts_17 : decode cX7_puts 17 = .ok (.iastore, 1) := by decide +kernel
theorem dX7_puts_18 : decode cX7_puts 18 = .ok (.iload_n 3, 1) := by decide +kernel
theorem dX7_puts_19 : decode cX7_puts 19 = .ok (.ireturn, 1) := by decide +kernel
set_option maxRecDepth 20000 in
theorem ggX7_learn_X7_isClue : GoodIn wsX7_learn wsX7_isClue := goodIn_r _ [7, 1, 8, 9, 6, 10, 27, 28, 29, 30, 31, 32, 33, 34, 35, 36, 37, 38, 39, 40, 41, 42, 43, 44, 45, 46, 47, 48, 49] (by decide +kernel) (by decide +kernel)
set_option maxRecDepth 20000 in
theorem gX7_learn_X7_isClue : GoodIn wsX7_learn (wsV RX7 170 RX7 yX7_isClue wsX7_isClue) := goodIn_app (goodIn_of _ (by decide +kernel)) ggX7_learn_X7_isClue
set_option maxRecDepth 20000 in
theorem ggX7_learn_X7_all : GoodIn wsX7_learn wsX7_all := goodIn_r _ [13] (by decide +kernel) (by decide +kernel)
set_option maxRecDepth 20000 in
theorem gX7_learn_X7_all : GoodIn wsX7_learn (va_wsS RX7 142 yX7_all wsX7_all) := goodIn_app (goodIn_of _ (by decide +kernel)) ggX7_learn_X7_all
set_option maxRecDepth 20000 in
theorem ggX7_learn_X7_in : GoodIn wsX7_learn wsX7_in := goodIn_r _ [10] (by decide +kernel) (by decide +kernel)
set_option maxRecDepth 20000 in
theorem gX7_learn_X7_in : GoodIn wsX7_learn (va_wsS RX7 56 yX7_in wsX7_in) := goodIn_app (goodIn_of _ (by decide +kernel)) ggX7_learn_X7_in
set_option maxRecDepth 20000 in
theorem ggX7_learn_X7_puts : GoodIn wsX7_learn wsX7_puts := goodIn_r _ [17, 1, 18, 19, 20, 6, 21, 22, 23, 24, 25, 26, 27, 28, 29, 30, 31, 32, 33, 34, 35, 36, 37, 38, 39, 40, 41, 42, 43, 44, 45, 46, 47, 48, 49] (by decide +kernel) (by decide +kernel)
set_option maxRecDepth 20000 in
theorem gX7_learn_X7_puts : GoodIn wsX7_learn (wsV RX7 173 RX7 yX7_puts wsX7_puts) := goodIn_app (goodIn_of _ (by decide +kernel)) ggX7_learn_X7_puts
theorem dX7_learn_0 : decode cX7_learn 0 = .ok (.aload_n 0, 1) := by decide +kernel
theorem dX7_learn_1 : decode cX7_learn 1 = .ok (.iload_n 1, 1) := by decide +kernel
theorem dX7_learn_2 : decode cX7_learn 2 = .ok (.invokevirtual 170, 3) := by decide +kernel
theorem dX7_learn_5 : decode cX7_learn 5 = .ok (.ifCond .eq 33, 3) := by decide +kernel
theorem dX7_learn_8 : decode cX7_learn 8 = .ok (.iload_n 2, 1) := by decide +kernel
theorem dX7_learn_9 : decode cX7_learn 9 = .ok (.iconst 1, 1) := by decide +kernel
theorem dX7_learn_10 : decode cX7_learn 10 = .ok (.aload_n 0, 1) := by decide +kernel
theorem dX7_learn_11 : decode cX7_learn 11 = .ok (.getfield 25, 3) := by decide +kernel
theorem dX7_learn_14 : decode cX7_learn 14 = .ok (.invokestatic 142, 3) := by decide +kernel
theorem dX7_learn_17 : decode cX7_learn 17 = .ok (.invokestatic 56, 3) := by decide +kernel
theorem dX7_learn_20 : decode cX7_learn 20 = .ok (.ifCond .eq 18, 3) := by decide +kernel
theorem dX7_learn_23 : decode cX7_learn 23 = .ok (.aload_n 0, 1) := by decide +kernel
theorem dX7_learn_24 : decode cX7_learn 24 = .ok (.iconst 5, 1) := by decide +kernel
theorem dX7_learn_25 : decode cX7_learn 25 = .ok (.iconst 4, 1) := by decide +kernel
theorem dX7_learn_26 : decode cX7_learn 26 = .ok (.iload_n 1, 1) := by decide +kernel
theorem dX7_learn_27 : decode cX7_learn 27 = .ok (.imul, 1) := by decide +kernel
theorem dX7_learn_28 : decode cX7_learn 28 = .ok (.iadd, 1) := by decide +kernel
theorem dX7_learn_29 : decode cX7_learn 29 = .ok (.iconst 1, 1) := by decide +kernel
theorem dX7_learn_30 : decode cX7_learn 30 = .ok (.iadd, 1) := by decide +kernel
theorem dX7_learn_31 : decode cX7_learn 31 = .ok (.iload_n 2, 1) := by decide +kernel
theorem dX7_learn_32 : decode cX7_learn 32 = .ok (.invokevirtual 173, 3) := by decide +kernel
theorem dX7_learn_35 : decode cX7_learn 35 = .ok (.goto 5, 3) := by decide +kernel
theorem dX7_learn_38 : decode cX7_learn 38 = .ok (.ldc 64, 2) := by decide +kernel
theorem dX7_learn_40 : decode cX7_learn 40 = .ok (.ireturn, 1) := by decide +kernel
set_option maxRecDepth 20000 in
theorem ggX7_shift_X7_isClue : GoodIn wsX7_shift wsX7_isClue := goodIn_r _ [7, 1, 8, 9, 6, 10, 24, 25, 26, 27, 28, 29, 30, 31, 32, 33, 34, 35, 36, 37, 38, 39, 40, 41, 42, 43, 44, 45, 46] (by decide +kernel) (by decide +kernel)
set_option maxRecDepth 20000 in
theorem gX7_shift_X7_isClue : GoodIn wsX7_shift (wsV RX7 170 RX7 yX7_isClue wsX7_isClue) := goodIn_app (goodIn_of _ (by decide +kernel)) ggX7_shift_X7_isClue
set_option maxRecDepth 20000 in
theorem ggX7_shift_X7_in : GoodIn wsX7_shift wsX7_in := goodIn_r _ [10] (by decide +kernel) (by decide +kernel)
set_option maxRecDepth 20000 in
theorem gX7_shift_X7_in : GoodIn wsX7_shift (va_wsS RX7 56 yX7_in wsX7_in) := goodIn_app (goodIn_of _ (by decide +kernel)) ggX7_shift_X7_in
set_option maxRecDepth 20000 in
theorem ggX7_shift_X7_puts : GoodIn wsX7_shift wsX7_puts := goodIn_r _ [14, 1, 15, 16, 17, 6, 18, 19, 20, 21, 22, 23, 24, 25, 26, 27, 28, 29, 30, 31, 32, 33, 34, 35, 36, 37, 38, 39, 40, 41, 42, 43, 44, 45, 46] (by decide +kernel) (by decide +kernel)
set_option maxRecDepth 20000 in
theorem gX7_shift_X7_puts : GoodIn wsX7_shift (wsV RX7 173 RX7 yX7_puts wsX7_puts) := goodIn_app (goodIn_of _ (by decide +kernel)) ggX7_shift_X7_puts
theorem dX7_shift_0 : decode cX7_shift 0 = .ok (.aload_n 0, 1) := by decide +kernel
theorem dX7_shift_1 : decode cX7_shift 1 = .ok (.iload_n 1, 1) := by decide +kernel
theorem dX7_shift_2 : decode cX7_shift 2 = .ok (.invokevirtual 170, 3) := by decide +kernel
theorem dX7_shift_5 : decode cX7_shift 5 = .ok (.ifCond .eq 40, 3) := by decide +kernel
theorem dX7_shift_8 : decode cX7_shift 8 = .ok (.iload_n 2, 1) := by decide +kernel
theorem dX7_shift_9 : decode cX7_shift 9 = .ok (.iconst 0, 1) := by decide +kernel
theorem dX7_shift_10 : decode cX7_shift 10 = .ok (.aload_n 0, 1) := by decide +kernel
theorem dX7_shift_11 : decode cX7_shift 11 = .ok (.getfield 25, 3) := by decide +kernel
theorem dX7_shift_14 : decode cX7_shift 14 = .ok (.iconst 5, 1) := by decide +kernel
theorem dX7_shift_15 : decode cX7_shift 15 = .ok (.iconst 4, 1) := by decide +kernel
theorem dX7_shift_16 : decode cX7_shift 16 = .ok (.iload_n 1, 1) := by decide +kernel
theorem dX7_shift_17 : decode cX7_shift 17 = .ok (.imul, 1) := by decide +kernel
theorem dX7_shift_18 : decode cX7_shift 18 = .ok (.iadd, 1) := by decide +kernel
theorem dX7_shift_19 : decode cX7_shift 19 = .ok (.iconst 2, 1) := by decide +kernel
theorem dX7_shift_20 : decode cX7_shift 20 = .ok (.iadd, 1) := by decide +kernel
theorem dX7_shift_21 : decode cX7_shift 21 = .ok (.iaload, 1) := by decide +kernel
theorem dX7_shift_22 : decode cX7_shift 22 = .ok (.iconst 1, 1) := by decide +kernel
theorem dX7_shift_23 : decode cX7_shift 23 = .ok (.isub, 1) := by decide +kernel
theorem dX7_shift_24 : decode cX7_shift 24 = .ok (.invokestatic 56, 3) := by decide +kernel
theorem dX7_shift_27 : decode cX7_shift 27 = .ok (.ifCond .eq 18, 3) := by decide +kernel
theorem dX7_shift_30 : decode cX7_shift 30 = .ok (.aload_n 0, 1) := by decide +kernel
theorem dX7_shift_31 : decode cX7_shift 31 = .ok (.iconst 5, 1) := by decide +kernel
theorem dX7_shift_32 : decode cX7_shift 32 = .ok (.iconst 4, 1) := by decide +kernel
theorem dX7_shift_33 : decode cX7_shift 33 = .ok (.iload_n 1, 1) := by decide +kernel
theorem dX7_shift_34 : decode cX7_shift 34 = .ok (.imul, 1) := by decide +kernel
theorem dX7_shift_35 : decode cX7_shift 35 = .ok (.iadd, 1) := by decide +kernel
theorem dX7_shift_36 : decode cX7_shift 36 = .ok (.iconst 3, 1) := by decide +kernel
theorem dX7_shift_37 : decode cX7_shift 37 = .ok (.iadd, 1) := by decide +kernel
theorem dX7_shift_38 : decode cX7_shift 38 = .ok (.iload_n 2, 1) := by decide +kernel
theorem dX7_shift_39 : decode cX7_shift 39 = .ok (.invokevirtual 173, 3) := by decide +kernel
theorem dX7_shift_42 : decode cX7_shift 42 = .ok (.goto 5, 3) := by decide +kernel
theorem dX7_shift_45 : decode cX7_shift 45 = .ok (.ldc 64, 2) := by decide +kernel
theorem dX7_shift_47 : decode cX7_shift 47 = .ok (.ireturn, 1) := by decide +kernel
set_option maxRecDepth 20000 in
theorem ggX7_undo_X7_copies : GoodIn wsX7_undo wsX7_copies := goodIn_r _ [8] (by decide +kernel) (by decide +kernel)
set_option maxRecDepth 20000 in
theorem gX7_undo_X7_copies : GoodIn wsX7_undo (va_wsS RX7 131 yX7_copies wsX7_copies) := goodIn_app (goodIn_of _ (by decide +kernel)) ggX7_undo_X7_copies
theorem dX7_undo_0 : decode cX7_undo 0 = .ok (.aload_n 0, 1) := by decide +kernel
theorem dX7_undo_1 : decode cX7_undo 1 = .ok (.getfield 135, 3) := by decide +kernel
theorem dX7_undo_4 : decode cX7_undo 4 = .ok (.ifCond .ne 6, 3) := by decide +kernel
theorem dX7_undo_7 : decode cX7_undo 7 = .ok (.ldc 163, 2) := by decide +kernel
theorem dX7_undo_9 : decode cX7_undo 9 = .ok (.ireturn, 1) := by decide +kernel
theorem dX7_undo_10 : decode cX7_undo 10 = .ok (.aload_n 0, 1) := by decide +kernel
theorem dX7_undo_11 : decode cX7_undo 11 = .ok (.dup, 1) := by decide +kernel
theorem dX7_undo_12 : decode cX7_undo 12 = .ok (.getfield 135, 3) := by decide +kernel
theorem dX7_undo_15 : decode cX7_undo 15 = .ok (.iconst 1, 1) := by decide +kernel
theorem dX7_undo_16 : decode cX7_undo 16 = .ok (.isub, 1) := by decide +kernel
theorem dX7_undo_17 : decode cX7_undo 17 = .ok (.putfield 135, 3) := by decide +kernel
theorem dX7_undo_20 : decode cX7_undo 20 = .ok (.aload_n 0, 1) := by decide +kernel
theorem dX7_undo_21 : decode cX7_undo 21 = .ok (.getfield 34, 3) := by decide +kernel
theorem dX7_undo_24 : decode cX7_undo 24 = .ok (.bipush 29, 2) := by decide +kernel
theorem dX7_undo_26 : decode cX7_undo 26 = .ok (.aload_n 0, 1) := by decide +kernel
theorem dX7_undo_27 : decode cX7_undo 27 = .ok (.getfield 135, 3) := by decide +kernel
theorem dX7_undo_30 : decode cX7_undo 30 = .ok (.imul, 1) := by decide +kernel
theorem dX7_undo_31 : decode cX7_undo 31 = .ok (.aload_n 0, 1) := by decide +kernel
theorem dX7_undo_32 : decode cX7_undo 32 = .ok (.getfield 25, 3) := by decide +kernel
theorem dX7_undo_35 : decode cX7_undo 35 = .ok (.iconst 0, 1) := by decide +kernel
theorem dX7_undo_36 : decode cX7_undo 36 = .ok (.invokestatic 131, 3) := by decide +kernel
theorem dX7_undo_39 : decode cX7_undo 39 = .ok (.aload_n 0, 1) := by decide +kernel
theorem dX7_undo_40 : decode cX7_undo 40 = .ok (.getfield 135, 3) := by decide +kernel
theorem dX7_undo_43 : decode cX7_undo 43 = .ok (.ireturn, 1) := by decide +kernel
set_option maxRecDepth 20000 in
theorem ggX7_clue_X7_isClue : GoodIn wsX7_clue wsX7_isClue := goodIn_r _ [7, 2, 8, 9, 6, 10, 23, 24, 25, 26, 27, 28, 29, 30, 31, 32, 33, 34, 35, 36, 37, 38, 39, 40, 41, 42, 43, 44, 45] (by decide +kernel) (by decide +kernel)
set_option maxRecDepth 20000 in
theorem gX7_clue_X7_isClue : GoodIn wsX7_clue (wsV RX7 170 RX7 yX7_isClue wsX7_isClue) := goodIn_app (goodIn_of _ (by decide +kernel)) ggX7_clue_X7_isClue
set_option maxRecDepth 20000 in
theorem ggX7_clue_X7_isAtWork : GoodIn wsX7_clue wsX7_isAtWork := goodIn_r _ [13] (by decide +kernel) (by decide +kernel)
set_option maxRecDepth 20000 in
theorem gX7_clue_X7_isAtWork : GoodIn wsX7_clue (va_wsS RX7 146 yX7_isAtWork wsX7_isAtWork) := goodIn_app (goodIn_of _ (by decide +kernel)) ggX7_clue_X7_isAtWork
set_option maxRecDepth 20000 in
theorem ggX7_clue_X7_leaves : GoodIn wsX7_clue wsX7_leaves := goodIn_r _ [16, 17, 18, 6, 19, 20, 21, 22] (by decide +kernel) (by decide +kernel)
set_option maxRecDepth 20000 in
theorem gX7_clue_X7_leaves : GoodIn wsX7_clue (va_wsS RX7 150 yX7_leaves wsX7_leaves) := goodIn_app (goodIn_of _ (by decide +kernel)) ggX7_clue_X7_leaves
theorem dX7_clue_0 : decode cX7_clue 0 = .ok (.aload_n 0, 1) := by decide +kernel
theorem dX7_clue_1 : decode cX7_clue 1 = .ok (.iload_n 1, 1) := by decide +kernel
theorem dX7_clue_2 : decode cX7_clue 2 = .ok (.invokevirtual 170, 3) := by decide +kernel
theorem dX7_clue_5 : decode cX7_clue 5 = .ok (.ifCond .ne 6, 3) := by decide +kernel
theorem dX7_clue_8 : decode cX7_clue 8 = .ok (.ldc 64, 2) := by decide +kernel
theorem dX7_clue_10 : decode cX7_clue 10 = .ok (.ireturn, 1) := by decide +kernel
theorem dX7_clue_11 : decode cX7_clue 11 = .ok (.iload_n 2, 1) := by decide +kernel
theorem dX7_clue_12 : decode cX7_clue 12 = .ok (.tableswitch 122 0 5 #[40, 53, 66, 79, 90, 113], 40) := by decide +kernel
theorem dX7_clue_52 : decode cX7_clue 52 = .ok (.aload_n 0, 1) := by decide +kernel
theorem dX7_clue_53 : decode cX7_clue 53 = .ok (.getfield 25, 3) := by decide +kernel
theorem dX7_clue_56 : decode cX7_clue 56 = .ok (.iconst 5, 1) := by decide +kernel
theorem dX7_clue_57 : decode cX7_clue 57 = .ok (.iconst 4, 1) := by decide +kernel
theorem dX7_clue_58 : decode cX7_clue 58 = .ok (.iload_n 1, 1) := by decide +kernel
theorem dX7_clue_59 : decode cX7_clue 59 = .ok (.imul, 1) := by decide +kernel
theorem dX7_clue_60 : decode cX7_clue 60 = .ok (.iadd, 1) := by decide +kernel
theorem dX7_clue_61 : decode cX7_clue 61 = .ok (.iconst 1, 1) := by decide +kernel
theorem dX7_clue_62 : decode cX7_clue 62 = .ok (.iadd, 1) := by decide +kernel
theorem dX7_clue_63 : decode cX7_clue 63 = .ok (.iaload, 1) := by decide +kernel
theorem dX7_clue_64 : decode cX7_clue 64 = .ok (.ireturn, 1) := by decide +kernel
theorem dX7_clue_65 : decode cX7_clue 65 = .ok (.aload_n 0, 1) := by decide +kernel
theorem dX7_clue_66 : decode cX7_clue 66 = .ok (.getfield 25, 3) := by decide +kernel
theorem dX7_clue_69 : decode cX7_clue 69 = .ok (.iconst 5, 1) := by decide +kernel
theorem dX7_clue_70 : decode cX7_clue 70 = .ok (.iconst 4, 1) := by decide +kernel
theorem dX7_clue_71 : decode cX7_clue 71 = .ok (.iload_n 1, 1) := by decide +kernel
theorem dX7_clue_72 : decode cX7_clue 72 = .ok (.imul, 1) := by decide +kernel
theorem dX7_clue_73 : decode cX7_clue 73 = .ok (.iadd, 1) := by decide +kernel
theorem dX7_clue_74 : decode cX7_clue 74 = .ok (.iconst 2, 1) := by decide +kernel
theorem dX7_clue_75 : decode cX7_clue 75 = .ok (.iadd, 1) := by decide +kernel
theorem dX7_clue_76 : decode cX7_clue 76 = .ok (.iaload, 1) := by decide +kernel
theorem dX7_clue_77 : decode cX7_clue 77 = .ok (.ireturn, 1) := by decide +kernel
theorem dX7_clue_78 : decode cX7_clue 78 = .ok (.aload_n 0, 1) := by decide +kernel
theorem dX7_clue_79 : decode cX7_clue 79 = .ok (.getfield 25, 3) := by decide +kernel
theorem dX7_clue_82 : decode cX7_clue 82 = .ok (.iconst 5, 1) := by decide +kernel
theorem dX7_clue_83 : decode cX7_clue 83 = .ok (.iconst 4, 1) := by decide +kernel
theorem dX7_clue_84 : decode cX7_clue 84 = .ok (.iload_n 1, 1) := by decide +kernel
theorem dX7_clue_85 : decode cX7_clue 85 = .ok (.imul, 1) := by decide +kernel
theorem dX7_clue_86 : decode cX7_clue 86 = .ok (.iadd, 1) := by decide +kernel
theorem dX7_clue_87 : decode cX7_clue 87 = .ok (.iconst 3, 1) := by decide +kernel
theorem dX7_clue_88 : decode cX7_clue 88 = .ok (.iadd, 1) := by decide +kernel
theorem dX7_clue_89 : decode cX7_clue 89 = .ok (.iaload, 1) := by decide +kernel
theorem dX7_clue_90 : decode cX7_clue 90 = .ok (.ireturn, 1) := by decide +kernel
theorem dX7_clue_91 : decode cX7_clue 91 = .ok (.aload_n 0, 1) := by decide +kernel
theorem dX7_clue_92 : decode cX7_clue 92 = .ok (.getfield 25, 3) := by decide +kernel
theorem dX7_clue_95 : decode cX7_clue 95 = .ok (.iconst 3, 1) := by decide +kernel
theorem dX7_clue_96 : decode cX7_clue 96 = .ok (.iaload, 1) := by decide +kernel
theorem dX7_clue_97 : decode cX7_clue 97 = .ok (.iload_n 1, 1) := by decide +kernel
theorem dX7_clue_98 : decode cX7_clue 98 = .ok (.ishr, 1) := by decide +kernel
theorem dX7_clue_99 : decode cX7_clue 99 = .ok (.iconst 1, 1) := by decide +kernel
theorem dX7_clue_100 : decode cX7_clue 100 = .ok (.iand, 1) := by decide +kernel
theorem dX7_clue_101 : decode cX7_clue 101 = .ok (.ireturn, 1) := by decide +kernel
theorem dX7_clue_102 : decode cX7_clue 102 = .ok (.aload_n 0, 1) := by decide +kernel
theorem dX7_clue_103 : decode cX7_clue 103 = .ok (.getfield 25, 3) := by decide +kernel
theorem dX7_clue_106 : decode cX7_clue 106 = .ok (.iload_n 1, 1) := by decide +kernel
theorem dX7_clue_107 : decode cX7_clue 107 = .ok (.aload_n 0, 1) := by decide +kernel
theorem dX7_clue_108 : decode cX7_clue 108 = .ok (.getfield 25, 3) := by decide +kernel
theorem dX7_clue_111 : decode cX7_clue 111 = .ok (.iconst 2, 1) := by decide +kernel
theorem dX7_clue_112 : decode cX7_clue 112 = .ok (.iaload, 1) := by decide +kernel
theorem dX7_clue_113 : decode cX7_clue 113 = .ok (.invokestatic 146, 3) := by decide +kernel
theorem dX7_clue_116 : decode cX7_clue 116 = .ok (.ifCond .eq 7, 3) := by decide +kernel
theorem dX7_clue_119 : decode cX7_clue 119 = .ok (.iconst 1, 1) := by decide +kernel
theorem dX7_clue_120 : decode cX7_clue 120 = .ok (.goto 4, 3) := by decide +kernel
theorem dX7_clue_123 : decode cX7_clue 123 = .ok (.iconst 0, 1) := by decide +kernel
theorem dX7_clue_124 : decode cX7_clue 124 = .ok (.ireturn, 1) := by decide +kernel
theorem dX7_clue_125 : decode cX7_clue 125 = .ok (.aload_n 0, 1) := by decide +kernel
theorem dX7_clue_126 : decode cX7_clue 126 = .ok (.getfield 25, 3) := by decide +kernel
theorem dX7_clue_129 : decode cX7_clue 129 = .ok (.iload_n 1, 1) := by decide +kernel
theorem dX7_clue_130 : decode cX7_clue 130 = .ok (.invokestatic 150, 3) := by decide +kernel
theorem dX7_clue_133 : decode cX7_clue 133 = .ok (.ireturn, 1) := by decide +kernel
theorem dX7_clue_134 : decode cX7_clue 134 = .ok (.ldc 64, 2) := by decide +kernel
theorem dX7_clue_136 : decode cX7_clue 136 = .ok (.ireturn, 1) := by decide +kernel
set_option maxRecDepth 20000 in
theorem ggX7_ahead_X7_isCity : GoodIn wsX7_ahead wsX7_isCity := goodIn_r _ [8, 3, 40, 41, 42, 43, 44, 45, 46, 47, 48, 49, 50, 51, 52, 53, 54, 55, 56, 57, 58, 59, 60, 61, 62] (by decide +kernel) (by decide +kernel)
set_option maxRecDepth 20000 in
theorem gX7_ahead_X7_isCity : GoodIn wsX7_ahead (wsV RX7 160 RX7 yX7_isCity wsX7_isCity) := goodIn_app (goodIn_of _ (by decide +kernel)) ggX7_ahead_X7_isCity
set_option maxRecDepth 20000 in
theorem ggX7_ahead_X7_isFar : GoodIn wsX7_ahead wsX7_isFar := goodIn_r _ [11, 12, 13, 7, 14] (by decide +kernel) (by decide +kernel)
set_option maxRecDepth 20000 in
theorem gX7_ahead_X7_isFar : GoodIn wsX7_ahead (va_wsS RX7 176 yX7_isFar wsX7_isFar) := goodIn_app (goodIn_of _ (by decide +kernel)) ggX7_ahead_X7_isFar
set_option maxRecDepth 20000 in
theorem ggX7_ahead_X7_in : GoodIn wsX7_ahead wsX7_in := goodIn_r _ [14] (by decide +kernel) (by decide +kernel)
set_option maxRecDepth 20000 in
theorem gX7_ahead_X7_in : GoodIn wsX7_ahead (va_wsS RX7 56 yX7_in wsX7_in) := goodIn_app (goodIn_of _ (by decide +kernel)) ggX7_ahead_X7_in
set_option maxRecDepth 20000 in
theorem ggX7_ahead_X7_leftOn : GoodIn wsX7_ahead wsX7_leftOn := goodIn_r _ [17, 18, 19, 7, 20, 21, 22, 23, 24, 25, 26, 27, 28, 29, 30, 31, 32, 33, 34, 35] (by decide +kernel) (by decide +kernel)
set_option maxRecDepth 20000 in
theorem gX7_ahead_X7_leftOn : GoodIn wsX7_ahead (va_wsS RX7 167 yX7_leftOn wsX7_leftOn) := goodIn_app (goodIn_of _ (by decide +kernel)) ggX7_ahead_X7_leftOn
set_option maxRecDepth 20000 in
theorem ggX7_ahead_X7_workers : GoodIn wsX7_ahead wsX7_workers := goodIn_r _ [20, 21, 22, 7, 23] (by decide +kernel) (by decide +kernel)
set_option maxRecDepth 20000 in
theorem gX7_ahead_X7_workers : GoodIn wsX7_ahead (va_wsS RX7 154 yX7_workers wsX7_workers) := goodIn_app (goodIn_of _ (by decide +kernel)) ggX7_ahead_X7_workers
set_option maxRecDepth 20000 in
theorem ggX7_ahead_X7_only : GoodIn wsX7_ahead wsX7_only := goodIn_r _ [38, 39] (by decide +kernel) (by decide +kernel)
set_option maxRecDepth 20000 in
theorem gX7_ahead_X7_only : GoodIn wsX7_ahead (va_wsS RX7 179 yX7_only wsX7_only) := goodIn_app (goodIn_of _ (by decide +kernel)) ggX7_ahead_X7_only
theorem dX7_ahead_0 : decode cX7_ahead 0 = .ok (.aload_n 0, 1) := by decide +kernel
theorem dX7_ahead_1 : decode cX7_ahead 1 = .ok (.invokevirtual 160, 3) := by decide +kernel
theorem dX7_ahead_4 : decode cX7_ahead 4 = .ok (.ifCond .ne 6, 3) := by decide +kernel
theorem dX7_ahead_7 : decode cX7_ahead 7 = .ok (.ldc 163, 2) := by decide +kernel
theorem dX7_ahead_9 : decode cX7_ahead 9 = .ok (.ireturn, 1) := by decide +kernel
theorem dX7_ahead_10 : decode cX7_ahead 10 = .ok (.iload_n 1, 1) := by decide +kernel
theorem dX7_ahead_11 : decode cX7_ahead 11 = .ok (.invokestatic 176, 3) := by decide +kernel
theorem dX7_ahead_14 : decode cX7_ahead 14 = .ok (.ifCond .eq 12, 3) := by decide +kernel
theorem dX7_ahead_17 : decode cX7_ahead 17 = .ok (.iload_n 2, 1) := by decide +kernel
theorem dX7_ahead_18 : decode cX7_ahead 18 = .ok (.iconst 0, 1) := by decide +kernel
theorem dX7_ahead_19 : decode cX7_ahead 19 = .ok (.iconst 2, 1) := by decide +kernel
theorem dX7_ahead_20 : decode cX7_ahead 20 = .ok (.invokestatic 56, 3) := by decide +kernel
theorem dX7_ahead_23 : decode cX7_ahead 23 = .ok (.ifCond .ne 6, 3) := by decide +kernel
theorem dX7_ahead_26 : decode cX7_ahead 26 = .ok (.ldc 64, 2) := by decide +kernel
theorem dX7_ahead_28 : decode cX7_ahead 28 = .ok (.ireturn, 1) := by decide +kernel
theorem dX7_ahead_29 : decode cX7_ahead 29 = .ok (.aload_n 0, 1) := by decide +kernel
theorem dX7_ahead_30 : decode cX7_ahead 30 = .ok (.getfield 25, 3) := by decide +kernel
theorem dX7_ahead_33 : decode cX7_ahead 33 = .ok (.aload_n 0, 1) := by decide +kernel
theorem dX7_ahead_34 : decode cX7_ahead 34 = .ok (.getfield 25, 3) := by decide +kernel
theorem dX7_ahead_37 : decode cX7_ahead 37 = .ok (.iconst 2, 1) := by decide +kernel
theorem dX7_ahead_38 : decode cX7_ahead 38 = .ok (.iaload, 1) := by decide +kernel
theorem dX7_ahead_39 : decode cX7_ahead 39 = .ok (.iload_n 1, 1) := by decide +kernel
theorem dX7_ahead_40 : decode cX7_ahead 40 = .ok (.iadd, 1) := by decide +kernel
theorem dX7_ahead_41 : decode cX7_ahead 41 = .ok (.invokestatic 167, 3) := by decide +kernel
theorem dX7_ahead_44 : decode cX7_ahead 44 = .ok (.istore_n 3, 1) := by decide +kernel
theorem dX7_ahead_45 : decode cX7_ahead 45 = .ok (.iload_n 2, 1) := by decide +kernel
theorem dX7_ahead_46 : decode cX7_ahead 46 = .ok (.ifCond .ne 7, 3) := by decide +kernel
theorem dX7_ahead_49 : decode cX7_ahead 49 = .ok (.iload_n 3, 1) := by decide +kernel
theorem dX7_ahead_50 : decode cX7_ahead 50 = .ok (.goto 30, 3) := by decide +kernel
theorem dX7_ahead_53 : decode cX7_ahead 53 = .ok (.iload_n 2, 1) := by decide +kernel
theorem dX7_ahead_54 : decode cX7_ahead 54 = .ok (.iconst 1, 1) := by decide +kernel
theorem dX7_ahead_55 : decode cX7_ahead 55 = .ok (.if_icmp .ne 21, 3) := by decide +kernel
theorem dX7_ahead_58 : decode cX7_ahead 58 = .ok (.aload_n 0, 1) := by decide +kernel
theorem dX7_ahead_59 : decode cX7_ahead 59 = .ok (.getfield 25, 3) := by decide +kernel
theorem dX7_ahead_62 : decode cX7_ahead 62 = .ok (.aload_n 0, 1) := by decide +kernel
theorem dX7_ahead_63 : decode cX7_ahead 63 = .ok (.getfield 25, 3) := by decide +kernel
theorem dX7_ahead_66 : decode cX7_ahead 66 = .ok (.iconst 2, 1) := by decide +kernel
theorem dX7_ahead_67 : decode cX7_ahead 67 = .ok (.iaload, 1) := by decide +kernel
theorem dX7_ahead_68 : decode cX7_ahead 68 = .ok (.iload_n 1, 1) := by decide +kernel
theorem dX7_ahead_69 : decode cX7_ahead 69 = .ok (.iadd, 1) := by decide +kernel
theorem dX7_ahead_70 : decode cX7_ahead 70 = .ok (.invokestatic 154, 3) := by decide +kernel
theorem dX7_ahead_73 : decode cX7_ahead 73 = .ok (.goto 7, 3) := by decide +kernel
theorem dX7_ahead_76 : decode cX7_ahead 76 = .ok (.iload_n 3, 1) := by decide +kernel
theorem dX7_ahead_77 : decode cX7_ahead 77 = .ok (.invokestatic 179, 3) := by decide +kernel
theorem dX7_ahead_80 : decode cX7_ahead 80 = .ok (.ireturn, 1) := by decide +kernel
set_option maxRecDepth 20000 in
theorem ggX7_first_X7_isCity : GoodIn wsX7_first wsX7_isCity := goodIn_r _ [9, 3, 37, 38, 39, 40, 41, 42, 43, 44, 45, 46, 47, 48, 49, 50, 51, 52, 53, 54, 55, 56, 57, 58, 59] (by decide +kernel) (by decide +kernel)
set_option maxRecDepth 20000 in
theorem gX7_first_X7_isCity : GoodIn wsX7_first (wsV RX7 160 RX7 yX7_isCity wsX7_isCity) := goodIn_app (goodIn_of _ (by decide +kernel)) ggX7_first_X7_isCity
set_option maxRecDepth 20000 in
theorem ggX7_first_X7_in : GoodIn wsX7_first wsX7_in := goodIn_r _ [12] (by decide +kernel) (by decide +kernel)
set_option maxRecDepth 20000 in
theorem gX7_first_X7_in : GoodIn wsX7_first (va_wsS RX7 56 yX7_in wsX7_in) := goodIn_app (goodIn_of _ (by decide +kernel)) ggX7_first_X7_in
set_option maxRecDepth 20000 in
theorem ggX7_first_X7_leftOn : GoodIn wsX7_first wsX7_leftOn := goodIn_r _ [15, 16, 17, 8, 18, 19, 20, 21, 22, 23, 24, 25, 26, 27, 28, 29, 30, 31, 32, 33] (by decide +kernel) (by decide +kernel)
set_option maxRecDepth 20000 in
theorem gX7_first_X7_leftOn : GoodIn wsX7_first (va_wsS RX7 167 yX7_leftOn wsX7_leftOn) := goodIn_app (goodIn_of _ (by decide +kernel)) ggX7_first_X7_leftOn
set_option maxRecDepth 20000 in
theorem ggX7_first_X7_ones : GoodIn wsX7_first wsX7_ones := goodIn_r _ [36] (by decide +kernel) (by decide +kernel)
set_option maxRecDepth 20000 in
theorem gX7_first_X7_ones : GoodIn wsX7_first (va_wsS RX7 182 yX7_ones wsX7_ones) := goodIn_app (goodIn_of _ (by decide +kernel)) ggX7_first_X7_ones
theorem dX7_first_0 : decode cX7_first 0 = .ok (.aload_n 0, 1) := by decide +kernel
theorem dX7_first_1 : decode cX7_first 1 = .ok (.invokevirtual 160, 3) := by decide +kernel
theorem dX7_first_4 : decode cX7_first 4 = .ok (.ifCond .ne 6, 3) := by decide +kernel
theorem dX7_first_7 : decode cX7_first 7 = .ok (.ldc 163, 2) := by decide +kernel
theorem dX7_first_9 : decode cX7_first 9 = .ok (.ireturn, 1) := by decide +kernel
theorem dX7_first_10 : decode cX7_first 10 = .ok (.iload_n 1, 1) := by decide +kernel
theorem dX7_first_11 : decode cX7_first 11 = .ok (.iconst 0, 1) := by decide +kernel
theorem dX7_first_12 : decode cX7_first 12 = .ok (.iconst 1, 1) := by decide +kernel
theorem dX7_first_13 : decode cX7_first 13 = .ok (.invokestatic 56, 3) := by decide +kernel
theorem dX7_first_16 : decode cX7_first 16 = .ok (.ifCond .ne 6, 3) := by decide +kernel
theorem dX7_first_19 : decode cX7_first 19 = .ok (.ldc 64, 2) := by decide +kernel
theorem dX7_first_21 : decode cX7_first 21 = .ok (.ireturn, 1) := by decide +kernel
theorem dX7_first_22 : decode cX7_first 22 = .ok (.iconst 0, 1) := by decide +kernel
theorem dX7_first_23 : decode cX7_first 23 = .ok (.istore_n 2, 1) := by decide +kernel
theorem dX7_first_24 : decode cX7_first 24 = .ok (.iload_n 2, 1) := by decide +kernel
theorem dX7_first_25 : decode cX7_first 25 = .ok (.bipush 100, 2) := by decide +kernel
theorem dX7_first_27 : decode cX7_first 27 = .ok (.if_icmp .ge 35, 3) := by decide +kernel
theorem dX7_first_30 : decode cX7_first 30 = .ok (.aload_n 0, 1) := by decide +kernel
theorem dX7_first_31 : decode cX7_first 31 = .ok (.getfield 25, 3) := by decide +kernel
theorem dX7_first_34 : decode cX7_first 34 = .ok (.aload_n 0, 1) := by decide +kernel
theorem dX7_first_35 : decode cX7_first 35 = .ok (.getfield 25, 3) := by decide +kernel
theorem dX7_first_38 : decode cX7_first 38 = .ok (.iconst 2, 1) := by decide +kernel
theorem dX7_first_39 : decode cX7_first 39 = .ok (.iaload, 1) := by decide +kernel
theorem dX7_first_40 : decode cX7_first 40 = .ok (.iload_n 2, 1) := by decide +kernel
theorem dX7_first_41 : decode cX7_first 41 = .ok (.iadd, 1) := by decide +kernel
theorem dX7_first_42 : decode cX7_first 42 = .ok (.invokestatic 167, 3) := by decide +kernel
theorem dX7_first_45 : decode cX7_first 45 = .ok (.invokestatic 182, 3) := by decide +kernel
theorem dX7_first_48 : decode cX7_first 48 = .ok (.iconst 1, 1) := by decide +kernel
theorem dX7_first_49 : decode cX7_first 49 = .ok (.iload_n 1, 1) := by decide +kernel
theorem dX7_first_50 : decode cX7_first 50 = .ok (.isub, 1) := by decide +kernel
theorem dX7_first_51 : decode cX7_first 51 = .ok (.if_icmp .ne 5, 3) := by decide +kernel
theorem dX7_first_54 : decode cX7_first 54 = .ok (.iload_n 2, 1) := by decide +kernel
theorem dX7_first_55 : decode cX7_first 55 = .ok (.ireturn, 1) := by decide +kernel
theorem dX7_first_56 : decode cX7_first 56 = .ok (.iinc 2 1, 3) := by decide +kernel
theorem dX7_first_59 : decode cX7_first 59 = .ok (.goto (-35), 3) := by decide +kernel
theorem dX7_first_62 : decode cX7_first 62 = .ok (.ldc 50, 2) := by decide +kernel
theorem dX7_first_64 : decode cX7_first 64 = .ok (.ireturn, 1) := by decide +kernel
set_option maxRecDepth 20000 in
theorem ggX7_sureDays_X7_leftOn : GoodIn wsX7_sureDays wsX7_leftOn := goodIn_r _ [5, 6, 7, 4, 8, 9, 10, 11, 12, 13, 14, 15, 16, 17, 18, 19, 20, 21, 22, 23] (by decide +kernel) (by decide +kernel)
set_option maxRecDepth 20000 in
theorem gX7_sureDays_X7_leftOn : GoodIn wsX7_sureDays (va_wsS RX7 167 yX7_leftOn wsX7_leftOn) := goodIn_app (goodIn_of _ (by decide +kernel)) ggX7_sureDays_X7_leftOn
set_option maxRecDepth 20000 in
theorem ggX7_sureDays_X7_ones : GoodIn wsX7_sureDays wsX7_ones := goodIn_r _ [26] (by decide +kernel) (by decide +kernel)
set_option maxRecDepth 20000 in
theorem gX7_sureDays_X7_ones : GoodIn wsX7_sureDays (va_wsS RX7 182 yX7_ones wsX7_ones) := goodIn_app (goodIn_of _ (by decide +kernel)) ggX7_sureDays_X7_ones
theorem dX7_sureDays_0 : decode cX7_sureDays 0 = .ok (.iconst 0, 1) := by decide +kernel
theorem dX7_sureDays_1 : decode cX7_sureDays 1 = .ok (.istore_n 2, 1) := by decide +kernel
theorem dX7_sureDays_2 : decode cX7_sureDays 2 = .ok (.iconst 0, 1) := by decide +kernel
theorem dX7_sureDays_3 : decode cX7_sureDays 3 = .ok (.istore_n 3, 1) := by decide +kernel
theorem dX7_sureDays_4 : decode cX7_sureDays 4 = .ok (.iload_n 3, 1) := by decide +kernel
theorem dX7_sureDays_5 : decode cX7_sureDays 5 = .ok (.iload_n 1, 1) := by decide +kernel
theorem dX7_sureDays_6 : decode cX7_sureDays 6 = .ok (.if_icmp .ge 39, 3) := by decide +kernel
theorem dX7_sureDays_9 : decode cX7_sureDays 9 = .ok (.iload_n 2, 1) := by decide +kernel
theorem dX7_sureDays_10 : decode cX7_sureDays 10 = .ok (.aload_n 0, 1) := by decide +kernel
theorem dX7_sureDays_11 : decode cX7_sureDays 11 = .ok (.getfield 31, 3) := by decide +kernel
theorem dX7_sureDays_14 : decode cX7_sureDays 14 = .ok (.aload_n 0, 1) := by decide +kernel
theorem dX7_sureDays_15 : decode cX7_sureDays 15 = .ok (.getfield 31, 3) := by decide +kernel
theorem dX7_sureDays_18 : decode cX7_sureDays 18 = .ok (.iconst 2, 1) := by decide +kernel
theorem dX7_sureDays_19 : decode cX7_sureDays 19 = .ok (.iaload, 1) := by decide +kernel
theorem dX7_sureDays_20 : decode cX7_sureDays 20 = .ok (.iload_n 3, 1) := by decide +kernel
theorem dX7_sureDays_21 : decode cX7_sureDays 21 = .ok (.iadd, 1) := by decide +kernel
theorem dX7_sureDays_22 : decode cX7_sureDays 22 = .ok (.invokestatic 167, 3) := by decide +kernel
theorem dX7_sureDays_25 : decode cX7_sureDays 25 = .ok (.invokestatic 182, 3) := by decide +kernel
theorem dX7_sureDays_28 : decode cX7_sureDays 28 = .ok (.iconst 1, 1) := by decide +kernel
theorem dX7_sureDays_29 : decode cX7_sureDays 29 = .ok (.if_icmp .ne 7, 3) := by decide +kernel
theorem dX7_sureDays_32 : decode cX7_sureDays 32 = .ok (.iconst 1, 1) := by decide +kernel
theorem dX7_sureDays_33 : decode cX7_sureDays 33 = .ok (.goto 4, 3) := by decide +kernel
theorem dX7_sureDays_36 : decode cX7_sureDays 36 = .ok (.iconst 0, 1) := by decide +kernel
theorem dX7_sureDays_37 : decode cX7_sureDays 37 = .ok (.iadd, 1) := by decide +kernel
theorem dX7_sureDays_38 : decode cX7_sureDays 38 = .ok (.istore_n 2, 1) := by decide +kernel
theorem dX7_sureDays_39 : decode cX7_sureDays 39 = .ok (.iinc 3 1, 3) := by decide +kernel
theorem dX7_sureDays_42 : decode cX7_sureDays 42 = .ok (.goto (-38), 3) := by decide +kernel
theorem dX7_sureDays_45 : decode cX7_sureDays 45 = .ok (.iload_n 2, 1) := by decide +kernel
theorem dX7_sureDays_46 : decode cX7_sureDays 46 = .ok (.ireturn, 1) := by decide +kernel
theorem dX7_counts_0 : decode cX7_counts 0 = .ok (.aload_n 0, 1) := by decide +kernel
theorem dX7_counts_1 : decode cX7_counts 1 = .ok (.getfield 31, 3) := by decide +kernel
theorem dX7_counts_4 : decode cX7_counts 4 = .ok (.iconst 4, 1) := by decide +kernel
theorem dX7_counts_5 : decode cX7_counts 5 = .ok (.iaload, 1) := by decide +kernel
theorem dX7_counts_6 : decode cX7_counts 6 = .ok (.iconst 1, 1) := by decide +kernel
theorem dX7_counts_7 : decode cX7_counts 7 = .ok (.isub, 1) := by decide +kernel
theorem dX7_counts_8 : decode cX7_counts 8 = .ok (.istore_n 1, 1) := by decide +kernel
theorem dX7_counts_9 : decode cX7_counts 9 = .ok (.iload_n 1, 1) := by decide +kernel
theorem dX7_counts_10 : decode cX7_counts 10 = .ok (.ifCond .lt 57, 3) := by decide +kernel
theorem dX7_counts_13 : decode cX7_counts 13 = .ok (.iconst 5, 1) := by decide +kernel
theorem dX7_counts_14 : decode cX7_counts 14 = .ok (.iconst 4, 1) := by decide +kernel
theorem dX7_counts_15 : decode cX7_counts 15 = .ok (.iload_n 1, 1) := by decide +kernel
theorem dX7_counts_16 : decode cX7_counts 16 = .ok (.imul, 1) := by decide +kernel
theorem dX7_counts_17 : decode cX7_counts 17 = .ok (.iadd, 1) := by decide +kernel
theorem dX7_counts_18 : decode cX7_counts 18 = .ok (.istore_n 2, 1) := by decide +kernel
theorem dX7_counts_19 : decode cX7_counts 19 = .ok (.aload_n 0, 1) := by decide +kernel
theorem dX7_counts_20 : decode cX7_counts 20 = .ok (.getfield 31, 3) := by decide +kernel
theorem dX7_counts_23 : decode cX7_counts 23 = .ok (.iload_n 2, 1) := by decide +kernel
theorem dX7_counts_24 : decode cX7_counts 24 = .ok (.iconst 3, 1) := by decide +kernel
theorem dX7_counts_25 : decode cX7_counts 25 = .ok (.iadd, 1) := by decide +kernel
theorem dX7_counts_26 : decode cX7_counts 26 = .ok (.dup2, 1) := by decide +kernel
theorem dX7_counts_27 : decode cX7_counts 27 = .ok (.iaload, 1) := by decide +kernel
theorem dX7_counts_28 : decode cX7_counts 28 = .ok (.iconst 1, 1) := by decide +kernel
theorem dX7_counts_29 : decode cX7_counts 29 = .ok (.iadd, 1) := by decide +kernel
theorem dX7_counts_30 : decode cX7_counts 30 = .ok (.iastore, 1) := by decide +kernel
theorem dX7_counts_31 : decode cX7_counts 31 = .ok (.aload_n 0, 1) := by decide +kernel
theorem dX7_counts_32 : decode cX7_counts 32 = .ok (.getfield 31, 3) := by decide +kernel
theorem dX7_counts_35 : decode cX7_counts 35 = .ok (.iload_n 2, 1) := by decide +kernel
theorem dX7_counts_36 : decode cX7_counts 36 = .ok (.iconst 3, 1) := by decide +kernel
theorem dX7_counts_37 : decode cX7_counts 37 = .ok (.iadd, 1) := by decide +kernel
theorem dX7_counts_38 : decode cX7_counts 38 = .ok (.iaload, 1) := by decide +kernel
theorem dX7_counts_39 : decode cX7_counts 39 = .ok (.aload_n 0, 1) := by decide +kernel
theorem dX7_counts_40 : decode cX7_counts 40 = .ok (.getfield 31, 3) := by decide +kernel
theorem dX7_counts_43 : decode cX7_counts 43 = .ok (.iload_n 2, 1) := by decide +kernel
theorem dX7_counts_44 : decode cX7_counts 44 = .ok (.iconst 2, 1) := by decide +kernel
theorem dX7_counts_45 : decode cX7_counts 45 = .ok (.iadd, 1) := by decide +kernel
theorem dX7_counts_46 : decode cX7_counts 46 = .ok (.iaload, 1) := by decide +kernel
theorem dX7_counts_47 : decode cX7_counts 47 = .ok (.if_icmp .ge 5, 3) := by decide +kernel
theorem dX7_counts_50 : decode cX7_counts 50 = .ok (.iconst 1, 1) := by decide +kernel
theorem dX7_counts_51 : decode cX7_counts 51 = .ok (.ireturn, 1) := by decide +kernel
theorem dX7_counts_52 : decode cX7_counts 52 = .ok (.aload_n 0, 1) := by decide +kernel
theorem dX7_counts_53 : decode cX7_counts 53 = .ok (.getfield 31, 3) := by decide +kernel
theorem dX7_counts_56 : decode cX7_counts 56 = .ok (.iload_n 2, 1) := by decide +kernel
theorem dX7_counts_57 : decode cX7_counts 57 = .ok (.iconst 3, 1) := by decide +kernel
theorem dX7_counts_58 : decode cX7_counts 58 = .ok (.iadd, 1) := by decide +kernel
theorem dX7_counts_59 : decode cX7_counts 59 = .ok (.iconst 0, 1) := by decide +kernel
theorem dX7_counts_60 : decode cX7_counts 60 = .ok (.iastore, 1) := by decide +kernel
theorem dX7_counts_61 : decode cX7_counts 61 = .ok (.iinc 1 (-1), 3) := by decide +kernel
theorem dX7_counts_64 : decode cX7_counts 64 = .ok (.goto (-55), 3) := by decide +kernel
theorem dX7_counts_67 : decode cX7_counts 67 = .ok (.iconst 0, 1) := by decide +kernel
theorem dX7_counts_68 : decode cX7_counts 68 = .ok (.ireturn, 1) := by decide +kernel
set_option maxRecDepth 20000 in
theorem ggX7_rota_X7_isCity : GoodIn wsX7_rota wsX7_isCity := goodIn_r _ [11, 3, 54, 55, 56, 57, 58, 59, 60, 61, 62, 63, 64, 65, 66, 67, 68, 69, 70, 71, 72, 73, 74, 75, 76] (by decide +kernel) (by decide +kernel)
set_option maxRecDepth 20000 in
theorem gX7_rota_X7_isCity : GoodIn wsX7_rota (wsV RX7 160 RX7 yX7_isCity wsX7_isCity) := goodIn_app (goodIn_of _ (by decide +kernel)) ggX7_rota_X7_isCity
set_option maxRecDepth 20000 in
theorem ggX7_rota_X7_in : GoodIn wsX7_rota wsX7_in := goodIn_r _ [14] (by decide +kernel) (by decide +kernel)
set_option maxRecDepth 20000 in
theorem gX7_rota_X7_in : GoodIn wsX7_rota (va_wsS RX7 56 yX7_in wsX7_in) := goodIn_app (goodIn_of _ (by decide +kernel)) ggX7_rota_X7_in
set_option maxRecDepth 20000 in
theorem ggX7_rota_X7_copies : GoodIn wsX7_rota wsX7_copies := goodIn_r _ [17] (by decide +kernel) (by decide +kernel)
set_option maxRecDepth 20000 in
theorem gX7_rota_X7_copies : GoodIn wsX7_rota (va_wsS RX7 131 yX7_copies wsX7_copies) := goodIn_app (goodIn_of _ (by decide +kernel)) ggX7_rota_X7_copies
set_option maxRecDepth 20000 in
theorem ggX7_rota_X7_sureDays : GoodIn wsX7_rota wsX7_sureDays := goodIn_r _ [21, 4, 22, 23, 10, 24, 25, 26, 27, 28, 29, 30, 31, 32, 33, 34, 35, 36, 37, 38, 39, 40, 41, 42, 43, 44, 45, 54, 55, 56, 57, 58, 59, 60, 61, 62, 63, 64, 65, 66, 67, 68, 69, 70, 71, 72, 73, 74, 75, 76] (by decide +kernel) (by decide +kernel)
set_option maxRecDepth 20000 in
theorem gX7_rota_X7_sureDays : GoodIn wsX7_rota (wsV RX7 185 RX7 yX7_sureDays wsX7_sureDays) := goodIn_app (goodIn_of _ (by decide +kernel)) ggX7_rota_X7_sureDays
set_option maxRecDepth 20000 in
theorem ggX7_rota_X7_counts : GoodIn wsX7_rota wsX7_counts := goodIn_r _ [49, 4, 54, 55, 56, 57, 58, 59, 60, 61, 62, 63, 64, 65, 66, 67, 68, 69, 70, 71, 72, 73, 74, 75, 76] (by decide +kernel) (by decide +kernel)
set_option maxRecDepth 20000 in
theorem gX7_rota_X7_counts : GoodIn wsX7_rota (wsV RX7 188 RX7 yX7_counts wsX7_counts) := goodIn_app (goodIn_of _ (by decide +kernel)) ggX7_rota_X7_counts
set_option maxRecDepth 20000 in
theorem ggX7_rota_X7_isClue : GoodIn wsX7_rota wsX7_isClue := goodIn_r _ [53, 3, 12, 13, 10, 14, 54, 55, 56, 57, 58, 59, 60, 61, 62, 63, 64, 65, 66, 67, 68, 69, 70, 71, 72, 73, 74, 75, 76] (by decide +kernel) (by decide +kernel)
set_option maxRecDepth 20000 in
theorem gX7_rota_X7_isClue : GoodIn wsX7_rota (wsV RX7 170 RX7 yX7_isClue wsX7_isClue) := goodIn_app (goodIn_of _ (by decide +kernel)) ggX7_rota_X7_isClue
theorem dX7_rota_0 : decode cX7_rota 0 = .ok (.aload_n 0, 1) := by decide +kernel
theorem dX7_rota_1 : decode cX7_rota 1 = .ok (.invokevirtual 160, 3) := by decide +kernel
theorem dX7_rota_4 : decode cX7_rota 4 = .ok (.ifCond .ne 6, 3) := by decide +kernel
theorem dX7_rota_7 : decode cX7_rota 7 = .ok (.ldc 163, 2) := by decide +kernel
theorem dX7_rota_9 : decode cX7_rota 9 = .ok (.ireturn, 1) := by decide +kernel
theorem dX7_rota_10 : decode cX7_rota 10 = .ok (.iload_n 1, 1) := by decide +kernel
theorem dX7_rota_11 : decode cX7_rota 11 = .ok (.iconst 1, 1) := by decide +kernel
theorem dX7_rota_12 : decode cX7_rota 12 = .ok (.bipush 14, 2) := by decide +kernel
theorem dX7_rota_14 : decode cX7_rota 14 = .ok (.invokestatic 56, 3) := by decide +kernel
theorem dX7_rota_17 : decode cX7_rota 17 = .ok (.ifCond .eq 12, 3) := by decide +kernel
theorem dX7_rota_20 : decode cX7_rota 20 = .ok (.iload_n 2, 1) := by decide +kernel
theorem dX7_rota_21 : decode cX7_rota 21 = .ok (.iconst (-1), 1) := by decide +kernel
theorem dX7_rota_22 : decode cX7_rota 22 = .ok (.iconst 5, 1) := by decide +kernel
theorem dX7_rota_23 : decode cX7_rota 23 = .ok (.invokestatic 56, 3) := by decide +kernel
theorem dX7_rota_26 : decode cX7_rota 26 = .ok (.ifCond .ne 6, 3) := by decide +kernel
theorem dX7_rota_29 : decode cX7_rota 29 = .ok (.ldc 64, 2) := by decide +kernel
theorem dX7_rota_31 : decode cX7_rota 31 = .ok (.ireturn, 1) := by decide +kernel
theorem dX7_rota_32 : decode cX7_rota 32 = .ok (.aload_n 0, 1) := by decide +kernel
theorem dX7_rota_33 : decode cX7_rota 33 = .ok (.getfield 25, 3) := by decide +kernel
theorem dX7_rota_36 : decode cX7_rota 36 = .ok (.iconst 0, 1) := by decide +kernel
theorem dX7_rota_37 : decode cX7_rota 37 = .ok (.aload_n 0, 1) := by decide +kernel
theorem dX7_rota_38 : decode cX7_rota 38 = .ok (.getfield 31, 3) := by decide +kernel
theorem dX7_rota_41 : decode cX7_rota 41 = .ok (.iconst 0, 1) := by decide +kernel
theorem dX7_rota_42 : decode cX7_rota 42 = .ok (.invokestatic 131, 3) := by decide +kernel
theorem dX7_rota_45 : decode cX7_rota 45 = .ok (.iconst 0, 1) := by decide +kernel
theorem dX7_rota_46 : decode cX7_rota 46 = .ok (.istore_n 3, 1) := by decide +kernel
theorem dX7_rota_47 : decode cX7_rota 47 = .ok (.iload_n 3, 1) := by decide +kernel
theorem dX7_rota_48 : decode cX7_rota 48 = .ok (.aload_n 0, 1) := by decide +kernel
theorem dX7_rota_49 : decode cX7_rota 49 = .ok (.getfield 25, 3) := by decide +kernel
theorem dX7_rota_52 : decode cX7_rota 52 = .ok (.iconst 4, 1) := by decide +kernel
theorem dX7_rota_53 : decode cX7_rota 53 = .ok (.iaload, 1) := by decide +kernel
theorem dX7_rota_54 : decode cX7_rota 54 = .ok (.if_icmp .ge 22, 3) := by decide +kernel
theorem dX7_rota_57 : decode cX7_rota 57 = .ok (.aload_n 0, 1) := by decide +kernel
theorem dX7_rota_58 : decode cX7_rota 58 = .ok (.getfield 31, 3) := by decide +kernel
theorem dX7_rota_61 : decode cX7_rota 61 = .ok (.iconst 5, 1) := by decide +kernel
theorem dX7_rota_62 : decode cX7_rota 62 = .ok (.iconst 4, 1) := by decide +kernel
theorem dX7_rota_63 : decode cX7_rota 63 = .ok (.iload_n 3, 1) := by decide +kernel
theorem dX7_rota_64 : decode cX7_rota 64 = .ok (.imul, 1) := by decide +kernel
theorem dX7_rota_65 : decode cX7_rota 65 = .ok (.iadd, 1) := by decide +kernel
theorem dX7_rota_66 : decode cX7_rota 66 = .ok (.iconst 3, 1) := by decide +kernel
theorem dX7_rota_67 : decode cX7_rota 67 = .ok (.iadd, 1) := by decide +kernel
theorem dX7_rota_68 : decode cX7_rota 68 = .ok (.iconst 0, 1) := by decide +kernel
theorem dX7_rota_69 : decode cX7_rota 69 = .ok (.iastore, 1) := by decide +kernel
theorem dX7_rota_70 : decode cX7_rota 70 = .ok (.iinc 3 1, 3) := by decide +kernel
theorem dX7_rota_73 : decode cX7_rota 73 = .ok (.goto (-26), 3) := by decide +kernel
theorem dX7_rota_76 : decode cX7_rota 76 = .ok (.ldc 50, 2) := by decide +kernel
theorem dX7_rota_78 : decode cX7_rota 78 = .ok (.istore_n 3, 1) := by decide +kernel
theorem dX7_rota_79 : decode cX7_rota 79 = .ok (.iconst 1, 1) := by decide +kernel
theorem dX7_rota_80 : decode cX7_rota 80 = .ok (.istore 4, 2) := by decide +kernel
theorem dX7_rota_82 : decode cX7_rota 82 = .ok (.iload 4, 2) := by decide +kernel
theorem dX7_rota_84 : decode cX7_rota 84 = .ok (.ifCond .eq 78, 3) := by decide +kernel
theorem dX7_rota_87 : decode cX7_rota 87 = .ok (.aload_n 0, 1) := by decide +kernel
theorem dX7_rota_88 : decode cX7_rota 88 = .ok (.iload_n 1, 1) := by decide +kernel
theorem dX7_rota_89 : decode cX7_rota 89 = .ok (.invokevirtual 185, 3) := by decide +kernel
theorem dX7_rota_92 : decode cX7_rota 92 = .ok (.istore 5, 2) := by decide +kernel
theorem dX7_rota_94 : decode cX7_rota 94 = .ok (.iconst 0, 1) := by decide +kernel
theorem dX7_rota_95 : decode cX7_rota 95 = .ok (.istore 6, 2) := by decide +kernel
theorem dX7_rota_97 : decode cX7_rota 97 = .ok (.iload 6, 2) := by decide +kernel
theorem dX7_rota_99 : decode cX7_rota 99 = .ok (.aload_n 0, 1) := by decide +kernel
theorem dX7_rota_100 : decode cX7_rota 100 = .ok (.getfield 25, 3) := by decide +kernel
theorem dX7_rota_103 : decode cX7_rota 103 = .ok (.iconst 4, 1) := by decide +kernel
theorem dX7_rota_104 : decode cX7_rota 104 = .ok (.iaload, 1) := by decide +kernel
theorem dX7_rota_105 : decode cX7_rota 105 = .ok (.if_icmp .ge 35, 3) := by decide +kernel
theorem dX7_rota_108 : decode cX7_rota 108 = .ok (.iload 5, 2) := by decide +kernel
theorem dX7_rota_110 : decode cX7_rota 110 = .ok (.iload_n 3, 1) := by decide +kernel
theorem dX7_rota_111 : decode cX7_rota 111 = .ok (.if_icmp .le 29, 3) := by decide +kernel
theorem dX7_rota_114 : decode cX7_rota 114 = .ok (.aload_n 0, 1) := by decide +kernel
theorem dX7_rota_115 : decode cX7_rota 115 = .ok (.getfield 44, 3) := by decide +kernel
theorem dX7_rota_118 : decode cX7_rota 118 = .ok (.iload 6, 2) := by decide +kernel
theorem dX7_rota_120 : decode cX7_rota 120 = .ok (.aload_n 0, 1) := by decide +kernel
theorem dX7_rota_121 : decode cX7_rota 121 = .ok (.getfield 31, 3) := by decide +kernel
theorem dX7_rota_124 : decode cX7_rota 124 = .ok (.iconst 5, 1) := by decide +kernel
theorem dX7_rota_125 : decode cX7_rota 125 = .ok (.iconst 4, 1) := by decide +kernel
theorem dX7_rota_126 : decode cX7_rota 126 = .ok (.iload 6, 2) := by decide +kernel
theorem dX7_rota_128 : decode cX7_rota 128 = .ok (.imul, 1) := by decide +kernel
theorem dX7_rota_129 : decode cX7_rota 129 = .ok (.iadd, 1) := by decide +kernel
theorem dX7_rota_130 : decode cX7_rota 130 = .ok (.iconst 3, 1) := by decide +kernel
theorem dX7_rota_131 : decode cX7_rota 131 = .ok (.iadd, 1) := by decide +kernel
theorem dX7_rota_132 : decode cX7_rota 132 = .ok (.iaload, 1) := by decide +kernel
theorem dX7_rota_133 : decode cX7_rota 133 = .ok (.iastore, 1) := by decide +kernel
theorem dX7_rota_134 : decode cX7_rota 134 = .ok (.iinc 6 1, 3) := by decide +kernel
theorem dX7_rota_137 : decode cX7_rota 137 = .ok (.goto (-40), 3) := by decide +kernel
theorem dX7_rota_140 : decode cX7_rota 140 = .ok (.iload 5, 2) := by decide +kernel
theorem dX7_rota_142 : decode cX7_rota 142 = .ok (.iload_n 3, 1) := by decide +kernel
theorem dX7_rota_143 : decode cX7_rota 143 = .ok (.if_icmp .le 8, 3) := by decide +kernel
theorem dX7_rota_146 : decode cX7_rota 146 = .ok (.iload 5, 2) := by decide +kernel
theorem dX7_rota_148 : decode cX7_rota 148 = .ok (.goto 4, 3) := by decide +kernel
theorem dX7_rota_151 : decode cX7_rota 151 = .ok (.iload_n 3, 1) := by decide +kernel
theorem dX7_rota_152 : decode cX7_rota 152 = .ok (.istore_n 3, 1) := by decide +kernel
theorem dX7_rota_153 : decode cX7_rota 153 = .ok (.aload_n 0, 1) := by decide +kernel
theorem dX7_rota_154 : decode cX7_rota 154 = .ok (.invokevirtual 188, 3) := by decide +kernel
theorem dX7_rota_157 : decode cX7_rota 157 = .ok (.istore 4, 2) := by decide +kernel
theorem dX7_rota_159 : decode cX7_rota 159 = .ok (.goto (-77), 3) := by decide +kernel
theorem dX7_rota_162 : decode cX7_rota 162 = .ok (.iload_n 2, 1) := by decide +kernel
theorem dX7_rota_163 : decode cX7_rota 163 = .ok (.iconst (-1), 1) := by decide +kernel
theorem dX7_rota_164 : decode cX7_rota 164 = .ok (.if_icmp .ne 7, 3) := by decide +kernel
theorem dX7_rota_167 : decode cX7_rota 167 = .ok (.iload_n 3, 1) := by decide +kernel
theorem dX7_rota_168 : decode cX7_rota 168 = .ok (.goto 22, 3) := by decide +kernel
theorem dX7_rota_171 : decode cX7_rota 171 = .ok (.aload_n 0, 1) := by decide +kernel
theorem dX7_rota_172 : decode cX7_rota 172 = .ok (.iload_n 2, 1) := by decide +kernel
theorem dX7_rota_173 : decode cX7_rota 173 = .ok (.invokevirtual 170, 3) := by decide +kernel
theorem dX7_rota_176 : decode cX7_rota 176 = .ok (.ifCond .eq 12, 3) := by decide +kernel
theorem dX7_rota_179 : decode cX7_rota 179 = .ok (.aload_n 0, 1) := by decide +kernel
theorem dX7_rota_180 : decode cX7_rota 180 = .ok (.getfield 44, 3) := by decide +kernel
theorem dX7_rota_183 : decode cX7_rota 183 = .ok (.iload_n 2, 1) := by decide +kernel
theorem dX7_rota_184 : decode cX7_rota 184 = .ok (.iaload, 1) := by decide +kernel
theorem dX7_rota_185 : decode cX7_rota 185 = .ok (.goto 5, 3) := by decide +kernel
theorem dX7_rota_188 : decode cX7_rota 188 = .ok (.ldc 50, 2) := by decide +kernel
theorem dX7_rota_190 : decode cX7_rota 190 = .ok (.ireturn, 1) := by decide +kernel
set_option maxRecDepth 20000 in
theorem ggX7_when_X7_in : GoodIn wsX7_when wsX7_in := goodIn_r _ [7] (by decide +kernel) (by decide +kernel)
set_option maxRecDepth 20000 in
theorem gX7_when_X7_in : GoodIn wsX7_when (va_wsS RX7 56 yX7_in wsX7_in) := goodIn_app (goodIn_of _ (by decide +kernel)) ggX7_when_X7_in
set_option maxRecDepth 20000 in
theorem ggX7_when_X7_leftOn : GoodIn wsX7_when wsX7_leftOn := goodIn_r _ [10, 11, 12, 6, 13, 14, 15, 16, 17, 18, 19, 20, 21, 22, 23, 24, 25, 26, 27, 28] (by decide +kernel) (by decide +kernel)
set_option maxRecDepth 20000 in
theorem gX7_when_X7_leftOn : GoodIn wsX7_when (va_wsS RX7 167 yX7_leftOn wsX7_leftOn) := goodIn_app (goodIn_of _ (by decide +kernel)) ggX7_when_X7_leftOn
set_option maxRecDepth 20000 in
theorem ggX7_when_X7_has : GoodIn wsX7_when wsX7_has := goodIn_r _ [25] (by decide +kernel) (by decide +kernel)
set_option maxRecDepth 20000 in
theorem gX7_when_X7_has : GoodIn wsX7_when (va_wsS RX7 138 yX7_has wsX7_has) := goodIn_app (goodIn_of _ (by decide +kernel)) ggX7_when_X7_has
set_option maxRecDepth 20000 in
theorem ggX7_when_X7_ones : GoodIn wsX7_when wsX7_ones := goodIn_r _ [31] (by decide +kernel) (by decide +kernel)
set_option maxRecDepth 20000 in
theorem gX7_when_X7_ones : GoodIn wsX7_when (va_wsS RX7 182 yX7_ones wsX7_ones) := goodIn_app (goodIn_of _ (by decide +kernel)) ggX7_when_X7_ones
theorem dX7_when_0 : decode cX7_when 0 = .ok (.iload_n 1, 1) := by decide +kernel
theorem dX7_when_1 : decode cX7_when 1 = .ok (.iconst 0, 1) := by decide +kernel
theorem dX7_when_2 : decode cX7_when 2 = .ok (.aload_n 0, 1) := by decide +kernel
theorem dX7_when_3 : decode cX7_when 3 = .ok (.getfield 25, 3) := by decide +kernel
theorem dX7_when_6 : decode cX7_when 6 = .ok (.iconst 0, 1) := by decide +kernel
theorem dX7_when_7 : decode cX7_when 7 = .ok (.iaload, 1) := by decide +kernel
theorem dX7_when_8 : decode cX7_when 8 = .ok (.iconst 1, 1) := by decide +kernel
theorem dX7_when_9 : decode cX7_when 9 = .ok (.isub, 1) := by decide +kernel
theorem dX7_when_10 : decode cX7_when 10 = .ok (.invokestatic 56, 3) := by decide +kernel
theorem dX7_when_13 : decode cX7_when 13 = .ok (.ifCond .eq 13, 3) := by decide +kernel
theorem dX7_when_16 : decode cX7_when 16 = .ok (.iload_n 2, 1) := by decide +kernel
theorem dX7_when_17 : decode cX7_when 17 = .ok (.iconst 1, 1) := by decide +kernel
theorem dX7_when_18 : decode cX7_when 18 = .ok (.bipush 60, 2) := by decide +kernel
theorem dX7_when_20 : decode cX7_when 20 = .ok (.invokestatic 56, 3) := by decide +kernel
theorem dX7_when_23 : decode cX7_when 23 = .ok (.ifCond .ne 6, 3) := by decide +kernel
theorem dX7_when_26 : decode cX7_when 26 = .ok (.ldc 64, 2) := by decide +kernel
theorem dX7_when_28 : decode cX7_when 28 = .ok (.ireturn, 1) := by decide +kernel
theorem dX7_when_29 : decode cX7_when 29 = .ok (.ldc 50, 2) := by decide +kernel
theorem dX7_when_31 : decode cX7_when 31 = .ok (.istore_n 3, 1) := by decide +kernel
theorem dX7_when_32 : decode cX7_when 32 = .ok (.iconst 1, 1) := by decide +kernel
theorem dX7_when_33 : decode cX7_when 33 = .ok (.istore 4, 2) := by decide +kernel
theorem dX7_when_35 : decode cX7_when 35 = .ok (.iconst 0, 1) := by decide +kernel
theorem dX7_when_36 : decode cX7_when 36 = .ok (.istore 5, 2) := by decide +kernel
theorem dX7_when_38 : decode cX7_when 38 = .ok (.iload 5, 2) := by decide +kernel
theorem dX7_when_40 : decode cX7_when 40 = .ok (.iload_n 2, 1) := by decide +kernel
theorem dX7_when_41 : decode cX7_when 41 = .ok (.if_icmp .ge 82, 3) := by decide +kernel
theorem dX7_when_44 : decode cX7_when 44 = .ok (.aload_n 0, 1) := by decide +kernel
theorem dX7_when_45 : decode cX7_when 45 = .ok (.getfield 25, 3) := by decide +kernel
theorem dX7_when_48 : decode cX7_when 48 = .ok (.aload_n 0, 1) := by decide +kernel
theorem dX7_when_49 : decode cX7_when 49 = .ok (.getfield 25, 3) := by decide +kernel
theorem dX7_when_52 : decode cX7_when 52 = .ok (.iconst 2, 1) := by decide +kernel
theorem dX7_when_53 : decode cX7_when 53 = .ok (.iaload, 1) := by decide +kernel
theorem dX7_when_54 : decode cX7_when 54 = .ok (.iload 5, 2) := by decide +kernel
theorem dX7_when_56 : decode cX7_when 56 = .ok (.iadd, 1) := by decide +kernel
theorem dX7_when_57 : decode cX7_when 57 = .ok (.invokestatic 167, 3) := by decide +kernel
theorem dX7_when_60 : decode cX7_when 60 = .ok (.istore 6, 2) := by decide +kernel
theorem dX7_when_62 : decode cX7_when 62 = .ok (.iload 6, 2) := by decide +kernel
theorem dX7_when_64 : decode cX7_when 64 = .ok (.iload_n 1, 1) := by decide +kernel
theorem dX7_when_65 : decode cX7_when 65 = .ok (.invokestatic 138, 3) := by decide +kernel
theorem dX7_when_68 : decode cX7_when 68 = .ok (.ifCond .eq 17, 3) := by decide +kernel
theorem dX7_when_71 : decode cX7_when 71 = .ok (.iload 6, 2) := by decide +kernel
theorem dX7_when_73 : decode cX7_when 73 = .ok (.invokestatic 182, 3) := by decide +kernel
theorem dX7_when_76 : decode cX7_when 76 = .ok (.iload 4, 2) := by decide +kernel
theorem dX7_when_78 : decode cX7_when 78 = .ok (.if_icmp .le 7, 3) := by decide +kernel
theorem dX7_when_81 : decode cX7_when 81 = .ok (.iconst 1, 1) := by decide +kernel
theorem dX7_when_82 : decode cX7_when 82 = .ok (.goto 4, 3) := by decide +kernel
theorem dX7_when_85 : decode cX7_when 85 = .ok (.iconst 0, 1) := by decide +kernel
theorem dX7_when_86 : decode cX7_when 86 = .ok (.istore 7, 2) := by decide +kernel
theorem dX7_when_88 : decode cX7_when 88 = .ok (.iload 7, 2) := by decide +kernel
theorem dX7_when_90 : decode cX7_when 90 = .ok (.ifCond .eq 8, 3) := by decide +kernel
theorem dX7_when_93 : decode cX7_when 93 = .ok (.iload 5, 2) := by decide +kernel
theorem dX7_when_95 : decode cX7_when 95 = .ok (.goto 4, 3) := by decide +kernel
theorem dX7_when_98 : decode cX7_when 98 = .ok (.iload_n 3, 1) := by decide +kernel
theorem dX7_when_99 : decode cX7_when 99 = .ok (.istore_n 3, 1) := by decide +kernel
theorem dX7_when_100 : decode cX7_when 100 = .ok (.iload 7, 2) := by decide +kernel
theorem dX7_when_102 : decode cX7_when 102 = .ok (.ifCond .eq 11, 3) := by decide +kernel
theorem dX7_when_105 : decode cX7_when 105 = .ok (.iload 6, 2) := by decide +kernel
theorem dX7_when_107 : decode cX7_when 107 = .ok (.invokestatic 182, 3) := by decide +kernel
theorem dX7_when_110 : decode cX7_when 110 = .ok (.goto 5, 3) := by decide +kernel
theorem dX7_when_113 : decode cX7_when 113 = .ok (.iload 4, 2) := by decide +kernel
theorem dX7_when_115 : decode cX7_when 115 = .ok (.istore 4, 2) := by decide +kernel
theorem dX7_when_117 : decode cX7_when 117 = .ok (.iinc 5 1, 3) := by decide +kernel
theorem dX7_when_120 : decode cX7_when 120 = .ok (.goto (-82), 3) := by decide +kernel
theorem dX7_when_123 : decode cX7_when 123 = .ok (.iload_n 3, 1) := by decide +kernel
theorem dX7_when_124 : decode cX7_when 124 = .ok (.ireturn, 1) := by decide +kernel
set_option maxRecDepth 20000 in
theorem ggX7_fewest_X7_leftBy : GoodIn wsX7_fewest wsX7_leftBy := goodIn_r _ [6, 7, 8, 5, 9, 10, 11, 12, 13, 14, 15] (by decide +kernel) (by decide +kernel)
set_option maxRecDepth 20000 in
theorem gX7_fewest_X7_leftBy : GoodIn wsX7_fewest (va_wsS RX7 157 yX7_leftBy wsX7_leftBy) := goodIn_app (goodIn_of _ (by decide +kernel)) ggX7_fewest_X7_leftBy
set_option maxRecDepth 20000 in
theorem ggX7_fewest_X7_ones : GoodIn wsX7_fewest wsX7_ones := goodIn_r _ [18] (by decide +kernel) (by decide +kernel)
set_option maxRecDepth 20000 in
theorem gX7_fewest_X7_ones : GoodIn wsX7_fewest (va_wsS RX7 182 yX7_ones wsX7_ones) := goodIn_app (goodIn_of _ (by decide +kernel)) ggX7_fewest_X7_ones
theorem dX7_fewest_0 : decode cX7_fewest 0 = .ok (.ldc 50, 2) := by decide +kernel
theorem dX7_fewest_2 : decode cX7_fewest 2 = .ok (.istore_n 3, 1) := by decide +kernel
theorem dX7_fewest_3 : decode cX7_fewest 3 = .ok (.iconst 0, 1) := by decide +kernel
theorem dX7_fewest_4 : decode cX7_fewest 4 = .ok (.istore 4, 2) := by decide +kernel
theorem dX7_fewest_6 : decode cX7_fewest 6 = .ok (.iload 4, 2) := by decide +kernel
theorem dX7_fewest_8 : decode cX7_fewest 8 = .ok (.iload_n 1, 1) := by decide +kernel
theorem dX7_fewest_9 : decode cX7_fewest 9 = .ok (.if_icmp .gt 68, 3) := by decide +kernel
theorem dX7_fewest_12 : decode cX7_fewest 12 = .ok (.iload 4, 2) := by decide +kernel
theorem dX7_fewest_14 : decode cX7_fewest 14 = .ok (.iload_n 1, 1) := by decide +kernel
theorem dX7_fewest_15 : decode cX7_fewest 15 = .ok (.iconst (-1), 1) := by decide +kernel
theorem dX7_fewest_16 : decode cX7_fewest 16 = .ok (.ixor, 1) := by decide +kernel
theorem dX7_fewest_17 : decode cX7_fewest 17 = .ok (.iand, 1) := by decide +kernel
theorem dX7_fewest_18 : decode cX7_fewest 18 = .ok (.ifCond .ne 20, 3) := by decide +kernel
theorem dX7_fewest_21 : decode cX7_fewest 21 = .ok (.aload_n 0, 1) := by decide +kernel
theorem dX7_fewest_22 : decode cX7_fewest 22 = .ok (.getfield 25, 3) := by decide +kernel
theorem dX7_fewest_25 : decode cX7_fewest 25 = .ok (.iload 4, 2) := by decide +kernel
theorem dX7_fewest_27 : decode cX7_fewest 27 = .ok (.invokestatic 157, 3) := by decide +kernel
theorem dX7_fewest_30 : decode cX7_fewest 30 = .ok (.iload_n 2, 1) := by decide +kernel
theorem dX7_fewest_31 : decode cX7_fewest 31 = .ok (.if_icmp .ne 7, 3) := by decide +kernel
theorem dX7_fewest_34 : decode cX7_fewest 34 = .ok (.iconst 1, 1) := by decide +kernel
theorem dX7_fewest_35 : decode cX7_fewest 35 = .ok (.goto 4, 3) := by decide +kernel
theorem dX7_fewest_38 : decode cX7_fewest 38 = .ok (.iconst 0, 1) := by decide +kernel
theorem dX7_fewest_39 : decode cX7_fewest 39 = .ok (.istore 5, 2) := by decide +kernel
theorem dX7_fewest_41 : decode cX7_fewest 41 = .ok (.iload 5, 2) := by decide +kernel
theorem dX7_fewest_43 : decode cX7_fewest 43 = .ok (.ifCond .eq 26, 3) := by decide +kernel
theorem dX7_fewest_46 : decode cX7_fewest 46 = .ok (.iload_n 3, 1) := by decide +kernel
theorem dX7_fewest_47 : decode cX7_fewest 47 = .ok (.ldc 50, 2) := by decide +kernel
theorem dX7_fewest_49 : decode cX7_fewest 49 = .ok (.if_icmp .eq 15, 3) := by decide +kernel
theorem dX7_fewest_52 : decode cX7_fewest 52 = .ok (.iload 4, 2) := by decide +kernel
theorem dX7_fewest_54 : decode cX7_fewest 54 = .ok (.invokestatic 182, 3) := by decide +kernel
theorem dX7_fewest_57 : decode cX7_fewest 57 = .ok (.iload_n 3, 1) := by decide +kernel
theorem dX7_fewest_58 : decode cX7_fewest 58 = .ok (.invokestatic 182, 3) := by decide +kernel
theorem dX7_fewest_61 : decode cX7_fewest 61 = .ok (.if_icmp .ge 8, 3) := by decide +kernel
theorem dX7_fewest_64 : decode cX7_fewest 64 = .ok (.iload 4, 2) := by decide +kernel
theorem dX7_fewest_66 : decode cX7_fewest 66 = .ok (.goto 4, 3) := by decide +kernel
theorem dX7_fewest_69 : decode cX7_fewest 69 = .ok (.iload_n 3, 1) := by decide +kernel
theorem dX7_fewest_70 : decode cX7_fewest 70 = .ok (.istore_n 3, 1) := by decide +kernel
theorem dX7_fewest_71 : decode cX7_fewest 71 = .ok (.iinc 4 1, 3) := by decide +kernel
theorem dX7_fewest_74 : decode cX7_fewest 74 = .ok (.goto (-68), 3) := by decide +kernel
theorem dX7_fewest_77 : decode cX7_fewest 77 = .ok (.iload_n 3, 1) := by decide +kernel
theorem dX7_fewest_78 : decode cX7_fewest 78 = .ok (.ireturn, 1) := by decide +kernel
set_option maxRecDepth 20000 in
theorem ggX7_enough_X7_isCity : GoodIn wsX7_enough wsX7_isCity := goodIn_r _ [8, 3, 44, 45, 46, 47, 48, 49, 50, 51, 52, 53, 54, 55, 56, 57, 58, 59, 60, 61, 62, 63, 64, 65, 66] (by decide +kernel) (by decide +kernel)
set_option maxRecDepth 20000 in
theorem gX7_enough_X7_isCity : GoodIn wsX7_enough (wsV RX7 160 RX7 yX7_isCity wsX7_isCity) := goodIn_app (goodIn_of _ (by decide +kernel)) ggX7_enough_X7_isCity
set_option maxRecDepth 20000 in
theorem ggX7_enough_X7_isFar : GoodIn wsX7_enough wsX7_isFar := goodIn_r _ [11, 12, 13, 7, 14] (by decide +kernel) (by decide +kernel)
set_option maxRecDepth 20000 in
theorem gX7_enough_X7_isFar : GoodIn wsX7_enough (va_wsS RX7 176 yX7_isFar wsX7_isFar) := goodIn_app (goodIn_of _ (by decide +kernel)) ggX7_enough_X7_isFar
set_option maxRecDepth 20000 in
theorem ggX7_enough_X7_in : GoodIn wsX7_enough wsX7_in := goodIn_r _ [14] (by decide +kernel) (by decide +kernel)
set_option maxRecDepth 20000 in
theorem gX7_enough_X7_in : GoodIn wsX7_enough (va_wsS RX7 56 yX7_in wsX7_in) := goodIn_app (goodIn_of _ (by decide +kernel)) ggX7_enough_X7_in
set_option maxRecDepth 20000 in
theorem ggX7_enough_X7_workers : GoodIn wsX7_enough wsX7_workers := goodIn_r _ [17, 18, 19, 7, 20] (by decide +kernel) (by decide +kernel)
set_option maxRecDepth 20000 in
theorem gX7_enough_X7_workers : GoodIn wsX7_enough (va_wsS RX7 154 yX7_workers wsX7_workers) := goodIn_app (goodIn_of _ (by decide +kernel)) ggX7_enough_X7_workers
set_option maxRecDepth 20000 in
theorem ggX7_enough_X7_leftOn : GoodIn wsX7_enough wsX7_leftOn := goodIn_r _ [23, 15, 16, 7, 17, 18, 19, 20, 24, 25, 26, 27, 28, 29, 30, 31, 32, 33, 34, 35] (by decide +kernel) (by decide +kernel)
set_option maxRecDepth 20000 in
theorem gX7_enough_X7_leftOn : GoodIn wsX7_enough (va_wsS RX7 167 yX7_leftOn wsX7_leftOn) := goodIn_app (goodIn_of _ (by decide +kernel)) ggX7_enough_X7_leftOn
set_option maxRecDepth 20000 in
theorem ggX7_enough_X7_fewest : GoodIn wsX7_enough wsX7_fewest := goodIn_r _ [39, 40, 3, 24, 25, 7, 26, 27, 28, 29, 30, 31, 32, 33, 34, 35, 41, 42, 43, 44, 45, 46, 47, 48, 49, 50, 51, 52, 53, 54, 55, 56, 57, 58, 59, 60, 61, 62, 63, 64, 65, 66] (by decide +kernel) (by decide +kernel)
set_option maxRecDepth 20000 in
theorem gX7_enough_X7_fewest : GoodIn wsX7_enough (wsV RX7 191 RX7 yX7_fewest wsX7_fewest) := goodIn_app (goodIn_of _ (by decide +kernel)) ggX7_enough_X7_fewest
set_option maxRecDepth 20000 in
theorem ggX7_enough_X7_ones : GoodIn wsX7_enough wsX7_ones := goodIn_r _ [43] (by decide +kernel) (by decide +kernel)
set_option maxRecDepth 20000 in
theorem gX7_enough_X7_ones : GoodIn wsX7_enough (va_wsS RX7 182 yX7_ones wsX7_ones) := goodIn_app (goodIn_of _ (by decide +kernel)) ggX7_enough_X7_ones
theorem dX7_enough_0 : decode cX7_enough 0 = .ok (.aload_n 0, 1) := by decide +kernel
theorem dX7_enough_1 : decode cX7_enough 1 = .ok (.invokevirtual 160, 3) := by decide +kernel
theorem dX7_enough_4 : decode cX7_enough 4 = .ok (.ifCond .ne 6, 3) := by decide +kernel
theorem dX7_enough_7 : decode cX7_enough 7 = .ok (.ldc 163, 2) := by decide +kernel
theorem dX7_enough_9 : decode cX7_enough 9 = .ok (.ireturn, 1) := by decide +kernel
theorem dX7_enough_10 : decode cX7_enough 10 = .ok (.iload_n 1, 1) := by decide +kernel
theorem dX7_enough_11 : decode cX7_enough 11 = .ok (.invokestatic 176, 3) := by decide +kernel
theorem dX7_enough_14 : decode cX7_enough 14 = .ok (.ifCond .eq 12, 3) := by decide +kernel
theorem dX7_enough_17 : decode cX7_enough 17 = .ok (.iload_n 2, 1) := by decide +kernel
theorem dX7_enough_18 : decode cX7_enough 18 = .ok (.iconst 0, 1) := by decide +kernel
theorem dX7_enough_19 : decode cX7_enough 19 = .ok (.iconst 1, 1) := by decide +kernel
theorem dX7_enough_20 : decode cX7_enough 20 = .ok (.invokestatic 56, 3) := by decide +kernel
theorem dX7_enough_23 : decode cX7_enough 23 = .ok (.ifCond .ne 6, 3) := by decide +kernel
theorem dX7_enough_26 : decode cX7_enough 26 = .ok (.ldc 64, 2) := by decide +kernel
theorem dX7_enough_28 : decode cX7_enough 28 = .ok (.ireturn, 1) := by decide +kernel
theorem dX7_enough_29 : decode cX7_enough 29 = .ok (.aload_n 0, 1) := by decide +kernel
theorem dX7_enough_30 : decode cX7_enough 30 = .ok (.aload_n 0, 1) := by decide +kernel
theorem dX7_enough_31 : decode cX7_enough 31 = .ok (.getfield 25, 3) := by decide +kernel
theorem dX7_enough_34 : decode cX7_enough 34 = .ok (.aload_n 0, 1) := by decide +kernel
theorem dX7_enough_35 : decode cX7_enough 35 = .ok (.getfield 25, 3) := by decide +kernel
theorem dX7_enough_38 : decode cX7_enough 38 = .ok (.iconst 2, 1) := by decide +kernel
theorem dX7_enough_39 : decode cX7_enough 39 = .ok (.iaload, 1) := by decide +kernel
theorem dX7_enough_40 : decode cX7_enough 40 = .ok (.iload_n 1, 1) := by decide +kernel
theorem dX7_enough_41 : decode cX7_enough 41 = .ok (.iadd, 1) := by decide +kernel
theorem dX7_enough_42 : decode cX7_enough 42 = .ok (.invokestatic 154, 3) := by decide +kernel
theorem dX7_enough_45 : decode cX7_enough 45 = .ok (.aload_n 0, 1) := by decide +kernel
theorem dX7_enough_46 : decode cX7_enough 46 = .ok (.getfield 25, 3) := by decide +kernel
theorem dX7_enough_49 : decode cX7_enough 49 = .ok (.aload_n 0, 1) := by decide +kernel
theorem dX7_enough_50 : decode cX7_enough 50 = .ok (.getfield 25, 3) := by decide +kernel
theorem dX7_enough_53 : decode cX7_enough 53 = .ok (.iconst 2, 1) := by decide +kernel
theorem dX7_enough_54 : decode cX7_enough 54 = .ok (.iaload, 1) := by decide +kernel
theorem dX7_enough_55 : decode cX7_enough 55 = .ok (.iload_n 1, 1) := by decide +kernel
theorem dX7_enough_56 : decode cX7_enough 56 = .ok (.iadd, 1) := by decide +kernel
theorem dX7_enough_57 : decode cX7_enough 57 = .ok (.invokestatic 167, 3) := by decide +kernel
theorem dX7_enough_60 : decode cX7_enough 60 = .ok (.invokevirtual 191, 3) := by decide +kernel
theorem dX7_enough_63 : decode cX7_enough 63 = .ok (.istore_n 3, 1) := by decide +kernel
theorem dX7_enough_64 : decode cX7_enough 64 = .ok (.iload_n 2, 1) := by decide +kernel
theorem dX7_enough_65 : decode cX7_enough 65 = .ok (.iconst 1, 1) := by decide +kernel
theorem dX7_enough_66 : decode cX7_enough 66 = .ok (.if_icmp .ne 7, 3) := by decide +kernel
theorem dX7_enough_69 : decode cX7_enough 69 = .ok (.iload_n 3, 1) := by decide +kernel
theorem dX7_enough_70 : decode cX7_enough 70 = .ok (.goto 7, 3) := by decide +kernel
theorem dX7_enough_73 : decode cX7_enough 73 = .ok (.iload_n 3, 1) := by decide +kernel
theorem dX7_enough_74 : decode cX7_enough 74 = .ok (.invokestatic 182, 3) := by decide +kernel
theorem dX7_enough_77 : decode cX7_enough 77 = .ok (.ireturn, 1) := by decide +kernel
set_option maxRecDepth 20000 in
theorem ggX7_clash_X7_isCity : GoodIn wsX7_clash wsX7_isCity := goodIn_r _ [9, 3, 41, 42, 43, 44, 45, 46, 47, 48, 49, 50, 51, 52, 53, 54, 55, 56, 57, 58, 59, 60, 61, 62, 63] (by decide +kernel) (by decide +kernel)
set_option maxRecDepth 20000 in
theorem gX7_clash_X7_isCity : GoodIn wsX7_clash (wsV RX7 160 RX7 yX7_isCity wsX7_isCity) := goodIn_app (goodIn_of _ (by decide +kernel)) ggX7_clash_X7_isCity
set_option maxRecDepth 20000 in
theorem ggX7_clash_X7_isFar : GoodIn wsX7_clash wsX7_isFar := goodIn_r _ [12, 13, 14, 8, 15] (by decide +kernel) (by decide +kernel)
set_option maxRecDepth 20000 in
theorem gX7_clash_X7_isFar : GoodIn wsX7_clash (va_wsS RX7 176 yX7_isFar wsX7_isFar) := goodIn_app (goodIn_of _ (by decide +kernel)) ggX7_clash_X7_isFar
set_option maxRecDepth 20000 in
theorem ggX7_clash_X7_in : GoodIn wsX7_clash wsX7_in := goodIn_r _ [15] (by decide +kernel) (by decide +kernel)
set_option maxRecDepth 20000 in
theorem gX7_clash_X7_in : GoodIn wsX7_clash (va_wsS RX7 56 yX7_in wsX7_in) := goodIn_app (goodIn_of _ (by decide +kernel)) ggX7_clash_X7_in
set_option maxRecDepth 20000 in
theorem ggX7_clash_X7_workers : GoodIn wsX7_clash wsX7_workers := goodIn_r _ [18, 19, 20, 8, 21] (by decide +kernel) (by decide +kernel)
set_option maxRecDepth 20000 in
theorem gX7_clash_X7_workers : GoodIn wsX7_clash (va_wsS RX7 154 yX7_workers wsX7_workers) := goodIn_app (goodIn_of _ (by decide +kernel)) ggX7_clash_X7_workers
set_option maxRecDepth 20000 in
theorem ggX7_clash_X7_fewest : GoodIn wsX7_clash wsX7_fewest := goodIn_r _ [25, 4, 3, 26, 27, 8, 28, 29, 30, 31, 32, 33, 34, 35, 36, 37, 38, 39, 40, 41, 42, 43, 44, 45, 46, 47, 48, 49, 50, 51, 52, 53, 54, 55, 56, 57, 58, 59, 60, 61, 62, 63] (by decide +kernel) (by decide +kernel)
set_option maxRecDepth 20000 in
theorem gX7_clash_X7_fewest : GoodIn wsX7_clash (wsV RX7 191 RX7 yX7_fewest wsX7_fewest) := goodIn_app (goodIn_of _ (by decide +kernel)) ggX7_clash_X7_fewest
set_option maxRecDepth 20000 in
theorem ggX7_clash_X7_ones : GoodIn wsX7_clash wsX7_ones := goodIn_r _ [40] (by decide +kernel) (by decide +kernel)
set_option maxRecDepth 20000 in
theorem gX7_clash_X7_ones : GoodIn wsX7_clash (va_wsS RX7 182 yX7_ones wsX7_ones) := goodIn_app (goodIn_of _ (by decide +kernel)) ggX7_clash_X7_ones
theorem dX7_clash_0 : decode cX7_clash 0 = .ok (.aload_n 0, 1) := by decide +kernel
theorem dX7_clash_1 : decode cX7_clash 1 = .ok (.invokevirtual 160, 3) := by decide +kernel
theorem dX7_clash_4 : decode cX7_clash 4 = .ok (.ifCond .ne 6, 3) := by decide +kernel
theorem dX7_clash_7 : decode cX7_clash 7 = .ok (.ldc 163, 2) := by decide +kernel
theorem dX7_clash_9 : decode cX7_clash 9 = .ok (.ireturn, 1) := by decide +kernel
theorem dX7_clash_10 : decode cX7_clash 10 = .ok (.iload_n 1, 1) := by decide +kernel
theorem dX7_clash_11 : decode cX7_clash 11 = .ok (.invokestatic 176, 3) := by decide +kernel
theorem dX7_clash_14 : decode cX7_clash 14 = .ok (.ifCond .eq 12, 3) := by decide +kernel
theorem dX7_clash_17 : decode cX7_clash 17 = .ok (.iload_n 2, 1) := by decide +kernel
theorem dX7_clash_18 : decode cX7_clash 18 = .ok (.iconst 0, 1) := by decide +kernel
theorem dX7_clash_19 : decode cX7_clash 19 = .ok (.iconst 1, 1) := by decide +kernel
theorem dX7_clash_20 : decode cX7_clash 20 = .ok (.invokestatic 56, 3) := by decide +kernel
theorem dX7_clash_23 : decode cX7_clash 23 = .ok (.ifCond .ne 6, 3) := by decide +kernel
theorem dX7_clash_26 : decode cX7_clash 26 = .ok (.ldc 64, 2) := by decide +kernel
theorem dX7_clash_28 : decode cX7_clash 28 = .ok (.ireturn, 1) := by decide +kernel
theorem dX7_clash_29 : decode cX7_clash 29 = .ok (.aload_n 0, 1) := by decide +kernel
theorem dX7_clash_30 : decode cX7_clash 30 = .ok (.aload_n 0, 1) := by decide +kernel
theorem dX7_clash_31 : decode cX7_clash 31 = .ok (.getfield 25, 3) := by decide +kernel
theorem dX7_clash_34 : decode cX7_clash 34 = .ok (.aload_n 0, 1) := by decide +kernel
theorem dX7_clash_35 : decode cX7_clash 35 = .ok (.getfield 25, 3) := by decide +kernel
theorem dX7_clash_38 : decode cX7_clash 38 = .ok (.iconst 2, 1) := by decide +kernel
theorem dX7_clash_39 : decode cX7_clash 39 = .ok (.iaload, 1) := by decide +kernel
theorem dX7_clash_40 : decode cX7_clash 40 = .ok (.iload_n 1, 1) := by decide +kernel
theorem dX7_clash_41 : decode cX7_clash 41 = .ok (.iadd, 1) := by decide +kernel
theorem dX7_clash_42 : decode cX7_clash 42 = .ok (.invokestatic 154, 3) := by decide +kernel
theorem dX7_clash_45 : decode cX7_clash 45 = .ok (.iconst 0, 1) := by decide +kernel
theorem dX7_clash_46 : decode cX7_clash 46 = .ok (.invokevirtual 191, 3) := by decide +kernel
theorem dX7_clash_49 : decode cX7_clash 49 = .ok (.istore_n 3, 1) := by decide +kernel
theorem dX7_clash_50 : decode cX7_clash 50 = .ok (.iload_n 3, 1) := by decide +kernel
theorem dX7_clash_51 : decode cX7_clash 51 = .ok (.ldc 50, 2) := by decide +kernel
theorem dX7_clash_53 : decode cX7_clash 53 = .ok (.if_icmp .eq 8, 3) := by decide +kernel
theorem dX7_clash_56 : decode cX7_clash 56 = .ok (.iload_n 2, 1) := by decide +kernel
theorem dX7_clash_57 : decode cX7_clash 57 = .ok (.iconst 1, 1) := by decide +kernel
theorem dX7_clash_58 : decode cX7_clash 58 = .ok (.if_icmp .ne 7, 3) := by decide +kernel
theorem dX7_clash_61 : decode cX7_clash 61 = .ok (.iload_n 3, 1) := by decide +kernel
theorem dX7_clash_62 : decode cX7_clash 62 = .ok (.goto 7, 3) := by decide +kernel
theorem dX7_clash_65 : decode cX7_clash 65 = .ok (.iload_n 3, 1) := by decide +kernel
theorem dX7_clash_66 : decode cX7_clash 66 = .ok (.invokestatic 182, 3) := by decide +kernel
theorem dX7_clash_69 : decode cX7_clash 69 = .ok (.ireturn, 1) := by decide +kernel
set_option maxRecDepth 20000 in
theorem ggX7_goesSo_X7_leftOn : GoodIn wsX7_goesSo wsX7_leftOn := goodIn_r _ [6, 7, 8, 5, 9, 10, 11, 12, 13, 14, 15, 16, 17, 18, 19, 20, 21, 22, 23, 24] (by decide +kernel) (by decide +kernel)
set_option maxRecDepth 20000 in
theorem gX7_goesSo_X7_leftOn : GoodIn wsX7_goesSo (va_wsS RX7 167 yX7_leftOn wsX7_leftOn) := goodIn_app (goodIn_of _ (by decide +kernel)) ggX7_goesSo_X7_leftOn
theorem dX7_goesSo_0 : decode cX7_goesSo 0 = .ok (.iconst 1, 1) := by decide +kernel
theorem dX7_goesSo_1 : decode cX7_goesSo 1 = .ok (.istore_n 3, 1) := by decide +kernel
theorem dX7_goesSo_2 : decode cX7_goesSo 2 = .ok (.iconst 0, 1) := by decide +kernel
theorem dX7_goesSo_3 : decode cX7_goesSo 3 = .ok (.istore 4, 2) := by decide +kernel
theorem dX7_goesSo_5 : decode cX7_goesSo 5 = .ok (.iload 4, 2) := by decide +kernel
theorem dX7_goesSo_7 : decode cX7_goesSo 7 = .ok (.iload_n 2, 1) := by decide +kernel
theorem dX7_goesSo_8 : decode cX7_goesSo 8 = .ok (.if_icmp .ge 47, 3) := by decide +kernel
theorem dX7_goesSo_11 : decode cX7_goesSo 11 = .ok (.iload_n 3, 1) := by decide +kernel
theorem dX7_goesSo_12 : decode cX7_goesSo 12 = .ok (.ifCond .eq 35, 3) := by decide +kernel
theorem dX7_goesSo_15 : decode cX7_goesSo 15 = .ok (.aload_n 0, 1) := by decide +kernel
theorem dX7_goesSo_16 : decode cX7_goesSo 16 = .ok (.getfield 31, 3) := by decide +kernel
theorem dX7_goesSo_19 : decode cX7_goesSo 19 = .ok (.aload_n 0, 1) := by decide +kernel
theorem dX7_goesSo_20 : decode cX7_goesSo 20 = .ok (.getfield 31, 3) := by decide +kernel
theorem dX7_goesSo_23 : decode cX7_goesSo 23 = .ok (.iconst 2, 1) := by decide +kernel
theorem dX7_goesSo_24 : decode cX7_goesSo 24 = .ok (.iaload, 1) := by decide +kernel
theorem dX7_goesSo_25 : decode cX7_goesSo 25 = .ok (.iload 4, 2) := by decide +kernel
theorem dX7_goesSo_27 : decode cX7_goesSo 27 = .ok (.iadd, 1) := by decide +kernel
theorem dX7_goesSo_28 : decode cX7_goesSo 28 = .ok (.invokestatic 167, 3) := by decide +kernel
theorem dX7_goesSo_31 : decode cX7_goesSo 31 = .ok (.aload_n 0, 1) := by decide +kernel
theorem dX7_goesSo_32 : decode cX7_goesSo 32 = .ok (.getfield 16, 3) := by decide +kernel
theorem dX7_goesSo_35 : decode cX7_goesSo 35 = .ok (.iload_n 1, 1) := by decide +kernel
theorem dX7_goesSo_36 : decode cX7_goesSo 36 = .ok (.iload 4, 2) := by decide +kernel
theorem dX7_goesSo_38 : decode cX7_goesSo 38 = .ok (.iadd, 1) := by decide +kernel
theorem dX7_goesSo_39 : decode cX7_goesSo 39 = .ok (.iaload, 1) := by decide +kernel
theorem dX7_goesSo_40 : decode cX7_goesSo 40 = .ok (.if_icmp .ne 7, 3) := by decide +kernel
theorem dX7_goesSo_43 : decode cX7_goesSo 43 = .ok (.iconst 1, 1) := by decide +kernel
theorem dX7_goesSo_44 : decode cX7_goesSo 44 = .ok (.goto 4, 3) := by decide +kernel
theorem dX7_goesSo_47 : decode cX7_goesSo 47 = .ok (.iconst 0, 1) := by decide +kernel
theorem dX7_goesSo_48 : decode cX7_goesSo 48 = .ok (.istore_n 3, 1) := by decide +kernel
theorem dX7_goesSo_49 : decode cX7_goesSo 49 = .ok (.iinc 4 1, 3) := by decide +kernel
theorem dX7_goesSo_52 : decode cX7_goesSo 52 = .ok (.goto (-47), 3) := by decide +kernel
theorem dX7_goesSo_55 : decode cX7_goesSo 55 = .ok (.iload_n 3, 1) := by decide +kernel
theorem dX7_goesSo_56 : decode cX7_goesSo 56 = .ok (.ireturn, 1) := by decide +kernel
set_option maxRecDepth 20000 in
theorem ggX7_bribes_X7_isCity : GoodIn wsX7_bribes wsX7_isCity := goodIn_r _ [9, 3, 66, 67, 68, 69, 70, 71, 72, 73, 74, 75, 76, 77, 78, 79, 80, 81, 82, 83, 84, 85, 86, 87, 88] (by decide +kernel) (by decide +kernel)
set_option maxRecDepth 20000 in
theorem gX7_bribes_X7_isCity : GoodIn wsX7_bribes (wsV RX7 160 RX7 yX7_isCity wsX7_isCity) := goodIn_app (goodIn_of _ (by decide +kernel)) ggX7_bribes_X7_isCity
set_option maxRecDepth 20000 in
theorem ggX7_bribes_X7_isRow : GoodIn wsX7_bribes wsX7_isRow := goodIn_r _ [12, 13, 14, 8, 15] (by decide +kernel) (by decide +kernel)
set_option maxRecDepth 20000 in
theorem gX7_bribes_X7_isRow : GoodIn wsX7_bribes (va_wsS RX7 60 yX7_isRow wsX7_isRow) := goodIn_app (goodIn_of _ (by decide +kernel)) ggX7_bribes_X7_isRow
set_option maxRecDepth 20000 in
theorem ggX7_bribes_X7_in : GoodIn wsX7_bribes wsX7_in := goodIn_r _ [15] (by decide +kernel) (by decide +kernel)
set_option maxRecDepth 20000 in
theorem gX7_bribes_X7_in : GoodIn wsX7_bribes (va_wsS RX7 56 yX7_in wsX7_in) := goodIn_app (goodIn_of _ (by decide +kernel)) ggX7_bribes_X7_in
set_option maxRecDepth 20000 in
theorem ggX7_bribes_X7_isMissing : GoodIn wsX7_bribes wsX7_isMissing := goodIn_r _ [19, 20, 21, 66, 67, 68, 69, 70, 71, 72, 73, 74, 75, 76, 77, 78, 79, 80, 81, 82, 83, 84, 85, 86, 87, 88] (by decide +kernel) (by decide +kernel)
set_option maxRecDepth 20000 in
theorem gX7_bribes_X7_isMissing : GoodIn wsX7_bribes (wsV RX7 72 RX7 yX7_isMissing wsX7_isMissing) := goodIn_app (goodIn_of _ (by decide +kernel)) ggX7_bribes_X7_isMissing
set_option maxRecDepth 20000 in
theorem ggX7_bribes_X7_found : GoodIn wsX7_bribes wsX7_found := goodIn_r _ [25, 26, 27, 66, 67, 68, 69, 70, 71, 72, 73, 74, 75, 76, 77, 78, 79, 80, 81, 82, 83, 84, 85, 86, 87, 88] (by decide +kernel) (by decide +kernel)
set_option maxRecDepth 20000 in
theorem gX7_bribes_X7_found : GoodIn wsX7_bribes (wsV RX7 65 RX7 yX7_found wsX7_found) := goodIn_app (goodIn_of _ (by decide +kernel)) ggX7_bribes_X7_found
set_option maxRecDepth 20000 in
theorem ggX7_bribes_X7_isPart : GoodIn wsX7_bribes wsX7_isPart := goodIn_r _ [31, 32, 66, 67, 68, 69, 70, 71, 72, 73, 74, 75, 76, 77, 78, 79, 80, 81, 82, 83, 84, 85, 86, 87, 88] (by decide +kernel) (by decide +kernel)
set_option maxRecDepth 20000 in
theorem gX7_bribes_X7_isPart : GoodIn wsX7_bribes (wsV RX7 79 RX7 yX7_isPart wsX7_isPart) := goodIn_app (goodIn_of _ (by decide +kernel)) ggX7_bribes_X7_isPart
set_option maxRecDepth 20000 in
theorem ggX7_bribes_X7_copies : GoodIn wsX7_bribes wsX7_copies := goodIn_r _ [35] (by decide +kernel) (by decide +kernel)
set_option maxRecDepth 20000 in
theorem gX7_bribes_X7_copies : GoodIn wsX7_bribes (va_wsS RX7 131 yX7_copies wsX7_copies) := goodIn_app (goodIn_of _ (by decide +kernel)) ggX7_bribes_X7_copies
set_option maxRecDepth 20000 in
theorem ggX7_bribes_X7_goesSo : GoodIn wsX7_bribes wsX7_goesSo := goodIn_r _ [39, 4, 40, 41, 42, 8, 43, 44, 45, 46, 47, 48, 49, 50, 51, 52, 53, 54, 55, 56, 57, 58, 59, 60, 61, 66, 67, 68, 69, 70, 71, 72, 73, 74, 75, 76, 77, 78, 79, 80, 81, 82, 83, 84, 85, 86, 87, 88] (by decide +kernel) (by decide +kernel)
set_option maxRecDepth 20000 in
theorem gX7_bribes_X7_goesSo : GoodIn wsX7_bribes (wsV RX7 194 RX7 yX7_goesSo wsX7_goesSo) := goodIn_app (goodIn_of _ (by decide +kernel)) ggX7_bribes_X7_goesSo
set_option maxRecDepth 20000 in
theorem ggX7_bribes_X7_well : GoodIn wsX7_bribes wsX7_well := goodIn_r _ [65, 26, 66, 67, 68, 69, 70, 71, 72, 73, 74, 75, 76, 77, 78, 79, 80, 81, 82, 83, 84, 85, 86, 87, 88] (by decide +kernel) (by decide +kernel)
set_option maxRecDepth 20000 in
theorem gX7_bribes_X7_well : GoodIn wsX7_bribes (wsV RX7 69 RX7 yX7_well wsX7_well) := goodIn_app (goodIn_of _ (by decide +kernel)) ggX7_bribes_X7_well
theorem dX7_bribes_0 : decode cX7_bribes 0 = .ok (.aload_n 0, 1) := by decide +kernel
theorem dX7_bribes_1 : decode cX7_bribes 1 = .ok (.invokevirtual 160, 3) := by decide +kernel
theorem dX7_bribes_4 : decode cX7_bribes 4 = .ok (.ifCond .ne 6, 3) := by decide +kernel
theorem dX7_bribes_7 : decode cX7_bribes 7 = .ok (.ldc 163, 2) := by decide +kernel
theorem dX7_bribes_9 : decode cX7_bribes 9 = .ok (.ireturn, 1) := by decide +kernel
theorem dX7_bribes_10 : decode cX7_bribes 10 = .ok (.iload_n 1, 1) := by decide +kernel
theorem dX7_bribes_11 : decode cX7_bribes 11 = .ok (.invokestatic 60, 3) := by decide +kernel
theorem dX7_bribes_14 : decode cX7_bribes 14 = .ok (.ifCond .eq 13, 3) := by decide +kernel
theorem dX7_bribes_17 : decode cX7_bribes 17 = .ok (.iload_n 3, 1) := by decide +kernel
theorem dX7_bribes_18 : decode cX7_bribes 18 = .ok (.iconst 1, 1) := by decide +kernel
theorem dX7_bribes_19 : decode cX7_bribes 19 = .ok (.bipush 16, 2) := by decide +kernel
theorem dX7_bribes_21 : decode cX7_bribes 21 = .ok (.invokestatic 56, 3) := by decide +kernel
theorem dX7_bribes_24 : decode cX7_bribes 24 = .ok (.ifCond .ne 6, 3) := by decide +kernel
theorem dX7_bribes_27 : decode cX7_bribes 27 = .ok (.ldc 64, 2) := by decide +kernel
theorem dX7_bribes_29 : decode cX7_bribes 29 = .ok (.ireturn, 1) := by decide +kernel
theorem dX7_bribes_30 : decode cX7_bribes 30 = .ok (.aload_n 0, 1) := by decide +kernel
theorem dX7_bribes_31 : decode cX7_bribes 31 = .ok (.iload_n 1, 1) := by decide +kernel
theorem dX7_bribes_32 : decode cX7_bribes 32 = .ok (.invokevirtual 72, 3) := by decide +kernel
theorem dX7_bribes_35 : decode cX7_bribes 35 = .ok (.ifCond .eq 9, 3) := by decide +kernel
theorem dX7_bribes_38 : decode cX7_bribes 38 = .ok (.aload_n 0, 1) := by decide +kernel
theorem dX7_bribes_39 : decode cX7_bribes 39 = .ok (.iconst 1, 1) := by decide +kernel
theorem dX7_bribes_40 : decode cX7_bribes 40 = .ok (.invokevirtual 65, 3) := by decide +kernel
theorem dX7_bribes_43 : decode cX7_bribes 43 = .ok (.ireturn, 1) := by decide +kernel
theorem dX7_bribes_44 : decode cX7_bribes 44 = .ok (.aload_n 0, 1) := by decide +kernel
theorem dX7_bribes_45 : decode cX7_bribes 45 = .ok (.iload_n 1, 1) := by decide +kernel
theorem dX7_bribes_46 : decode cX7_bribes 46 = .ok (.iload_n 2, 1) := by decide +kernel
theorem dX7_bribes_47 : decode cX7_bribes 47 = .ok (.iload_n 3, 1) := by decide +kernel
theorem dX7_bribes_48 : decode cX7_bribes 48 = .ok (.invokevirtual 79, 3) := by decide +kernel
theorem dX7_bribes_51 : decode cX7_bribes 51 = .ok (.ifCond .ne 9, 3) := by decide +kernel
theorem dX7_bribes_54 : decode cX7_bribes 54 = .ok (.aload_n 0, 1) := by decide +kernel
theorem dX7_bribes_55 : decode cX7_bribes 55 = .ok (.iconst 2, 1) := by decide +kernel
theorem dX7_bribes_56 : decode cX7_bribes 56 = .ok (.invokevirtual 65, 3) := by decide +kernel
theorem dX7_bribes_59 : decode cX7_bribes 59 = .ok (.ireturn, 1) := by decide +kernel
theorem dX7_bribes_60 : decode cX7_bribes 60 = .ok (.aload_n 0, 1) := by decide +kernel
theorem dX7_bribes_61 : decode cX7_bribes 61 = .ok (.getfield 25, 3) := by decide +kernel
theorem dX7_bribes_64 : decode cX7_bribes 64 = .ok (.iconst 0, 1) := by decide +kernel
theorem dX7_bribes_65 : decode cX7_bribes 65 = .ok (.aload_n 0, 1) := by decide +kernel
theorem dX7_bribes_66 : decode cX7_bribes 66 = .ok (.getfield 31, 3) := by decide +kernel
theorem dX7_bribes_69 : decode cX7_bribes 69 = .ok (.iconst 0, 1) := by decide +kernel
theorem dX7_bribes_70 : decode cX7_bribes 70 = .ok (.invokestatic 131, 3) := by decide +kernel
theorem dX7_bribes_73 : decode cX7_bribes 73 = .ok (.aload_n 0, 1) := by decide +kernel
theorem dX7_bribes_74 : decode cX7_bribes 74 = .ok (.bipush 40, 2) := by decide +kernel
theorem dX7_bribes_76 : decode cX7_bribes 76 = .ok (.iload_n 1, 1) := by decide +kernel
theorem dX7_bribes_77 : decode cX7_bribes 77 = .ok (.imul, 1) := by decide +kernel
theorem dX7_bribes_78 : decode cX7_bribes 78 = .ok (.iload_n 2, 1) := by decide +kernel
theorem dX7_bribes_79 : decode cX7_bribes 79 = .ok (.iadd, 1) := by decide +kernel
theorem dX7_bribes_80 : decode cX7_bribes 80 = .ok (.iload_n 3, 1) := by decide +kernel
theorem dX7_bribes_81 : decode cX7_bribes 81 = .ok (.invokevirtual 194, 3) := by decide +kernel
theorem dX7_bribes_84 : decode cX7_bribes 84 = .ok (.ifCond .eq 8, 3) := by decide +kernel
theorem dX7_bribes_87 : decode cX7_bribes 87 = .ok (.bipush 64, 2) := by decide +kernel
theorem dX7_bribes_89 : decode cX7_bribes 89 = .ok (.goto 4, 3) := by decide +kernel
theorem dX7_bribes_92 : decode cX7_bribes 92 = .ok (.iconst 0, 1) := by decide +kernel
theorem dX7_bribes_93 : decode cX7_bribes 93 = .ok (.istore 4, 2) := by decide +kernel
theorem dX7_bribes_95 : decode cX7_bribes 95 = .ok (.iconst 0, 1) := by decide +kernel
theorem dX7_bribes_96 : decode cX7_bribes 96 = .ok (.istore 5, 2) := by decide +kernel
theorem dX7_bribes_98 : decode cX7_bribes 98 = .ok (.iload 5, 2) := by decide +kernel
theorem dX7_bribes_100 : decode cX7_bribes 100 = .ok (.aload_n 0, 1) := by decide +kernel
theorem dX7_bribes_101 : decode cX7_bribes 101 = .ok (.getfield 25, 3) := by decide +kernel
theorem dX7_bribes_104 : decode cX7_bribes 104 = .ok (.iconst 4, 1) := by decide +kernel
theorem dX7_bribes_105 : decode cX7_bribes 105 = .ok (.iaload, 1) := by decide +kernel
theorem dX7_bribes_106 : decode cX7_bribes 106 = .ok (.if_icmp .ge 53, 3) := by decide +kernel
theorem dX7_bribes_109 : decode cX7_bribes 109 = .ok (.aload_n 0, 1) := by decide +kernel
theorem dX7_bribes_110 : decode cX7_bribes 110 = .ok (.getfield 31, 3) := by decide +kernel
theorem dX7_bribes_113 : decode cX7_bribes 113 = .ok (.iconst 3, 1) := by decide +kernel
theorem dX7_bribes_114 : decode cX7_bribes 114 = .ok (.aload_n 0, 1) := by decide +kernel
theorem dX7_bribes_115 : decode cX7_bribes 115 = .ok (.getfield 25, 3) := by decide +kernel
theorem dX7_bribes_118 : decode cX7_bribes 118 = .ok (.iconst 3, 1) := by decide +kernel
theorem dX7_bribes_119 : decode cX7_bribes 119 = .ok (.iaload, 1) := by decide +kernel
theorem dX7_bribes_120 : decode cX7_bribes 120 = .ok (.iconst 1, 1) := by decide +kernel
theorem dX7_bribes_121 : decode cX7_bribes 121 = .ok (.iload 5, 2) := by decide +kernel
theorem dX7_bribes_123 : decode cX7_bribes 123 = .ok (.ishl, 1) := by decide +kernel
theorem dX7_bribes_124 : decode cX7_bribes 124 = .ok (.ixor, 1) := by decide +kernel
theorem dX7_bribes_125 : decode cX7_bribes 125 = .ok (.iastore, 1) := by decide +kernel
theorem dX7_bribes_126 : decode cX7_bribes 126 = .ok (.iload 4, 2) := by decide +kernel
theorem dX7_bribes_128 : decode cX7_bribes 128 = .ok (.aload_n 0, 1) := by decide +kernel
theorem dX7_bribes_129 : decode cX7_bribes 129 = .ok (.bipush 40, 2) := by decide +kernel
theorem dX7_bribes_131 : decode cX7_bribes 131 = .ok (.iload_n 1, 1) := by decide +kernel
theorem dX7_bribes_132 : decode cX7_bribes 132 = .ok (.imul, 1) := by decide +kernel
theorem dX7_bribes_133 : decode cX7_bribes 133 = .ok (.iload_n 2, 1) := by decide +kernel
theorem dX7_bribes_134 : decode cX7_bribes 134 = .ok (.iadd, 1) := by decide +kernel
theorem dX7_bribes_135 : decode cX7_bribes 135 = .ok (.iload_n 3, 1) := by decide +kernel
theorem dX7_bribes_136 : decode cX7_bribes 136 = .ok (.invokevirtual 194, 3) := by decide +kernel
theorem dX7_bribes_139 : decode cX7_bribes 139 = .ok (.ifCond .eq 10, 3) := by decide +kernel
theorem dX7_bribes_142 : decode cX7_bribes 142 = .ok (.iconst 1, 1) := by decide +kernel
theorem dX7_bribes_143 : decode cX7_bribes 143 = .ok (.iload 5, 2) := by decide +kernel
theorem dX7_bribes_145 : decode cX7_bribes 145 = .ok (.ishl, 1) := by decide +kernel
theorem dX7_bribes_146 : decode cX7_bribes 146 = .ok (.goto 4, 3) := by decide +kernel
theorem dX7_bribes_149 : decode cX7_bribes 149 = .ok (.iconst 0, 1) := by decide +kernel
theorem dX7_bribes_150 : decode cX7_bribes 150 = .ok (.ior, 1) := by decide +kernel
theorem dX7_bribes_151 : decode cX7_bribes 151 = .ok (.istore 4, 2) := by decide +kernel
theorem dX7_bribes_153 : decode cX7_bribes 153 = .ok (.iinc 5 1, 3) := by decide +kernel
theorem dX7_bribes_156 : decode cX7_bribes 156 = .ok (.goto (-58), 3) := by decide +kernel
theorem dX7_bribes_159 : decode cX7_bribes 159 = .ok (.aload_n 0, 1) := by decide +kernel
theorem dX7_bribes_160 : decode cX7_bribes 160 = .ok (.iload 4, 2) := by decide +kernel
theorem dX7_bribes_162 : decode cX7_bribes 162 = .ok (.invokevirtual 69, 3) := by decide +kernel
theorem dX7_bribes_165 : decode cX7_bribes 165 = .ok (.ireturn, 1) := by decide +kernel
set_option maxRecDepth 20000 in
theorem ggX7_fits_X7_isClue : GoodIn wsX7_fits wsX7_isClue := goodIn_r _ [8, 2, 9, 10, 7, 11, 65, 66, 67, 68, 69, 70, 71, 72, 73, 74, 75, 76, 77, 78, 79, 80, 81, 82, 83, 84, 85, 86, 87] (by decide +kernel) (by decide +kernel)
set_option maxRecDepth 20000 in
theorem gX7_fits_X7_isClue : GoodIn wsX7_fits (wsV RX7 170 RX7 yX7_isClue wsX7_isClue) := goodIn_app (goodIn_of _ (by decide +kernel)) ggX7_fits_X7_isClue
set_option maxRecDepth 20000 in
theorem ggX7_fits_X7_isRow : GoodIn wsX7_fits wsX7_isRow := goodIn_r _ [14, 9, 10, 7, 11] (by decide +kernel) (by decide +kernel)
set_option maxRecDepth 20000 in
theorem gX7_fits_X7_isRow : GoodIn wsX7_fits (va_wsS RX7 60 yX7_isRow wsX7_isRow) := goodIn_app (goodIn_of _ (by decide +kernel)) ggX7_fits_X7_isRow
set_option maxRecDepth 20000 in
theorem ggX7_fits_X7_in : GoodIn wsX7_fits wsX7_in := goodIn_r _ [11] (by decide +kernel) (by decide +kernel)
set_option maxRecDepth 20000 in
theorem gX7_fits_X7_in : GoodIn wsX7_fits (va_wsS RX7 56 yX7_in wsX7_in) := goodIn_app (goodIn_of _ (by decide +kernel)) ggX7_fits_X7_in
set_option maxRecDepth 20000 in
theorem ggX7_fits_X7_isMissing : GoodIn wsX7_fits wsX7_isMissing := goodIn_r _ [18, 19, 20, 65, 66, 67, 68, 69, 70, 71, 72, 73, 74, 75, 76, 77, 78, 79, 80, 81, 82, 83, 84, 85, 86, 87] (by decide +kernel) (by decide +kernel)
set_option maxRecDepth 20000 in
theorem gX7_fits_X7_isMissing : GoodIn wsX7_fits (wsV RX7 72 RX7 yX7_isMissing wsX7_isMissing) := goodIn_app (goodIn_of _ (by decide +kernel)) ggX7_fits_X7_isMissing
set_option maxRecDepth 20000 in
theorem ggX7_fits_X7_found : GoodIn wsX7_fits wsX7_found := goodIn_r _ [24, 25, 26, 65, 66, 67, 68, 69, 70, 71, 72, 73, 74, 75, 76, 77, 78, 79, 80, 81, 82, 83, 84, 85, 86, 87] (by decide +kernel) (by decide +kernel)
set_option maxRecDepth 20000 in
theorem gX7_fits_X7_found : GoodIn wsX7_fits (wsV RX7 65 RX7 yX7_found wsX7_found) := goodIn_app (goodIn_of _ (by decide +kernel)) ggX7_fits_X7_found
set_option maxRecDepth 20000 in
theorem ggX7_fits_X7_isPart : GoodIn wsX7_fits wsX7_isPart := goodIn_r _ [30, 31, 65, 66, 67, 68, 69, 70, 71, 72, 73, 74, 75, 76, 77, 78, 79, 80, 81, 82, 83, 84, 85, 86, 87] (by decide +kernel) (by decide +kernel)
set_option maxRecDepth 20000 in
theorem gX7_fits_X7_isPart : GoodIn wsX7_fits (wsV RX7 79 RX7 yX7_isPart wsX7_isPart) := goodIn_app (goodIn_of _ (by decide +kernel)) ggX7_fits_X7_isPart
set_option maxRecDepth 20000 in
theorem ggX7_fits_X7_copies : GoodIn wsX7_fits wsX7_copies := goodIn_r _ [34] (by decide +kernel) (by decide +kernel)
set_option maxRecDepth 20000 in
theorem gX7_fits_X7_copies : GoodIn wsX7_fits (va_wsS RX7 131 yX7_copies wsX7_copies) := goodIn_app (goodIn_of _ (by decide +kernel)) ggX7_fits_X7_copies
set_option maxRecDepth 20000 in
theorem ggX7_fits_X7_goesSo : GoodIn wsX7_fits wsX7_goesSo := goodIn_r _ [38, 3, 39, 40, 41, 7, 42, 43, 44, 45, 46, 47, 48, 49, 50, 51, 52, 53, 54, 55, 56, 57, 58, 59, 60, 65, 66, 67, 68, 69, 70, 71, 72, 73, 74, 75, 76, 77, 78, 79, 80, 81, 82, 83, 84, 85, 86, 87] (by decide +kernel) (by decide +kernel)
set_option maxRecDepth 20000 in
theorem gX7_fits_X7_goesSo : GoodIn wsX7_fits (wsV RX7 194 RX7 yX7_goesSo wsX7_goesSo) := goodIn_app (goodIn_of _ (by decide +kernel)) ggX7_fits_X7_goesSo
set_option maxRecDepth 20000 in
theorem ggX7_fits_X7_well : GoodIn wsX7_fits wsX7_well := goodIn_r _ [64, 25, 65, 66, 67, 68, 69, 70, 71, 72, 73, 74, 75, 76, 77, 78, 79, 80, 81, 82, 83, 84, 85, 86, 87] (by decide +kernel) (by decide +kernel)
set_option maxRecDepth 20000 in
theorem gX7_fits_X7_well : GoodIn wsX7_fits (wsV RX7 69 RX7 yX7_well wsX7_well) := goodIn_app (goodIn_of _ (by decide +kernel)) ggX7_fits_X7_well
theorem dX7_fits_0 : decode cX7_fits 0 = .ok (.aload_n 0, 1) := by decide +kernel
theorem dX7_fits_1 : decode cX7_fits 1 = .ok (.iload_n 1, 1) := by decide +kernel
theorem dX7_fits_2 : decode cX7_fits 2 = .ok (.invokevirtual 170, 3) := by decide +kernel
theorem dX7_fits_5 : decode cX7_fits 5 = .ok (.ifCond .eq 31, 3) := by decide +kernel
theorem dX7_fits_8 : decode cX7_fits 8 = .ok (.iload_n 2, 1) := by decide +kernel
theorem dX7_fits_9 : decode cX7_fits 9 = .ok (.invokestatic 60, 3) := by decide +kernel
theorem dX7_fits_12 : decode cX7_fits 12 = .ok (.ifCond .eq 24, 3) := by decide +kernel
theorem dX7_fits_15 : decode cX7_fits 15 = .ok (.iload 4, 2) := by decide +kernel
theorem dX7_fits_17 : decode cX7_fits 17 = .ok (.iconst 1, 1) := by decide +kernel
theorem dX7_fits_18 : decode cX7_fits 18 = .ok (.bipush 16, 2) := by decide +kernel
theorem dX7_fits_20 : decode cX7_fits 20 = .ok (.invokestatic 56, 3) := by decide +kernel
theorem dX7_fits_23 : decode cX7_fits 23 = .ok (.ifCond .eq 13, 3) := by decide +kernel
theorem dX7_fits_26 : decode cX7_fits 26 = .ok (.iload 5, 2) := by decide +kernel
theorem dX7_fits_28 : decode cX7_fits 28 = .ok (.iconst 0, 1) := by decide +kernel
theorem dX7_fits_29 : decode cX7_fits 29 = .ok (.iconst 1, 1) := by decide +kernel
theorem dX7_fits_30 : decode cX7_fits 30 = .ok (.invokestatic 56, 3) := by decide +kernel
theorem dX7_fits_33 : decode cX7_fits 33 = .ok (.ifCond .ne 6, 3) := by decide +kernel
theorem dX7_fits_36 : decode cX7_fits 36 = .ok (.ldc 64, 2) := by decide +kernel
theorem dX7_fits_38 : decode cX7_fits 38 = .ok (.ireturn, 1) := by decide +kernel
theorem dX7_fits_39 : decode cX7_fits 39 = .ok (.aload_n 0, 1) := by decide +kernel
theorem dX7_fits_40 : decode cX7_fits 40 = .ok (.iload_n 2, 1) := by decide +kernel
theorem dX7_fits_41 : decode cX7_fits 41 = .ok (.invokevirtual 72, 3) := by decide +kernel
theorem dX7_fits_44 : decode cX7_fits 44 = .ok (.ifCond .eq 9, 3) := by decide +kernel
theorem dX7_fits_47 : decode cX7_fits 47 = .ok (.aload_n 0, 1) := by decide +kernel
theorem dX7_fits_48 : decode cX7_fits 48 = .ok (.iconst 1, 1) := by decide +kernel
theorem dX7_fits_49 : decode cX7_fits 49 = .ok (.invokevirtual 65, 3) := by decide +kernel
theorem dX7_fits_52 : decode cX7_fits 52 = .ok (.ireturn, 1) := by decide +kernel
theorem dX7_fits_53 : decode cX7_fits 53 = .ok (.aload_n 0, 1) := by decide +kernel
theorem dX7_fits_54 : decode cX7_fits 54 = .ok (.iload_n 2, 1) := by decide +kernel
theorem dX7_fits_55 : decode cX7_fits 55 = .ok (.iload_n 3, 1) := by decide +kernel
theorem dX7_fits_56 : decode cX7_fits 56 = .ok (.iload 4, 2) := by decide +kernel
theorem dX7_fits_58 : decode cX7_fits 58 = .ok (.invokevirtual 79, 3) := by decide +kernel
theorem dX7_fits_61 : decode cX7_fits 61 = .ok (.ifCond .ne 9, 3) := by decide +kernel
theorem dX7_fits_64 : decode cX7_fits 64 = .ok (.aload_n 0, 1) := by decide +kernel
theorem dX7_fits_65 : decode cX7_fits 65 = .ok (.iconst 2, 1) := by decide +kernel
theorem dX7_fits_66 : decode cX7_fits 66 = .ok (.invokevirtual 65, 3) := by decide +kernel
theorem dX7_fits_69 : decode cX7_fits 69 = .ok (.ireturn, 1) := by decide +kernel
theorem dX7_fits_70 : decode cX7_fits 70 = .ok (.iconst 5, 1) := by decide +kernel
theorem dX7_fits_71 : decode cX7_fits 71 = .ok (.iconst 4, 1) := by decide +kernel
theorem dX7_fits_72 : decode cX7_fits 72 = .ok (.iload_n 1, 1) := by decide +kernel
theorem dX7_fits_73 : decode cX7_fits 73 = .ok (.imul, 1) := by decide +kernel
theorem dX7_fits_74 : decode cX7_fits 74 = .ok (.iadd, 1) := by decide +kernel
theorem dX7_fits_75 : decode cX7_fits 75 = .ok (.iload 5, 2) := by decide +kernel
theorem dX7_fits_77 : decode cX7_fits 77 = .ok (.ifCond .ne 7, 3) := by decide +kernel
theorem dX7_fits_80 : decode cX7_fits 80 = .ok (.iconst 0, 1) := by decide +kernel
theorem dX7_fits_81 : decode cX7_fits 81 = .ok (.goto 4, 3) := by decide +kernel
theorem dX7_fits_84 : decode cX7_fits 84 = .ok (.iconst 3, 1) := by decide +kernel
theorem dX7_fits_85 : decode cX7_fits 85 = .ok (.iadd, 1) := by decide +kernel
theorem dX7_fits_86 : decode cX7_fits 86 = .ok (.istore 6, 2) := by decide +kernel
theorem dX7_fits_88 : decode cX7_fits 88 = .ok (.iload 5, 2) := by decide +kernel
theorem dX7_fits_90 : decode cX7_fits 90 = .ok (.ifCond .ne 7, 3) := by decide +kernel
theorem dX7_fits_93 : decode cX7_fits 93 = .ok (.iconst 1, 1) := by decide +kernel
theorem dX7_fits_94 : decode cX7_fits 94 = .ok (.goto 4, 3) := by decide +kernel
theorem dX7_fits_97 : decode cX7_fits 97 = .ok (.iconst 0, 1) := by decide +kernel
theorem dX7_fits_98 : decode cX7_fits 98 = .ok (.istore 7, 2) := by decide +kernel
theorem dX7_fits_100 : decode cX7_fits 100 = .ok (.iload 5, 2) := by decide +kernel
theorem dX7_fits_102 : decode cX7_fits 102 = .ok (.ifCond .ne 7, 3) := by decide +kernel
theorem dX7_fits_105 : decode cX7_fits 105 = .ok (.iconst 5, 1) := by decide +kernel
theorem dX7_fits_106 : decode cX7_fits 106 = .ok (.goto 17, 3) := by decide +kernel
theorem dX7_fits_109 : decode cX7_fits 109 = .ok (.aload_n 0, 1) := by decide +kernel
theorem dX7_fits_110 : decode cX7_fits 110 = .ok (.getfield 25, 3) := by decide +kernel
theorem dX7_fits_113 : decode cX7_fits 113 = .ok (.iconst 5, 1) := by decide +kernel
theorem dX7_fits_114 : decode cX7_fits 114 = .ok (.iconst 4, 1) := by decide +kernel
theorem dX7_fits_115 : decode cX7_fits 115 = .ok (.iload_n 1, 1) := by decide +kernel
theorem dX7_fits_116 : decode cX7_fits 116 = .ok (.imul, 1) := by decide +kernel
theorem dX7_fits_117 : decode cX7_fits 117 = .ok (.iadd, 1) := by decide +kernel
theorem dX7_fits_118 : decode cX7_fits 118 = .ok (.iconst 2, 1) := by decide +kernel
theorem dX7_fits_119 : decode cX7_fits 119 = .ok (.iadd, 1) := by decide +kernel
theorem dX7_fits_120 : decode cX7_fits 120 = .ok (.iaload, 1) := by decide +kernel
theorem dX7_fits_121 : decode cX7_fits 121 = .ok (.iconst 1, 1) := by decide +kernel
theorem dX7_fits_122 : decode cX7_fits 122 = .ok (.isub, 1) := by decide +kernel
theorem dX7_fits_123 : decode cX7_fits 123 = .ok (.istore 8, 2) := by decide +kernel
theorem dX7_fits_125 : decode cX7_fits 125 = .ok (.iconst 0, 1) := by decide +kernel
theorem dX7_fits_126 : decode cX7_fits 126 = .ok (.istore 9, 2) := by decide +kernel
theorem dX7_fits_128 : decode cX7_fits 128 = .ok (.aload_n 0, 1) := by decide +kernel
theorem dX7_fits_129 : decode cX7_fits 129 = .ok (.getfield 25, 3) := by decide +kernel
theorem dX7_fits_132 : decode cX7_fits 132 = .ok (.iconst 0, 1) := by decide +kernel
theorem dX7_fits_133 : decode cX7_fits 133 = .ok (.aload_n 0, 1) := by decide +kernel
theorem dX7_fits_134 : decode cX7_fits 134 = .ok (.getfield 31, 3) := by decide +kernel
theorem dX7_fits_137 : decode cX7_fits 137 = .ok (.iconst 0, 1) := by decide +kernel
theorem dX7_fits_138 : decode cX7_fits 138 = .ok (.invokestatic 131, 3) := by decide +kernel
theorem dX7_fits_141 : decode cX7_fits 141 = .ok (.iload 7, 2) := by decide +kernel
theorem dX7_fits_143 : decode cX7_fits 143 = .ok (.istore 10, 2) := by decide +kernel
theorem dX7_fits_145 : decode cX7_fits 145 = .ok (.iload 10, 2) := by decide +kernel
theorem dX7_fits_147 : decode cX7_fits 147 = .ok (.iload 8, 2) := by decide +kernel
theorem dX7_fits_149 : decode cX7_fits 149 = .ok (.if_icmp .gt 46, 3) := by decide +kernel
theorem dX7_fits_152 : decode cX7_fits 152 = .ok (.aload_n 0, 1) := by decide +kernel
theorem dX7_fits_153 : decode cX7_fits 153 = .ok (.getfield 31, 3) := by decide +kernel
theorem dX7_fits_156 : decode cX7_fits 156 = .ok (.iload 6, 2) := by decide +kernel
theorem dX7_fits_158 : decode cX7_fits 158 = .ok (.iload 10, 2) := by decide +kernel
theorem dX7_fits_160 : decode cX7_fits 160 = .ok (.iastore, 1) := by decide +kernel
theorem dX7_fits_161 : decode cX7_fits 161 = .ok (.iload 9, 2) := by decide +kernel
theorem dX7_fits_163 : decode cX7_fits 163 = .ok (.aload_n 0, 1) := by decide +kernel
theorem dX7_fits_164 : decode cX7_fits 164 = .ok (.bipush 40, 2) := by decide +kernel
theorem dX7_fits_166 : decode cX7_fits 166 = .ok (.iload_n 2, 1) := by decide +kernel
theorem dX7_fits_167 : decode cX7_fits 167 = .ok (.imul, 1) := by decide +kernel
theorem dX7_fits_168 : decode cX7_fits 168 = .ok (.iload_n 3, 1) := by decide +kernel
theorem dX7_fits_169 : decode cX7_fits 169 = .ok (.iadd, 1) := by decide +kernel
theorem dX7_fits_170 : decode cX7_fits 170 = .ok (.iload 4, 2) := by decide +kernel
theorem dX7_fits_172 : decode cX7_fits 172 = .ok (.invokevirtual 194, 3) := by decide +kernel
theorem dX7_fits_175 : decode cX7_fits 175 = .ok (.ifCond .eq 10, 3) := by decide +kernel
theorem dX7_fits_178 : decode cX7_fits 178 = .ok (.iconst 1, 1) := by decide +kernel
theorem dX7_fits_179 : decode cX7_fits 179 = .ok (.iload 10, 2) := by decide +kernel
theorem dX7_fits_181 : decode cX7_fits 181 = .ok (.ishl, 1) := by decide +kernel
theorem dX7_fits_182 : decode cX7_fits 182 = .ok (.goto 4, 3) := by decide +kernel
theorem dX7_fits_185 : decode cX7_fits 185 = .ok (.iconst 0, 1) := by decide +kernel
theorem dX7_fits_186 : decode cX7_fits 186 = .ok (.ior, 1) := by decide +kernel
theorem dX7_fits_187 : decode cX7_fits 187 = .ok (.istore 9, 2) := by decide +kernel
theorem dX7_fits_189 : decode cX7_fits 189 = .ok (.iinc 10 1, 3) := by decide +kernel
theorem dX7_fits_192 : decode cX7_fits 192 = .ok (.goto (-47), 3) := by decide +kernel
theorem dX7_fits_195 : decode cX7_fits 195 = .ok (.aload_n 0, 1) := by decide +kernel
theorem dX7_fits_196 : decode cX7_fits 196 = .ok (.iload 9, 2) := by decide +kernel
theorem dX7_fits_198 : decode cX7_fits 198 = .ok (.invokevirtual 69, 3) := by decide +kernel
theorem dX7_fits_201 : decode cX7_fits 201 = .ok (.ireturn, 1) := by decide +kernel
set_option maxRecDepth 20000 in
theorem ggX7_strike_X7_isCity : GoodIn wsX7_strike wsX7_isCity := goodIn_r _ [8, 3, 36, 37, 38, 39, 40, 41, 42, 43, 44, 45, 46, 47, 48, 49, 50, 51, 52, 53, 54, 55, 56, 57, 58] (by decide +kernel) (by decide +kernel)
set_option maxRecDepth 20000 in
theorem gX7_strike_X7_isCity : GoodIn wsX7_strike (wsV RX7 160 RX7 yX7_isCity wsX7_isCity) := goodIn_app (goodIn_of _ (by decide +kernel)) ggX7_strike_X7_isCity
set_option maxRecDepth 20000 in
theorem ggX7_strike_X7_isFar : GoodIn wsX7_strike wsX7_isFar := goodIn_r _ [11, 12, 13, 7, 14] (by decide +kernel) (by decide +kernel)
set_option maxRecDepth 20000 in
theorem gX7_strike_X7_isFar : GoodIn wsX7_strike (va_wsS RX7 176 yX7_isFar wsX7_isFar) := goodIn_app (goodIn_of _ (by decide +kernel)) ggX7_strike_X7_isFar
set_option maxRecDepth 20000 in
theorem ggX7_strike_X7_in : GoodIn wsX7_strike wsX7_in := goodIn_r _ [14] (by decide +kernel) (by decide +kernel)
set_option maxRecDepth 20000 in
theorem gX7_strike_X7_in : GoodIn wsX7_strike (va_wsS RX7 56 yX7_in wsX7_in) := goodIn_app (goodIn_of _ (by decide +kernel)) ggX7_strike_X7_in
set_option maxRecDepth 20000 in
theorem ggX7_strike_X7_workers : GoodIn wsX7_strike wsX7_workers := goodIn_r _ [17, 18, 19, 7, 20] (by decide +kernel) (by decide +kernel)
set_option maxRecDepth 20000 in
theorem gX7_strike_X7_workers : GoodIn wsX7_strike (va_wsS RX7 154 yX7_workers wsX7_workers) := goodIn_app (goodIn_of _ (by decide +kernel)) ggX7_strike_X7_workers
set_option maxRecDepth 20000 in
theorem ggX7_strike_X7_has : GoodIn wsX7_strike wsX7_has := goodIn_r _ [23] (by decide +kernel) (by decide +kernel)
set_option maxRecDepth 20000 in
theorem gX7_strike_X7_has : GoodIn wsX7_strike (va_wsS RX7 138 yX7_has wsX7_has) := goodIn_app (goodIn_of _ (by decide +kernel)) ggX7_strike_X7_has
set_option maxRecDepth 20000 in
theorem ggX7_strike_X7_leftBy : GoodIn wsX7_strike wsX7_leftBy := goodIn_r _ [26, 27, 28, 7, 29, 21, 22, 23, 30, 31, 32] (by decide +kernel) (by decide +kernel)
set_option maxRecDepth 20000 in
theorem gX7_strike_X7_leftBy : GoodIn wsX7_strike (va_wsS RX7 157 yX7_leftBy wsX7_leftBy) := goodIn_app (goodIn_of _ (by decide +kernel)) ggX7_strike_X7_leftBy
set_option maxRecDepth 20000 in
theorem ggX7_strike_X7_ones : GoodIn wsX7_strike wsX7_ones := goodIn_r _ [35] (by decide +kernel) (by decide +kernel)
set_option maxRecDepth 20000 in
theorem gX7_strike_X7_ones : GoodIn wsX7_strike (va_wsS RX7 182 yX7_ones wsX7_ones) := goodIn_app (goodIn_of _ (by decide +kernel)) ggX7_strike_X7_ones
theorem dX7_strike_0 : decode cX7_strike 0 = .ok (.aload_n 0, 1) := by decide +kernel
theorem dX7_strike_1 : decode cX7_strike 1 = .ok (.invokevirtual 160, 3) := by decide +kernel
theorem dX7_strike_4 : decode cX7_strike 4 = .ok (.ifCond .ne 6, 3) := by decide +kernel
theorem dX7_strike_7 : decode cX7_strike 7 = .ok (.ldc 163, 2) := by decide +kernel
theorem dX7_strike_9 : decode cX7_strike 9 = .ok (.ireturn, 1) := by decide +kernel
theorem dX7_strike_10 : decode cX7_strike 10 = .ok (.iload_n 1, 1) := by decide +kernel
theorem dX7_strike_11 : decode cX7_strike 11 = .ok (.invokestatic 176, 3) := by decide +kernel
theorem dX7_strike_14 : decode cX7_strike 14 = .ok (.ifCond .eq 22, 3) := by decide +kernel
theorem dX7_strike_17 : decode cX7_strike 17 = .ok (.iload_n 2, 1) := by decide +kernel
theorem dX7_strike_18 : decode cX7_strike 18 = .ok (.iconst 0, 1) := by decide +kernel
theorem dX7_strike_19 : decode cX7_strike 19 = .ok (.bipush 10, 2) := by decide +kernel
theorem dX7_strike_21 : decode cX7_strike 21 = .ok (.invokestatic 56, 3) := by decide +kernel
theorem dX7_strike_24 : decode cX7_strike 24 = .ok (.ifCond .eq 12, 3) := by decide +kernel
theorem dX7_strike_27 : decode cX7_strike 27 = .ok (.iload_n 3, 1) := by decide +kernel
theorem dX7_strike_28 : decode cX7_strike 28 = .ok (.iconst 0, 1) := by decide +kernel
theorem dX7_strike_29 : decode cX7_strike 29 = .ok (.iconst 1, 1) := by decide +kernel
theorem dX7_strike_30 : decode cX7_strike 30 = .ok (.invokestatic 56, 3) := by decide +kernel
theorem dX7_strike_33 : decode cX7_strike 33 = .ok (.ifCond .ne 6, 3) := by decide +kernel
theorem dX7_strike_36 : decode cX7_strike 36 = .ok (.ldc 64, 2) := by decide +kernel
theorem dX7_strike_38 : decode cX7_strike 38 = .ok (.ireturn, 1) := by decide +kernel
theorem dX7_strike_39 : decode cX7_strike 39 = .ok (.aload_n 0, 1) := by decide +kernel
theorem dX7_strike_40 : decode cX7_strike 40 = .ok (.getfield 25, 3) := by decide +kernel
theorem dX7_strike_43 : decode cX7_strike 43 = .ok (.aload_n 0, 1) := by decide +kernel
theorem dX7_strike_44 : decode cX7_strike 44 = .ok (.getfield 25, 3) := by decide +kernel
theorem dX7_strike_47 : decode cX7_strike 47 = .ok (.iconst 2, 1) := by decide +kernel
theorem dX7_strike_48 : decode cX7_strike 48 = .ok (.iaload, 1) := by decide +kernel
theorem dX7_strike_49 : decode cX7_strike 49 = .ok (.iload_n 1, 1) := by decide +kernel
theorem dX7_strike_50 : decode cX7_strike 50 = .ok (.iadd, 1) := by decide +kernel
theorem dX7_strike_51 : decode cX7_strike 51 = .ok (.invokestatic 154, 3) := by decide +kernel
theorem dX7_strike_54 : decode cX7_strike 54 = .ok (.istore 4, 2) := by decide +kernel
theorem dX7_strike_56 : decode cX7_strike 56 = .ok (.iconst 0, 1) := by decide +kernel
theorem dX7_strike_57 : decode cX7_strike 57 = .ok (.istore 5, 2) := by decide +kernel
theorem dX7_strike_59 : decode cX7_strike 59 = .ok (.iconst 1, 1) := by decide +kernel
theorem dX7_strike_60 : decode cX7_strike 60 = .ok (.istore 6, 2) := by decide +kernel
theorem dX7_strike_62 : decode cX7_strike 62 = .ok (.iconst 0, 1) := by decide +kernel
theorem dX7_strike_63 : decode cX7_strike 63 = .ok (.istore 7, 2) := by decide +kernel
theorem dX7_strike_65 : decode cX7_strike 65 = .ok (.iload 7, 2) := by decide +kernel
theorem dX7_strike_67 : decode cX7_strike 67 = .ok (.aload_n 0, 1) := by decide +kernel
theorem dX7_strike_68 : decode cX7_strike 68 = .ok (.getfield 25, 3) := by decide +kernel
theorem dX7_strike_71 : decode cX7_strike 71 = .ok (.iconst 4, 1) := by decide +kernel
theorem dX7_strike_72 : decode cX7_strike 72 = .ok (.iaload, 1) := by decide +kernel
theorem dX7_strike_73 : decode cX7_strike 73 = .ok (.if_icmp .ge 30, 3) := by decide +kernel
theorem dX7_strike_76 : decode cX7_strike 76 = .ok (.iload 6, 2) := by decide +kernel
theorem dX7_strike_78 : decode cX7_strike 78 = .ok (.iload 4, 2) := by decide +kernel
theorem dX7_strike_80 : decode cX7_strike 80 = .ok (.iload 7, 2) := by decide +kernel
theorem dX7_strike_82 : decode cX7_strike 82 = .ok (.invokestatic 138, 3) := by decide +kernel
theorem dX7_strike_85 : decode cX7_strike 85 = .ok (.ifCond .eq 8, 3) := by decide +kernel
theorem dX7_strike_88 : decode cX7_strike 88 = .ok (.bipush 10, 2) := by decide +kernel
theorem dX7_strike_90 : decode cX7_strike 90 = .ok (.goto 4, 3) := by decide +kernel
theorem dX7_strike_93 : decode cX7_strike 93 = .ok (.iconst 1, 1) := by decide +kernel
theorem dX7_strike_94 : decode cX7_strike 94 = .ok (.imul, 1) := by decide +kernel
theorem dX7_strike_95 : decode cX7_strike 95 = .ok (.istore 6, 2) := by decide +kernel
theorem dX7_strike_97 : decode cX7_strike 97 = .ok (.iinc 7 1, 3) := by decide +kernel
theorem dX7_strike_100 : decode cX7_strike 100 = .ok (.goto (-35), 3) := by decide +kernel
theorem dX7_strike_103 : decode cX7_strike 103 = .ok (.iconst 0, 1) := by decide +kernel
theorem dX7_strike_104 : decode cX7_strike 104 = .ok (.istore 7, 2) := by decide +kernel
theorem dX7_strike_106 : decode cX7_strike 106 = .ok (.iload 7, 2) := by decide +kernel
theorem dX7_strike_108 : decode cX7_strike 108 = .ok (.iload 4, 2) := by decide +kernel
theorem dX7_strike_110 : decode cX7_strike 110 = .ok (.if_icmp .gt 111, 3) := by decide +kernel
theorem dX7_strike_113 : decode cX7_strike 113 = .ok (.iload 7, 2) := by decide +kernel
theorem dX7_strike_115 : decode cX7_strike 115 = .ok (.iload 4, 2) := by decide +kernel
theorem dX7_strike_117 : decode cX7_strike 117 = .ok (.iconst (-1), 1) := by decide +kernel
theorem dX7_strike_118 : decode cX7_strike 118 = .ok (.ixor, 1) := by decide +kernel
theorem dX7_strike_119 : decode cX7_strike 119 = .ok (.iand, 1) := by decide +kernel
theorem dX7_strike_120 : decode cX7_strike 120 = .ok (.ifCond .ne 28, 3) := by decide +kernel
theorem dX7_strike_123 : decode cX7_strike 123 = .ok (.aload_n 0, 1) := by decide +kernel
theorem dX7_strike_124 : decode cX7_strike 124 = .ok (.getfield 25, 3) := by decide +kernel
theorem dX7_strike_127 : decode cX7_strike 127 = .ok (.iload 4, 2) := by decide +kernel
theorem dX7_strike_129 : decode cX7_strike 129 = .ok (.iload 7, 2) := by decide +kernel
theorem dX7_strike_131 : decode cX7_strike 131 = .ok (.iconst (-1), 1) := by decide +kernel
theorem dX7_strike_132 : decode cX7_strike 132 = .ok (.ixor, 1) := by decide +kernel
theorem dX7_strike_133 : decode cX7_strike 133 = .ok (.iand, 1) := by decide +kernel
theorem dX7_strike_134 : decode cX7_strike 134 = .ok (.invokestatic 157, 3) := by decide +kernel
theorem dX7_strike_137 : decode cX7_strike 137 = .ok (.invokestatic 182, 3) := by decide +kernel
theorem dX7_strike_140 : decode cX7_strike 140 = .ok (.iconst 1, 1) := by decide +kernel
theorem dX7_strike_141 : decode cX7_strike 141 = .ok (.if_icmp .ne 7, 3) := by decide +kernel
theorem dX7_strike_144 : decode cX7_strike 144 = .ok (.iconst 1, 1) := by decide +kernel
theorem dX7_strike_145 : decode cX7_strike 145 = .ok (.goto 4, 3) := by decide +kernel
theorem dX7_strike_148 : decode cX7_strike 148 = .ok (.iconst 0, 1) := by decide +kernel
theorem dX7_strike_149 : decode cX7_strike 149 = .ok (.istore 8, 2) := by decide +kernel
theorem dX7_strike_151 : decode cX7_strike 151 = .ok (.iconst 0, 1) := by decide +kernel
theorem dX7_strike_152 : decode cX7_strike 152 = .ok (.istore 9, 2) := by decide +kernel
theorem dX7_strike_154 : decode cX7_strike 154 = .ok (.iload 9, 2) := by decide +kernel
theorem dX7_strike_156 : decode cX7_strike 156 = .ok (.aload_n 0, 1) := by decide +kernel
theorem dX7_strike_157 : decode cX7_strike 157 = .ok (.getfield 25, 3) := by decide +kernel
theorem dX7_strike_160 : decode cX7_strike 160 = .ok (.iconst 4, 1) := by decide +kernel
theorem dX7_strike_161 : decode cX7_strike 161 = .ok (.iaload, 1) := by decide +kernel
theorem dX7_strike_162 : decode cX7_strike 162 = .ok (.if_icmp .ge 46, 3) := by decide +kernel
theorem dX7_strike_165 : decode cX7_strike 165 = .ok (.iload 8, 2) := by decide +kernel
theorem dX7_strike_167 : decode cX7_strike 167 = .ok (.iload 4, 2) := by decide +kernel
theorem dX7_strike_169 : decode cX7_strike 169 = .ok (.iload 9, 2) := by decide +kernel
theorem dX7_strike_171 : decode cX7_strike 171 = .ok (.invokestatic 138, 3) := by decide +kernel
theorem dX7_strike_174 : decode cX7_strike 174 = .ok (.ifCond .ne 7, 3) := by decide +kernel
theorem dX7_strike_177 : decode cX7_strike 177 = .ok (.iconst 1, 1) := by decide +kernel
theorem dX7_strike_178 : decode cX7_strike 178 = .ok (.goto 21, 3) := by decide +kernel
theorem dX7_strike_181 : decode cX7_strike 181 = .ok (.iload 7, 2) := by decide +kernel
theorem dX7_strike_183 : decode cX7_strike 183 = .ok (.iload 9, 2) := by decide +kernel
theorem dX7_strike_185 : decode cX7_strike 185 = .ok (.invokestatic 138, 3) := by decide +kernel
theorem dX7_strike_188 : decode cX7_strike 188 = .ok (.ifCond .eq 7, 3) := by decide +kernel
theorem dX7_strike_191 : decode cX7_strike 191 = .ok (.iload_n 2, 1) := by decide +kernel
theorem dX7_strike_192 : decode cX7_strike 192 = .ok (.goto 7, 3) := by decide +kernel
theorem dX7_strike_195 : decode cX7_strike 195 = .ok (.bipush 10, 2) := by decide +kernel
theorem dX7_strike_197 : decode cX7_strike 197 = .ok (.iload_n 2, 1) := by decide +kernel
theorem dX7_strike_198 : decode cX7_strike 198 = .ok (.isub, 1) := by decide +kernel
theorem dX7_strike_199 : decode cX7_strike 199 = .ok (.imul, 1) := by decide +kernel
theorem dX7_strike_200 : decode cX7_strike 200 = .ok (.istore 8, 2) := by decide +kernel
theorem dX7_strike_202 : decode cX7_strike 202 = .ok (.iinc 9 1, 3) := by decide +kernel
theorem dX7_strike_205 : decode cX7_strike 205 = .ok (.goto (-51), 3) := by decide +kernel
theorem dX7_strike_208 : decode cX7_strike 208 = .ok (.iload 5, 2) := by decide +kernel
theorem dX7_strike_210 : decode cX7_strike 210 = .ok (.iload 8, 2) := by decide +kernel
theorem dX7_strike_212 : decode cX7_strike 212 = .ok (.iadd, 1) := by decide +kernel
theorem dX7_strike_213 : decode cX7_strike 213 = .ok (.istore 5, 2) := by decide +kernel
theorem dX7_strike_215 : decode cX7_strike 215 = .ok (.iinc 7 1, 3) := by decide +kernel
theorem dX7_strike_218 : decode cX7_strike 218 = .ok (.goto (-112), 3) := by decide +kernel
theorem dX7_strike_221 : decode cX7_strike 221 = .ok (.iload 5, 2) := by decide +kernel
theorem dX7_strike_223 : decode cX7_strike 223 = .ok (.istore 7, 2) := by decide +kernel
theorem dX7_strike_225 : decode cX7_strike 225 = .ok (.iload 6, 2) := by decide +kernel
theorem dX7_strike_227 : decode cX7_strike 227 = .ok (.istore 8, 2) := by decide +kernel
theorem dX7_strike_229 : decode cX7_strike 229 = .ok (.iload 8, 2) := by decide +kernel
theorem dX7_strike_231 : decode cX7_strike 231 = .ok (.ifCond .eq 21, 3) := by decide +kernel
theorem dX7_strike_234 : decode cX7_strike 234 = .ok (.iload 7, 2) := by decide +kernel
theorem dX7_strike_236 : decode cX7_strike 236 = .ok (.iload 8, 2) := by decide +kernel
theorem dX7_strike_238 : decode cX7_strike 238 = .ok (.irem, 1) := by decide +kernel
theorem dX7_strike_239 : decode cX7_strike 239 = .ok (.istore 9, 2) := by decide +kernel
theorem dX7_strike_241 : decode cX7_strike 241 = .ok (.iload 8, 2) := by decide +kernel
theorem dX7_strike_243 : decode cX7_strike 243 = .ok (.istore 7, 2) := by decide +kernel
theorem dX7_strike_245 : decode cX7_strike 245 = .ok (.iload 9, 2) := by decide +kernel
theorem dX7_strike_247 : decode cX7_strike 247 = .ok (.istore 8, 2) := by decide +kernel
theorem dX7_strike_249 : decode cX7_strike 249 = .ok (.goto (-20), 3) := by decide +kernel
theorem dX7_strike_252 : decode cX7_strike 252 = .ok (.iload_n 3, 1) := by decide +kernel
theorem dX7_strike_253 : decode cX7_strike 253 = .ok (.ifCond .ne 8, 3) := by decide +kernel
theorem dX7_strike_256 : decode cX7_strike 256 = .ok (.iload 5, 2) := by decide +kernel
theorem dX7_strike_258 : decode cX7_strike 258 = .ok (.goto 5, 3) := by decide +kernel
theorem dX7_strike_261 : decode cX7_strike 261 = .ok (.iload 6, 2) := by decide +kernel
theorem dX7_strike_263 : decode cX7_strike 263 = .ok (.iload 7, 2) := by decide +kernel
theorem dX7_strike_265 : decode cX7_strike 265 = .ok (.idiv, 1) := by decide +kernel
theorem dX7_strike_266 : decode cX7_strike 266 = .ok (.ireturn, 1) := by decide +kernel
set_option maxRecDepth 20000 in
theorem ggX7_drawn_X7_isCity : GoodIn wsX7_drawn wsX7_isCity := goodIn_r _ [12, 6, 40, 41, 42, 43, 44, 45, 46, 47, 48, 49, 50, 51, 52, 53, 54, 55, 56, 57, 58, 59, 60, 61, 62] (by decide +kernel) (by decide +kernel)
set_option maxRecDepth 20000 in
theorem gX7_drawn_X7_isCity : GoodIn wsX7_drawn (wsV RX7 160 RX7 yX7_isCity wsX7_isCity) := goodIn_app (goodIn_of _ (by decide +kernel)) ggX7_drawn_X7_isCity
set_option maxRecDepth 20000 in
theorem ggX7_drawn_X7_in : GoodIn wsX7_drawn wsX7_in := goodIn_r _ [15] (by decide +kernel) (by decide +kernel)
set_option maxRecDepth 20000 in
theorem gX7_drawn_X7_in : GoodIn wsX7_drawn (va_wsS RX7 56 yX7_in wsX7_in) := goodIn_app (goodIn_of _ (by decide +kernel)) ggX7_drawn_X7_in
set_option maxRecDepth 20000 in
theorem ggX7_drawn_X7_leftOn : GoodIn wsX7_drawn wsX7_leftOn := goodIn_r _ [18, 19, 20, 11, 21, 22, 23, 24, 25, 26, 27, 28, 29, 30, 31, 32, 33, 34, 35, 36] (by decide +kernel) (by decide +kernel)
set_option maxRecDepth 20000 in
theorem gX7_drawn_X7_leftOn : GoodIn wsX7_drawn (va_wsS RX7 167 yX7_leftOn wsX7_leftOn) := goodIn_app (goodIn_of _ (by decide +kernel)) ggX7_drawn_X7_leftOn
set_option maxRecDepth 20000 in
theorem ggX7_drawn_X7_only : GoodIn wsX7_drawn wsX7_only := goodIn_r _ [39, 7] (by decide +kernel) (by decide +kernel)
set_option maxRecDepth 20000 in
theorem gX7_drawn_X7_only : GoodIn wsX7_drawn (va_wsS RX7 179 yX7_only wsX7_only) := goodIn_app (goodIn_of _ (by decide +kernel)) ggX7_drawn_X7_only
theorem dX7_drawn_0 : decode cX7_drawn 0 = .ok (.aload_n 0, 1) := by decide +kernel
theorem dX7_drawn_1 : decode cX7_drawn 1 = .ok (.invokevirtual 160, 3) := by decide +kernel
theorem dX7_drawn_4 : decode cX7_drawn 4 = .ok (.ifCond .ne 6, 3) := by decide +kernel
theorem dX7_drawn_7 : decode cX7_drawn 7 = .ok (.ldc 163, 2) := by decide +kernel
theorem dX7_drawn_9 : decode cX7_drawn 9 = .ok (.ireturn, 1) := by decide +kernel
theorem dX7_drawn_10 : decode cX7_drawn 10 = .ok (.iload_n 1, 1) := by decide +kernel
theorem dX7_drawn_11 : decode cX7_drawn 11 = .ok (.iconst 0, 1) := by decide +kernel
theorem dX7_drawn_12 : decode cX7_drawn 12 = .ok (.bipush 60, 2) := by decide +kernel
theorem dX7_drawn_14 : decode cX7_drawn 14 = .ok (.invokestatic 56, 3) := by decide +kernel
theorem dX7_drawn_17 : decode cX7_drawn 17 = .ok (.ifCond .eq 22, 3) := by decide +kernel
theorem dX7_drawn_20 : decode cX7_drawn 20 = .ok (.iload_n 2, 1) := by decide +kernel
theorem dX7_drawn_21 : decode cX7_drawn 21 = .ok (.iconst 1, 1) := by decide +kernel
theorem dX7_drawn_22 : decode cX7_drawn 22 = .ok (.ldc 197, 2) := by decide +kernel
theorem dX7_drawn_24 : decode cX7_drawn 24 = .ok (.invokestatic 56, 3) := by decide +kernel
theorem dX7_drawn_27 : decode cX7_drawn 27 = .ok (.ifCond .eq 12, 3) := by decide +kernel
theorem dX7_drawn_30 : decode cX7_drawn 30 = .ok (.iload_n 3, 1) := by decide +kernel
theorem dX7_drawn_31 : decode cX7_drawn 31 = .ok (.iconst 0, 1) := by decide +kernel
theorem dX7_drawn_32 : decode cX7_drawn 32 = .ok (.iconst 1, 1) := by decide +kernel
theorem dX7_drawn_33 : decode cX7_drawn 33 = .ok (.invokestatic 56, 3) := by decide +kernel
theorem dX7_drawn_36 : decode cX7_drawn 36 = .ok (.ifCond .ne 6, 3) := by decide +kernel
theorem dX7_drawn_39 : decode cX7_drawn 39 = .ok (.ldc 64, 2) := by decide +kernel
theorem dX7_drawn_41 : decode cX7_drawn 41 = .ok (.ireturn, 1) := by decide +kernel
theorem dX7_drawn_42 : decode cX7_drawn 42 = .ok (.iload_n 2, 1) := by decide +kernel
theorem dX7_drawn_43 : decode cX7_drawn 43 = .ok (.i2l, 1) := by decide +kernel
theorem dX7_drawn_44 : decode cX7_drawn 44 = .ok (.lstore 4, 2) := by decide +kernel
theorem dX7_drawn_46 : decode cX7_drawn 46 = .ok (.iconst 0, 1) := by decide +kernel
theorem dX7_drawn_47 : decode cX7_drawn 47 = .ok (.istore 6, 2) := by decide +kernel
theorem dX7_drawn_49 : decode cX7_drawn 49 = .ok (.iconst 0, 1) := by decide +kernel
theorem dX7_drawn_50 : decode cX7_drawn 50 = .ok (.istore 7, 2) := by decide +kernel
theorem dX7_drawn_52 : decode cX7_drawn 52 = .ok (.iload 7, 2) := by decide +kernel
theorem dX7_drawn_54 : decode cX7_drawn 54 = .ok (.iload_n 1, 1) := by decide +kernel
theorem dX7_drawn_55 : decode cX7_drawn 55 = .ok (.if_icmp .ge 96, 3) := by decide +kernel
theorem dX7_drawn_58 : decode cX7_drawn 58 = .ok (.lload 4, 2) := by decide +kernel
theorem dX7_drawn_60 : decode cX7_drawn 60 = .ok (.ldc2_w 198, 3) := by decide +kernel
theorem dX7_drawn_63 : decode cX7_drawn 63 = .ok (.lmul, 1) := by decide +kernel
theorem dX7_drawn_64 : decode cX7_drawn 64 = .ok (.ldc2_w 200, 3) := by decide +kernel
theorem dX7_drawn_67 : decode cX7_drawn 67 = .ok (.lrem, 1) := by decide +kernel
theorem dX7_drawn_68 : decode cX7_drawn 68 = .ok (.lstore 4, 2) := by decide +kernel
theorem dX7_drawn_70 : decode cX7_drawn 70 = .ok (.aload_n 0, 1) := by decide +kernel
theorem dX7_drawn_71 : decode cX7_drawn 71 = .ok (.getfield 25, 3) := by decide +kernel
theorem dX7_drawn_74 : decode cX7_drawn 74 = .ok (.aload_n 0, 1) := by decide +kernel
theorem dX7_drawn_75 : decode cX7_drawn 75 = .ok (.getfield 25, 3) := by decide +kernel
theorem dX7_drawn_78 : decode cX7_drawn 78 = .ok (.iconst 2, 1) := by decide +kernel
theorem dX7_drawn_79 : decode cX7_drawn 79 = .ok (.iaload, 1) := by decide +kernel
theorem dX7_drawn_80 : decode cX7_drawn 80 = .ok (.iload 7, 2) := by decide +kernel
theorem dX7_drawn_82 : decode cX7_drawn 82 = .ok (.iadd, 1) := by decide +kernel
theorem dX7_drawn_83 : decode cX7_drawn 83 = .ok (.invokestatic 167, 3) := by decide +kernel
theorem dX7_drawn_86 : decode cX7_drawn 86 = .ok (.invokestatic 179, 3) := by decide +kernel
theorem dX7_drawn_89 : decode cX7_drawn 89 = .ok (.istore 8, 2) := by decide +kernel
theorem dX7_drawn_91 : decode cX7_drawn 91 = .ok (.iload 8, 2) := by decide +kernel
theorem dX7_drawn_93 : decode cX7_drawn 93 = .ok (.lload 4, 2) := by decide +kernel
theorem dX7_drawn_95 : decode cX7_drawn 95 = .ok (.aload_n 0, 1) := by decide +kernel
theorem dX7_drawn_96 : decode cX7_drawn 96 = .ok (.getfield 25, 3) := by decide +kernel
theorem dX7_drawn_99 : decode cX7_drawn 99 = .ok (.iconst 0, 1) := by decide +kernel
theorem dX7_drawn_100 : decode cX7_drawn 100 = .ok (.iaload, 1) := by decide +kernel
theorem dX7_drawn_101 : decode cX7_drawn 101 = .ok (.i2l, 1) := by decide +kernel
theorem dX7_drawn_102 : decode cX7_drawn 102 = .ok (.lrem, 1) := by decide +kernel
theorem dX7_drawn_103 : decode cX7_drawn 103 = .ok (.l2i, 1) := by decide +kernel
theorem dX7_drawn_104 : decode cX7_drawn 104 = .ok (.if_icmp .ne 7, 3) := by decide +kernel
theorem dX7_drawn_107 : decode cX7_drawn 107 = .ok (.iconst 1, 1) := by decide +kernel
theorem dX7_drawn_108 : decode cX7_drawn 108 = .ok (.goto 4, 3) := by decide +kernel
theorem dX7_drawn_111 : decode cX7_drawn 111 = .ok (.iconst 0, 1) := by decide +kernel
theorem dX7_drawn_112 : decode cX7_drawn 112 = .ok (.istore 9, 2) := by decide +kernel
theorem dX7_drawn_114 : decode cX7_drawn 114 = .ok (.iload 6, 2) := by decide +kernel
theorem dX7_drawn_116 : decode cX7_drawn 116 = .ok (.iload 8, 2) := by decide +kernel
theorem dX7_drawn_118 : decode cX7_drawn 118 = .ok (.ldc 50, 2) := by decide +kernel
theorem dX7_drawn_120 : decode cX7_drawn 120 = .ok (.if_icmp .eq 21, 3) := by decide +kernel
theorem dX7_drawn_123 : decode cX7_drawn 123 = .ok (.iload 9, 2) := by decide +kernel
theorem dX7_drawn_125 : decode cX7_drawn 125 = .ok (.iload_n 3, 1) := by decide +kernel
theorem dX7_drawn_126 : decode cX7_drawn 126 = .ok (.ifCond .ne 7, 3) := by decide +kernel
theorem dX7_drawn_129 : decode cX7_drawn 129 = .ok (.iconst 1, 1) := by decide +kernel
theorem dX7_drawn_130 : decode cX7_drawn 130 = .ok (.goto 4, 3) := by decide +kernel
theorem dX7_drawn_133 : decode cX7_drawn 133 = .ok (.iconst 0, 1) := by decide +kernel
theorem dX7_drawn_134 : decode cX7_drawn 134 = .ok (.if_icmp .ne 7, 3) := by decide +kernel
theorem dX7_drawn_137 : decode cX7_drawn 137 = .ok (.iconst 1, 1) := by decide +kernel
theorem dX7_drawn_138 : decode cX7_drawn 138 = .ok (.goto 4, 3) := by decide +kernel
theorem dX7_drawn_141 : decode cX7_drawn 141 = .ok (.iconst 0, 1) := by decide +kernel
theorem dX7_drawn_142 : decode cX7_drawn 142 = .ok (.iadd, 1) := by decide +kernel
theorem dX7_drawn_143 : decode cX7_drawn 143 = .ok (.istore 6, 2) := by decide +kernel
theorem dX7_drawn_145 : decode cX7_drawn 145 = .ok (.iinc 7 1, 3) := by decide +kernel
theorem dX7_drawn_148 : decode cX7_drawn 148 = .ok (.goto (-96), 3) := by decide +kernel
theorem dX7_drawn_151 : decode cX7_drawn 151 = .ok (.iload 6, 2) := by decide +kernel
theorem dX7_drawn_153 : decode cX7_drawn 153 = .ok (.ireturn, 1) := by decide +kernel
set_option maxRecDepth 20000 in
theorem ggX7_image_X7_in : GoodIn wsX7_image wsX7_in := goodIn_r _ [9] (by decide +kernel) (by decide +kernel)
set_option maxRecDepth 20000 in
theorem gX7_image_X7_in : GoodIn wsX7_image (va_wsS RX7 56 yX7_in wsX7_in) := goodIn_app (goodIn_of _ (by decide +kernel)) ggX7_image_X7_in
set_option maxRecDepth 20000 in
theorem ggX7_image_X7_isCity : GoodIn wsX7_image wsX7_isCity := goodIn_r _ [13, 3, 17, 18, 19, 20, 21, 22, 23, 24, 25, 26, 27, 28, 29, 30, 31, 32, 33, 34, 35, 36, 37, 38, 39] (by decide +kernel) (by decide +kernel)
set_option maxRecDepth 20000 in
theorem gX7_image_X7_isCity : GoodIn wsX7_image (wsV RX7 160 RX7 yX7_isCity wsX7_isCity) := goodIn_app (goodIn_of _ (by decide +kernel)) ggX7_image_X7_isCity
set_option maxRecDepth 20000 in
theorem ggX7_image_X7_copies : GoodIn wsX7_image wsX7_copies := goodIn_r _ [16] (by decide +kernel) (by decide +kernel)
set_option maxRecDepth 20000 in
theorem gX7_image_X7_copies : GoodIn wsX7_image (va_wsS RX7 131 yX7_copies wsX7_copies) := goodIn_app (goodIn_of _ (by decide +kernel)) ggX7_image_X7_copies
theorem dX7_image_0 : decode cX7_image 0 = .ok (.iload_n 1, 1) := by decide +kernel
theorem dX7_image_1 : decode cX7_image 1 = .ok (.iconst 0, 1) := by decide +kernel
theorem dX7_image_2 : decode cX7_image 2 = .ok (.iconst 1, 1) := by decide +kernel
theorem dX7_image_3 : decode cX7_image 3 = .ok (.invokestatic 56, 3) := by decide +kernel
theorem dX7_image_6 : decode cX7_image 6 = .ok (.ifCond .ne 6, 3) := by decide +kernel
theorem dX7_image_9 : decode cX7_image 9 = .ok (.ldc 64, 2) := by decide +kernel
theorem dX7_image_11 : decode cX7_image 11 = .ok (.ireturn, 1) := by decide +kernel
theorem dX7_image_12 : decode cX7_image 12 = .ok (.aload_n 0, 1) := by decide +kernel
theorem dX7_image_13 : decode cX7_image 13 = .ok (.invokevirtual 160, 3) := by decide +kernel
theorem dX7_image_16 : decode cX7_image 16 = .ok (.ifCond .ne 6, 3) := by decide +kernel
theorem dX7_image_19 : decode cX7_image 19 = .ok (.ldc 163, 2) := by decide +kernel
theorem dX7_image_21 : decode cX7_image 21 = .ok (.ireturn, 1) := by decide +kernel
theorem dX7_image_22 : decode cX7_image 22 = .ok (.aload_n 0, 1) := by decide +kernel
theorem dX7_image_23 : decode cX7_image 23 = .ok (.getfield 25, 3) := by decide +kernel
theorem dX7_image_26 : decode cX7_image 26 = .ok (.iconst 0, 1) := by decide +kernel
theorem dX7_image_27 : decode cX7_image 27 = .ok (.aload_n 0, 1) := by decide +kernel
theorem dX7_image_28 : decode cX7_image 28 = .ok (.getfield 37, 3) := by decide +kernel
theorem dX7_image_31 : decode cX7_image 31 = .ok (.bipush 29, 2) := by decide +kernel
theorem dX7_image_33 : decode cX7_image 33 = .ok (.iload_n 1, 1) := by decide +kernel
theorem dX7_image_34 : decode cX7_image 34 = .ok (.imul, 1) := by decide +kernel
theorem dX7_image_35 : decode cX7_image 35 = .ok (.invokestatic 131, 3) := by decide +kernel
theorem dX7_image_38 : decode cX7_image 38 = .ok (.aload_n 0, 1) := by decide +kernel
theorem dX7_image_39 : decode cX7_image 39 = .ok (.getfield 40, 3) := by decide +kernel
theorem dX7_image_42 : decode cX7_image 42 = .ok (.iload_n 1, 1) := by decide +kernel
theorem dX7_image_43 : decode cX7_image 43 = .ok (.iconst 1, 1) := by decide +kernel
theorem dX7_image_44 : decode cX7_image 44 = .ok (.bastore, 1) := by decide +kernel
theorem dX7_image_45 : decode cX7_image 45 = .ok (.iconst 1, 1) := by decide +kernel
theorem dX7_image_46 : decode cX7_image 46 = .ok (.ireturn, 1) := by decide +kernel
set_option maxRecDepth 20000 in
theorem ggX7_restore_X7_in : GoodIn wsX7_restore wsX7_in := goodIn_r _ [10] (by decide +kernel) (by decide +kernel)
set_option maxRecDepth 20000 in
theorem gX7_restore_X7_in : GoodIn wsX7_restore (va_wsS RX7 56 yX7_in wsX7_in) := goodIn_app (goodIn_of _ (by decide +kernel)) ggX7_restore_X7_in
set_option maxRecDepth 20000 in
theorem ggX7_restore_X7_copies : GoodIn wsX7_restore wsX7_copies := goodIn_r _ [13] (by decide +kernel) (by decide +kernel)
set_option maxRecDepth 20000 in
theorem gX7_restore_X7_copies : GoodIn wsX7_restore (va_wsS RX7 131 yX7_copies wsX7_copies) := goodIn_app (goodIn_of _ (by decide +kernel)) ggX7_restore_X7_copies
theorem dX7_restore_0 : decode cX7_restore 0 = .ok (.iload_n 1, 1) := by decide +kernel
theorem dX7_restore_1 : decode cX7_restore 1 = .ok (.iconst 0, 1) := by decide +kernel
theorem dX7_restore_2 : decode cX7_restore 2 = .ok (.iconst 1, 1) := by decide +kernel
theorem dX7_restore_3 : decode cX7_restore 3 = .ok (.invokestatic 56, 3) := by decide +kernel
theorem dX7_restore_6 : decode cX7_restore 6 = .ok (.ifCond .ne 6, 3) := by decide +kernel
theorem dX7_restore_9 : decode cX7_restore 9 = .ok (.ldc 64, 2) := by decide +kernel
theorem dX7_restore_11 : decode cX7_restore 11 = .ok (.ireturn, 1) := by decide +kernel
theorem dX7_restore_12 : decode cX7_restore 12 = .ok (.aload_n 0, 1) := by decide +kernel
theorem dX7_restore_13 : decode cX7_restore 13 = .ok (.getfield 40, 3) := by decide +kernel
theorem dX7_restore_16 : decode cX7_restore 16 = .ok (.iload_n 1, 1) := by decide +kernel
theorem dX7_restore_17 : decode cX7_restore 17 = .ok (.baload, 1) := by decide +kernel
theorem dX7_restore_18 : decode cX7_restore 18 = .ok (.ifCond .ne 6, 3) := by decide +kernel
theorem dX7_restore_21 : decode cX7_restore 21 = .ok (.ldc 163, 2) := by decide +kernel
theorem dX7_restore_23 : decode cX7_restore 23 = .ok (.ireturn, 1) := by decide +kernel
theorem dX7_restore_24 : decode cX7_restore 24 = .ok (.aload_n 0, 1) := by decide +kernel
theorem dX7_restore_25 : decode cX7_restore 25 = .ok (.getfield 37, 3) := by decide +kernel
theorem dX7_restore_28 : decode cX7_restore 28 = .ok (.bipush 29, 2) := by decide +kernel
theorem dX7_restore_30 : decode cX7_restore 30 = .ok (.iload_n 1, 1) := by decide +kernel
theorem dX7_restore_31 : decode cX7_restore 31 = .ok (.imul, 1) := by decide +kernel
theorem dX7_restore_32 : decode cX7_restore 32 = .ok (.aload_n 0, 1) := by decide +kernel
theorem dX7_restore_33 : decode cX7_restore 33 = .ok (.getfield 25, 3) := by decide +kernel
theorem dX7_restore_36 : decode cX7_restore 36 = .ok (.iconst 0, 1) := by decide +kernel
theorem dX7_restore_37 : decode cX7_restore 37 = .ok (.invokestatic 131, 3) := by decide +kernel
theorem dX7_restore_40 : decode cX7_restore 40 = .ok (.aload_n 0, 1) := by decide +kernel
theorem dX7_restore_41 : decode cX7_restore 41 = .ok (.iconst 0, 1) := by decide +kernel
theorem dX7_restore_42 : decode cX7_restore 42 = .ok (.putfield 135, 3) := by decide +kernel
theorem dX7_restore_45 : decode cX7_restore 45 = .ok (.iconst 1, 1) := by decide +kernel
theorem dX7_restore_46 : decode cX7_restore 46 = .ok (.ireturn, 1) := by decide +kernel
theorem dX7_kindIn_0 : decode cX7_kindIn 0 = .ok (.aload_n 0, 1) := by decide +kernel
theorem dX7_kindIn_1 : decode cX7_kindIn 1 = .ok (.getfield 25, 3) := by decide +kernel
theorem dX7_kindIn_4 : decode cX7_kindIn 4 = .ok (.iconst 5, 1) := by decide +kernel
theorem dX7_kindIn_5 : decode cX7_kindIn 5 = .ok (.iconst 4, 1) := by decide +kernel
theorem dX7_kindIn_6 : decode cX7_kindIn 6 = .ok (.iload_n 1, 1) := by decide +kernel
theorem dX7_kindIn_7 : decode cX7_kindIn 7 = .ok (.imul, 1) := by decide +kernel
theorem dX7_kindIn_8 : decode cX7_kindIn 8 = .ok (.iadd, 1) := by decide +kernel
theorem dX7_kindIn_9 : decode cX7_kindIn 9 = .ok (.iaload, 1) := by decide +kernel
theorem dX7_kindIn_10 : decode cX7_kindIn 10 = .ok (.ireturn, 1) := by decide +kernel
set_option maxRecDepth 20000 in
theorem ggX7_kind_X7_isClue : GoodIn wsX7_kind wsX7_isClue := goodIn_r _ [6, 7, 8, 9, 5, 10, 15, 16, 17, 18, 19, 20, 21, 22, 23, 24, 25, 26, 27, 28, 29, 30, 31, 32, 33, 34, 35, 36, 37] (by decide +kernel) (by decide +kernel)
set_option maxRecDepth 20000 in
theorem gX7_kind_X7_isClue : GoodIn wsX7_kind (wsV RX7 170 RX7 yX7_isClue wsX7_isClue) := goodIn_app (goodIn_of _ (by decide +kernel)) ggX7_kind_X7_isClue
set_option maxRecDepth 20000 in
theorem ggX7_kind_X7_kindIn : GoodIn wsX7_kind wsX7_kindIn := goodIn_r _ [14, 7, 15, 16, 17, 18, 19, 20, 21, 22, 23, 24, 25, 26, 27, 28, 29, 30, 31, 32, 33, 34, 35, 36, 37] (by decide +kernel) (by decide +kernel)
set_option maxRecDepth 20000 in
theorem gX7_kind_X7_kindIn : GoodIn wsX7_kind (wsV RX7 202 RX7 yX7_kindIn wsX7_kindIn) := goodIn_app (goodIn_of _ (by decide +kernel)) ggX7_kind_X7_kindIn
theorem dX7_kind_0 : decode cX7_kind 0 = .ok (.aload_n 0, 1) := by decide +kernel
theorem dX7_kind_1 : decode cX7_kind 1 = .ok (.iload_n 1, 1) := by decide +kernel
theorem dX7_kind_2 : decode cX7_kind 2 = .ok (.invokevirtual 170, 3) := by decide +kernel
theorem dX7_kind_5 : decode cX7_kind 5 = .ok (.ifCond .eq 11, 3) := by decide +kernel
theorem dX7_kind_8 : decode cX7_kind 8 = .ok (.aload_n 0, 1) := by decide +kernel
theorem dX7_kind_9 : decode cX7_kind 9 = .ok (.iload_n 1, 1) := by decide +kernel
theorem dX7_kind_10 : decode cX7_kind 10 = .ok (.invokevirtual 202, 3) := by decide +kernel
theorem dX7_kind_13 : decode cX7_kind 13 = .ok (.goto 5, 3) := by decide +kernel
theorem dX7_kind_16 : decode cX7_kind 16 = .ok (.ldc 64, 2) := by decide +kernel
theorem dX7_kind_18 : decode cX7_kind 18 = .ok (.ireturn, 1) := by decide +kernel
set_option maxRecDepth 20000 in
theorem ggX7_as_X7_isClue : GoodIn wsX7_as wsX7_isClue := goodIn_r _ [6, 7, 8, 9, 5, 10, 25, 26, 27, 28, 29, 30, 31, 32, 33, 34, 35, 36, 37, 38, 39, 40, 41, 42, 43, 44, 45, 46, 47] (by decide +kernel) (by decide +kernel)
set_option maxRecDepth 20000 in
theorem gX7_as_X7_isClue : GoodIn wsX7_as (wsV RX7 170 RX7 yX7_isClue wsX7_isClue) := goodIn_app (goodIn_of _ (by decide +kernel)) ggX7_as_X7_isClue
set_option maxRecDepth 20000 in
theorem ggX7_as_X7_in : GoodIn wsX7_as wsX7_in := goodIn_r _ [10] (by decide +kernel) (by decide +kernel)
set_option maxRecDepth 20000 in
theorem gX7_as_X7_in : GoodIn wsX7_as (va_wsS RX7 56 yX7_in wsX7_in) := goodIn_app (goodIn_of _ (by decide +kernel)) ggX7_as_X7_in
set_option maxRecDepth 20000 in
theorem ggX7_as_X7_kindIn : GoodIn wsX7_as wsX7_kindIn := goodIn_r _ [14, 7, 25, 26, 27, 28, 29, 30, 31, 32, 33, 34, 35, 36, 37, 38, 39, 40, 41, 42, 43, 44, 45, 46, 47] (by decide +kernel) (by decide +kernel)
set_option maxRecDepth 20000 in
theorem gX7_as_X7_kindIn : GoodIn wsX7_as (wsV RX7 202 RX7 yX7_kindIn wsX7_kindIn) := goodIn_app (goodIn_of _ (by decide +kernel)) ggX7_as_X7_kindIn
set_option maxRecDepth 20000 in
theorem ggX7_as_X7_well : GoodIn wsX7_as wsX7_well := goodIn_r _ [18, 19, 25, 26, 27, 28, 29, 30, 31, 32, 33, 34, 35, 36, 37, 38, 39, 40, 41, 42, 43, 44, 45, 46, 47] (by decide +kernel) (by decide +kernel)
set_option maxRecDepth 20000 in
theorem gX7_as_X7_well : GoodIn wsX7_as (wsV RX7 69 RX7 yX7_well wsX7_well) := goodIn_app (goodIn_of _ (by decide +kernel)) ggX7_as_X7_well
set_option maxRecDepth 20000 in
theorem ggX7_as_X7_found : GoodIn wsX7_as wsX7_found := goodIn_r _ [23, 19, 24, 25, 26, 27, 28, 29, 30, 31, 32, 33, 34, 35, 36, 37, 38, 39, 40, 41, 42, 43, 44, 45, 46, 47] (by decide +kernel) (by decide +kernel)
set_option maxRecDepth 20000 in
theorem gX7_as_X7_found : GoodIn wsX7_as (wsV RX7 65 RX7 yX7_found wsX7_found) := goodIn_app (goodIn_of _ (by decide +kernel)) ggX7_as_X7_found
theorem dX7_as_0 : decode cX7_as 0 = .ok (.aload_n 0, 1) := by decide +kernel
theorem dX7_as_1 : decode cX7_as 1 = .ok (.iload_n 1, 1) := by decide +kernel
theorem dX7_as_2 : decode cX7_as 2 = .ok (.invokevirtual 170, 3) := by decide +kernel
theorem dX7_as_5 : decode cX7_as 5 = .ok (.ifCond .eq 12, 3) := by decide +kernel
theorem dX7_as_8 : decode cX7_as 8 = .ok (.iload_n 2, 1) := by decide +kernel
theorem dX7_as_9 : decode cX7_as 9 = .ok (.iconst 0, 1) := by decide +kernel
theorem dX7_as_10 : decode cX7_as 10 = .ok (.iconst 5, 1) := by decide +kernel
theorem dX7_as_11 : decode cX7_as 11 = .ok (.invokestatic 56, 3) := by decide +kernel
theorem dX7_as_14 : decode cX7_as 14 = .ok (.ifCond .ne 6, 3) := by decide +kernel
theorem dX7_as_17 : decode cX7_as 17 = .ok (.ldc 64, 2) := by decide +kernel
theorem dX7_as_19 : decode cX7_as 19 = .ok (.ireturn, 1) := by decide +kernel
theorem dX7_as_20 : decode cX7_as 20 = .ok (.aload_n 0, 1) := by decide +kernel
theorem dX7_as_21 : decode cX7_as 21 = .ok (.iload_n 1, 1) := by decide +kernel
theorem dX7_as_22 : decode cX7_as 22 = .ok (.invokevirtual 202, 3) := by decide +kernel
theorem dX7_as_25 : decode cX7_as 25 = .ok (.istore_n 3, 1) := by decide +kernel
theorem dX7_as_26 : decode cX7_as 26 = .ok (.iload_n 2, 1) := by decide +kernel
theorem dX7_as_27 : decode cX7_as 27 = .ok (.ifCond .eq 28, 3) := by decide +kernel
theorem dX7_as_30 : decode cX7_as 30 = .ok (.iload_n 2, 1) := by decide +kernel
theorem dX7_as_31 : decode cX7_as 31 = .ok (.iload_n 3, 1) := by decide +kernel
theorem dX7_as_32 : decode cX7_as 32 = .ok (.if_icmp .eq 23, 3) := by decide +kernel
theorem dX7_as_35 : decode cX7_as 35 = .ok (.iload_n 2, 1) := by decide +kernel
theorem dX7_as_36 : decode cX7_as 36 = .ok (.iconst 1, 1) := by decide +kernel
theorem dX7_as_37 : decode cX7_as 37 = .ok (.if_icmp .ne 8, 3) := by decide +kernel
theorem dX7_as_40 : decode cX7_as 40 = .ok (.iload_n 3, 1) := by decide +kernel
theorem dX7_as_41 : decode cX7_as 41 = .ok (.iconst 4, 1) := by decide +kernel
theorem dX7_as_42 : decode cX7_as 42 = .ok (.if_icmp .lt 13, 3) := by decide +kernel
theorem dX7_as_45 : decode cX7_as 45 = .ok (.iload_n 2, 1) := by decide +kernel
theorem dX7_as_46 : decode cX7_as 46 = .ok (.iconst 4, 1) := by decide +kernel
theorem dX7_as_47 : decode cX7_as 47 = .ok (.if_icmp .ne 12, 3) := by decide +kernel
theorem dX7_as_50 : decode cX7_as 50 = .ok (.iload_n 3, 1) := by decide +kernel
theorem dX7_as_51 : decode cX7_as 51 = .ok (.iconst 5, 1) := by decide +kernel
theorem dX7_as_52 : decode cX7_as 52 = .ok (.if_icmp .ne 7, 3) := by decide +kernel
theorem dX7_as_55 : decode cX7_as 55 = .ok (.iconst 1, 1) := by decide +kernel
theorem dX7_as_56 : decode cX7_as 56 = .ok (.goto 4, 3) := by decide +kernel
theorem dX7_as_59 : decode cX7_as 59 = .ok (.iconst 0, 1) := by decide +kernel
theorem dX7_as_60 : decode cX7_as 60 = .ok (.istore 4, 2) := by decide +kernel
theorem dX7_as_62 : decode cX7_as 62 = .ok (.iload 4, 2) := by decide +kernel
theorem dX7_as_64 : decode cX7_as 64 = .ok (.ifCond .eq 11, 3) := by decide +kernel
theorem dX7_as_67 : decode cX7_as 67 = .ok (.aload_n 0, 1) := by decide +kernel
theorem dX7_as_68 : decode cX7_as 68 = .ok (.iload_n 1, 1) := by decide +kernel
theorem dX7_as_69 : decode cX7_as 69 = .ok (.invokevirtual 69, 3) := by decide +kernel
theorem dX7_as_72 : decode cX7_as 72 = .ok (.goto 8, 3) := by decide +kernel
theorem dX7_as_75 : decode cX7_as 75 = .ok (.aload_n 0, 1) := by decide +kernel
theorem dX7_as_76 : decode cX7_as 76 = .ok (.iconst 3, 1) := by decide +kernel
theorem dX7_as_77 : decode cX7_as 77 = .ok (.invokevirtual 65, 3) := by decide +kernel
theorem dX7_as_80 : decode cX7_as 80 = .ok (.ireturn, 1) := by decide +kernel
theorem dX7_begins_0 : decode cX7_begins 0 = .ok (.aload_n 0, 1) := by decide +kernel
theorem dX7_begins_1 : decode cX7_begins 1 = .ok (.getfield 205, 3) := by decide +kernel
theorem dX7_begins_4 : decode cX7_begins 4 = .ok (.bipush 16, 2) := by decide +kernel
theorem dX7_begins_6 : decode cX7_begins 6 = .ok (.if_icmp .ge 23, 3) := by decide +kernel
theorem dX7_begins_9 : decode cX7_begins 9 = .ok (.aload_n 0, 1) := by decide +kernel
theorem dX7_begins_10 : decode cX7_begins 10 = .ok (.getfield 47, 3) := by decide +kernel
theorem dX7_begins_13 : decode cX7_begins 13 = .ok (.aload_n 0, 1) := by decide +kernel
theorem dX7_begins_14 : decode cX7_begins 14 = .ok (.getfield 205, 3) := by decide +kernel
theorem dX7_begins_17 : decode cX7_begins 17 = .ok (.iload_n 1, 1) := by decide +kernel
theorem dX7_begins_18 : decode cX7_begins 18 = .ok (.iastore, 1) := by decide +kernel
theorem dX7_begins_19 : decode cX7_begins 19 = .ok (.aload_n 0, 1) := by decide +kernel
theorem dX7_begins_20 : decode cX7_begins 20 = .ok (.dup, 1) := by decide +kernel
theorem dX7_begins_21 : decode cX7_begins 21 = .ok (.getfield 205, 3) := by decide +kernel
theorem dX7_begins_24 : decode cX7_begins 24 = .ok (.iconst 1, 1) := by decide +kernel
theorem dX7_begins_25 : decode cX7_begins 25 = .ok (.iadd, 1) := by decide +kernel
theorem dX7_begins_26 : decode cX7_begins 26 = .ok (.putfield 205, 3) := by decide +kernel
theorem dX7_begins_29 : decode cX7_begins 29 = .ok (.return_, 1) := by decide +kernel
set_option maxRecDepth 20000 in
theorem ggX7_threadMark_X7_kindIn : GoodIn wsX7_threadMark wsX7_kindIn := goodIn_r _ [6, 1, 13, 14, 15, 16, 17, 18, 19, 20, 21, 22, 23, 24, 25, 26, 27, 28, 29, 30, 31, 32, 33, 34, 35] (by decide +kernel) (by decide +kernel)
set_option maxRecDepth 20000 in
theorem gX7_threadMark_X7_kindIn : GoodIn wsX7_threadMark (wsV RX7 202 RX7 yX7_kindIn wsX7_kindIn) := goodIn_app (goodIn_of _ (by decide +kernel)) ggX7_threadMark_X7_kindIn
set_option maxRecDepth 20000 in
theorem ggX7_threadMark_X7_begins : GoodIn wsX7_threadMark wsX7_begins := goodIn_r _ [10, 11, 12, 13, 14, 15, 16, 17, 18, 19, 20, 21, 22, 23, 24, 25, 26, 27, 28, 29, 30, 31, 32, 33, 34, 35] (by decide +kernel) (by decide +kernel)
set_option maxRecDepth 20000 in
theorem gX7_threadMark_X7_begins : GoodIn wsX7_threadMark (wsV RX7 208 RX7 yX7_begins wsX7_begins) := goodIn_app (goodIn_of _ (by decide +kernel)) ggX7_threadMark_X7_begins
theorem dX7_threadMark_0 : decode cX7_threadMark 0 = .ok (.aload_n 0, 1) := by decide +kernel
theorem dX7_threadMark_1 : decode cX7_threadMark 1 = .ok (.iload_n 1, 1) := by decide +kernel
theorem dX7_threadMark_2 : decode cX7_threadMark 2 = .ok (.invokevirtual 202, 3) := by decide +kernel
theorem dX7_threadMark_5 : decode cX7_threadMark 5 = .ok (.istore_n 2, 1) := by decide +kernel
theorem dX7_threadMark_6 : decode cX7_threadMark 6 = .ok (.iload_n 2, 1) := by decide +kernel
theorem dX7_threadMark_7 : decode cX7_threadMark 7 = .ok (.iconst 1, 1) := by decide +kernel
theorem dX7_threadMark_8 : decode cX7_threadMark 8 = .ok (.if_icmp .eq 19, 3) := by decide +kernel
theorem dX7_threadMark_11 : decode cX7_threadMark 11 = .ok (.aload_n 0, 1) := by decide +kernel
theorem dX7_threadMark_12 : decode cX7_threadMark 12 = .ok (.iload_n 2, 1) := by decide +kernel
theorem dX7_threadMark_13 : decode cX7_threadMark 13 = .ok (.iconst 2, 1) := by decide +kernel
theorem dX7_threadMark_14 : decode cX7_threadMark 14 = .ok (.if_icmp .ne 8, 3) := by decide +kernel
theorem dX7_threadMark_17 : decode cX7_threadMark 17 = .ok (.bipush 24, 2) := by decide +kernel
theorem dX7_threadMark_19 : decode cX7_threadMark 19 = .ok (.goto 5, 3) := by decide +kernel
theorem dX7_threadMark_22 : decode cX7_threadMark 22 = .ok (.bipush 22, 2) := by decide +kernel
theorem dX7_threadMark_24 : decode cX7_threadMark 24 = .ok (.invokevirtual 208, 3) := by decide +kernel
theorem dX7_threadMark_27 : decode cX7_threadMark 27 = .ok (.aload_n 0, 1) := by decide +kernel
theorem dX7_threadMark_28 : decode cX7_threadMark 28 = .ok (.bipush 21, 2) := by decide +kernel
theorem dX7_threadMark_30 : decode cX7_threadMark 30 = .ok (.invokevirtual 208, 3) := by decide +kernel
theorem dX7_threadMark_33 : decode cX7_threadMark 33 = .ok (.aload_n 0, 1) := by decide +kernel
theorem dX7_threadMark_34 : decode cX7_threadMark 34 = .ok (.bipush 20, 2) := by decide +kernel
theorem dX7_threadMark_36 : decode cX7_threadMark 36 = .ok (.invokevirtual 208, 3) := by decide +kernel
theorem dX7_threadMark_39 : decode cX7_threadMark 39 = .ok (.iload_n 1, 1) := by decide +kernel
theorem dX7_threadMark_40 : decode cX7_threadMark 40 = .ok (.aload_n 0, 1) := by decide +kernel
theorem dX7_threadMark_41 : decode cX7_threadMark 41 = .ok (.getfield 25, 3) := by decide +kernel
theorem dX7_threadMark_44 : decode cX7_threadMark 44 = .ok (.iconst 5, 1) := by decide +kernel
theorem dX7_threadMark_45 : decode cX7_threadMark 45 = .ok (.iconst 4, 1) := by decide +kernel
theorem dX7_threadMark_46 : decode cX7_threadMark 46 = .ok (.iload_n 1, 1) := by decide +kernel
theorem dX7_threadMark_47 : decode cX7_threadMark 47 = .ok (.imul, 1) := by decide +kernel
theorem dX7_threadMark_48 : decode cX7_threadMark 48 = .ok (.iadd, 1) := by decide +kernel
theorem dX7_threadMark_49 : decode cX7_threadMark 49 = .ok (.iconst 3, 1) := by decide +kernel
theorem dX7_threadMark_50 : decode cX7_threadMark 50 = .ok (.iadd, 1) := by decide +kernel
theorem dX7_threadMark_51 : decode cX7_threadMark 51 = .ok (.iaload, 1) := by decide +kernel
theorem dX7_threadMark_52 : decode cX7_threadMark 52 = .ok (.iadd, 1) := by decide +kernel
theorem dX7_threadMark_53 : decode cX7_threadMark 53 = .ok (.istore_n 3, 1) := by decide +kernel
theorem dX7_threadMark_54 : decode cX7_threadMark 54 = .ok (.iload_n 2, 1) := by decide +kernel
theorem dX7_threadMark_55 : decode cX7_threadMark 55 = .ok (.iconst 2, 1) := by decide +kernel
theorem dX7_threadMark_56 : decode cX7_threadMark 56 = .ok (.if_icmp .ne 9, 3) := by decide +kernel
theorem dX7_threadMark_59 : decode cX7_threadMark 59 = .ok (.iconst 2, 1) := by decide +kernel
theorem dX7_threadMark_60 : decode cX7_threadMark 60 = .ok (.iload_n 3, 1) := by decide +kernel
theorem dX7_threadMark_61 : decode cX7_threadMark 61 = .ok (.imul, 1) := by decide +kernel
theorem dX7_threadMark_62 : decode cX7_threadMark 62 = .ok (.goto 17, 3) := by decide +kernel
theorem dX7_threadMark_65 : decode cX7_threadMark 65 = .ok (.iload_n 2, 1) := by decide +kernel
theorem dX7_threadMark_66 : decode cX7_threadMark 66 = .ok (.iconst 3, 1) := by decide +kernel
theorem dX7_threadMark_67 : decode cX7_threadMark 67 = .ok (.if_icmp .ne 11, 3) := by decide +kernel
theorem dX7_threadMark_70 : decode cX7_threadMark 70 = .ok (.iload_n 3, 1) := by decide +kernel
theorem dX7_threadMark_71 : decode cX7_threadMark 71 = .ok (.sipush 1000, 3) := by decide +kernel
theorem dX7_threadMark_74 : decode cX7_threadMark 74 = .ok (.isub, 1) := by decide +kernel
theorem dX7_threadMark_75 : decode cX7_threadMark 75 = .ok (.goto 4, 3) := by decide +kernel
theorem dX7_threadMark_78 : decode cX7_threadMark 78 = .ok (.iload_n 3, 1) := by decide +kernel
theorem dX7_threadMark_79 : decode cX7_threadMark 79 = .ok (.ireturn, 1) := by decide +kernel
set_option maxRecDepth 20000 in
theorem ggX7_stainSize_X7_kindIn : GoodIn wsX7_stainSize wsX7_kindIn := goodIn_r _ [6, 1, 13, 14, 15, 16, 17, 18, 19, 20, 21, 22, 23, 24, 25, 26, 27, 28, 29, 30, 31, 32, 33, 34, 35] (by decide +kernel) (by decide +kernel)
set_option maxRecDepth 20000 in
theorem gX7_stainSize_X7_kindIn : GoodIn wsX7_stainSize (wsV RX7 202 RX7 yX7_kindIn wsX7_kindIn) := goodIn_app (goodIn_of _ (by decide +kernel)) ggX7_stainSize_X7_kindIn
set_option maxRecDepth 20000 in
theorem ggX7_stainSize_X7_begins : GoodIn wsX7_stainSize wsX7_begins := goodIn_r _ [10, 11, 12, 13, 14, 15, 16, 17, 18, 19, 20, 21, 22, 23, 24, 25, 26, 27, 28, 29, 30, 31, 32, 33, 34, 35] (by decide +kernel) (by decide +kernel)
set_option maxRecDepth 20000 in
theorem gX7_stainSize_X7_begins : GoodIn wsX7_stainSize (wsV RX7 208 RX7 yX7_begins wsX7_begins) := goodIn_app (goodIn_of _ (by decide +kernel)) ggX7_stainSize_X7_begins
theorem dX7_stainSize_0 : decode cX7_stainSize 0 = .ok (.aload_n 0, 1) := by decide +kernel
theorem dX7_stainSize_1 : decode cX7_stainSize 1 = .ok (.iload_n 1, 1) := by decide +kernel
theorem dX7_stainSize_2 : decode cX7_stainSize 2 = .ok (.invokevirtual 202, 3) := by decide +kernel
theorem dX7_stainSize_5 : decode cX7_stainSize 5 = .ok (.iconst 5, 1) := by decide +kernel
theorem dX7_stainSize_6 : decode cX7_stainSize 6 = .ok (.if_icmp .ne 7, 3) := by decide +kernel
theorem dX7_stainSize_9 : decode cX7_stainSize 9 = .ok (.iconst 1, 1) := by decide +kernel
theorem dX7_stainSize_10 : decode cX7_stainSize 10 = .ok (.goto 4, 3) := by decide +kernel
theorem dX7_stainSize_13 : decode cX7_stainSize 13 = .ok (.iconst 0, 1) := by decide +kernel
theorem dX7_stainSize_14 : decode cX7_stainSize 14 = .ok (.istore_n 2, 1) := by decide +kernel
theorem dX7_stainSize_15 : decode cX7_stainSize 15 = .ok (.iload_n 2, 1) := by decide +kernel
theorem dX7_stainSize_16 : decode cX7_stainSize 16 = .ok (.ifCond .eq 9, 3) := by decide +kernel
theorem dX7_stainSize_19 : decode cX7_stainSize 19 = .ok (.aload_n 0, 1) := by decide +kernel
theorem dX7_stainSize_20 : decode cX7_stainSize 20 = .ok (.bipush 14, 2) := by decide +kernel
theorem dX7_stainSize_22 : decode cX7_stainSize 22 = .ok (.invokevirtual 208, 3) := by decide +kernel
theorem dX7_stainSize_25 : decode cX7_stainSize 25 = .ok (.aload_n 0, 1) := by decide +kernel
theorem dX7_stainSize_26 : decode cX7_stainSize 26 = .ok (.bipush 13, 2) := by decide +kernel
theorem dX7_stainSize_28 : decode cX7_stainSize 28 = .ok (.invokevirtual 208, 3) := by decide +kernel
theorem dX7_stainSize_31 : decode cX7_stainSize 31 = .ok (.aload_n 0, 1) := by decide +kernel
theorem dX7_stainSize_32 : decode cX7_stainSize 32 = .ok (.bipush 10, 2) := by decide +kernel
theorem dX7_stainSize_34 : decode cX7_stainSize 34 = .ok (.invokevirtual 208, 3) := by decide +kernel
theorem dX7_stainSize_37 : decode cX7_stainSize 37 = .ok (.aload_n 0, 1) := by decide +kernel
theorem dX7_stainSize_38 : decode cX7_stainSize 38 = .ok (.getfield 25, 3) := by decide +kernel
theorem dX7_stainSize_41 : decode cX7_stainSize 41 = .ok (.iconst 5, 1) := by decide +kernel
theorem dX7_stainSize_42 : decode cX7_stainSize 42 = .ok (.iconst 4, 1) := by decide +kernel
theorem dX7_stainSize_43 : decode cX7_stainSize 43 = .ok (.iload_n 1, 1) := by decide +kernel
theorem dX7_stainSize_44 : decode cX7_stainSize 44 = .ok (.imul, 1) := by decide +kernel
theorem dX7_stainSize_45 : decode cX7_stainSize 45 = .ok (.iadd, 1) := by decide +kernel
theorem dX7_stainSize_46 : decode cX7_stainSize 46 = .ok (.iconst 1, 1) := by decide +kernel
theorem dX7_stainSize_47 : decode cX7_stainSize 47 = .ok (.iadd, 1) := by decide +kernel
theorem dX7_stainSize_48 : decode cX7_stainSize 48 = .ok (.iaload, 1) := by decide +kernel
theorem dX7_stainSize_49 : decode cX7_stainSize 49 = .ok (.bipush 100, 2) := by decide +kernel
theorem dX7_stainSize_51 : decode cX7_stainSize 51 = .ok (.isub, 1) := by decide +kernel
theorem dX7_stainSize_52 : decode cX7_stainSize 52 = .ok (.istore_n 3, 1) := by decide +kernel
theorem dX7_stainSize_53 : decode cX7_stainSize 53 = .ok (.iload_n 2, 1) := by decide +kernel
theorem dX7_stainSize_54 : decode cX7_stainSize 54 = .ok (.ifCond .eq 9, 3) := by decide +kernel
theorem dX7_stainSize_57 : decode cX7_stainSize 57 = .ok (.iconst 2, 1) := by decide +kernel
theorem dX7_stainSize_58 : decode cX7_stainSize 58 = .ok (.iload_n 3, 1) := by decide +kernel
theorem dX7_stainSize_59 : decode cX7_stainSize 59 = .ok (.imul, 1) := by decide +kernel
theorem dX7_stainSize_60 : decode cX7_stainSize 60 = .ok (.goto 4, 3) := by decide +kernel
theorem dX7_stainSize_63 : decode cX7_stainSize 63 = .ok (.iload_n 3, 1) := by decide +kernel
theorem dX7_stainSize_64 : decode cX7_stainSize 64 = .ok (.ireturn, 1) := by decide +kernel
set_option maxRecDepth 20000 in
theorem ggX7_threadSize_X7_kindIn : GoodIn wsX7_threadSize wsX7_kindIn := goodIn_r _ [6, 1, 17, 18, 19, 20, 21, 22, 23, 24, 25, 26, 27, 28, 29, 30, 31, 32, 33, 34, 35, 36, 37, 38, 39] (by decide +kernel) (by decide +kernel)
set_option maxRecDepth 20000 in
theorem gX7_threadSize_X7_kindIn : GoodIn wsX7_threadSize (wsV RX7 202 RX7 yX7_kindIn wsX7_kindIn) := goodIn_app (goodIn_of _ (by decide +kernel)) ggX7_threadSize_X7_kindIn
set_option maxRecDepth 20000 in
theorem ggX7_threadSize_X7_begins : GoodIn wsX7_threadSize wsX7_begins := goodIn_r _ [10, 11, 12, 17, 18, 19, 20, 21, 22, 23, 24, 25, 26, 27, 28, 29, 30, 31, 32, 33, 34, 35, 36, 37, 38, 39] (by decide +kernel) (by decide +kernel)
set_option maxRecDepth 20000 in
theorem gX7_threadSize_X7_begins : GoodIn wsX7_threadSize (wsV RX7 208 RX7 yX7_begins wsX7_begins) := goodIn_app (goodIn_of _ (by decide +kernel)) ggX7_threadSize_X7_begins
set_option maxRecDepth 20000 in
theorem ggX7_threadSize_X7_threadMark : GoodIn wsX7_threadSize wsX7_threadMark := goodIn_r _ [16, 1, 2, 3, 4, 5, 6, 7, 8, 9, 10, 11, 12, 17, 18, 19, 20, 21, 22, 23, 24, 25, 26, 27, 28, 29, 30, 31, 32, 33, 34, 35, 36, 37, 38, 39] (by decide +kernel) (by decide +kernel)
set_option maxRecDepth 20000 in
theorem gX7_threadSize_X7_threadMark : GoodIn wsX7_threadSize (wsV RX7 212 RX7 yX7_threadMark wsX7_threadMark) := goodIn_app (goodIn_of _ (by decide +kernel)) ggX7_threadSize_X7_threadMark
theorem dX7_threadSize_0 : decode cX7_threadSize 0 = .ok (.aload_n 0, 1) := by decide +kernel
theorem dX7_threadSize_1 : decode cX7_threadSize 1 = .ok (.iload_n 1, 1) := by decide +kernel
theorem dX7_threadSize_2 : decode cX7_threadSize 2 = .ok (.invokevirtual 202, 3) := by decide +kernel
theorem dX7_threadSize_5 : decode cX7_threadSize 5 = .ok (.iconst 2, 1) := by decide +kernel
theorem dX7_threadSize_6 : decode cX7_threadSize 6 = .ok (.if_icmp .ne 7, 3) := by decide +kernel
theorem dX7_threadSize_9 : decode cX7_threadSize 9 = .ok (.iconst 1, 1) := by decide +kernel
theorem dX7_threadSize_10 : decode cX7_threadSize 10 = .ok (.goto 4, 3) := by decide +kernel
theorem dX7_threadSize_13 : decode cX7_threadSize 13 = .ok (.iconst 0, 1) := by decide +kernel
theorem dX7_threadSize_14 : decode cX7_threadSize 14 = .ok (.istore_n 2, 1) := by decide +kernel
theorem dX7_threadSize_15 : decode cX7_threadSize 15 = .ok (.iload_n 2, 1) := by decide +kernel
theorem dX7_threadSize_16 : decode cX7_threadSize 16 = .ok (.ifCond .eq 9, 3) := by decide +kernel
theorem dX7_threadSize_19 : decode cX7_threadSize 19 = .ok (.aload_n 0, 1) := by decide +kernel
theorem dX7_threadSize_20 : decode cX7_threadSize 20 = .ok (.bipush 12, 2) := by decide +kernel
theorem dX7_threadSize_22 : decode cX7_threadSize 22 = .ok (.invokevirtual 208, 3) := by decide +kernel
theorem dX7_threadSize_25 : decode cX7_threadSize 25 = .ok (.aload_n 0, 1) := by decide +kernel
theorem dX7_threadSize_26 : decode cX7_threadSize 26 = .ok (.bipush 11, 2) := by decide +kernel
theorem dX7_threadSize_28 : decode cX7_threadSize 28 = .ok (.invokevirtual 208, 3) := by decide +kernel
theorem dX7_threadSize_31 : decode cX7_threadSize 31 = .ok (.aload_n 0, 1) := by decide +kernel
theorem dX7_threadSize_32 : decode cX7_threadSize 32 = .ok (.bipush 10, 2) := by decide +kernel
theorem dX7_threadSize_34 : decode cX7_threadSize 34 = .ok (.invokevirtual 208, 3) := by decide +kernel
theorem dX7_threadSize_37 : decode cX7_threadSize 37 = .ok (.aload_n 0, 1) := by decide +kernel
theorem dX7_threadSize_38 : decode cX7_threadSize 38 = .ok (.getfield 25, 3) := by decide +kernel
theorem dX7_threadSize_41 : decode cX7_threadSize 41 = .ok (.iconst 5, 1) := by decide +kernel
theorem dX7_threadSize_42 : decode cX7_threadSize 42 = .ok (.iconst 4, 1) := by decide +kernel
theorem dX7_threadSize_43 : decode cX7_threadSize 43 = .ok (.iload_n 1, 1) := by decide +kernel
theorem dX7_threadSize_44 : decode cX7_threadSize 44 = .ok (.imul, 1) := by decide +kernel
theorem dX7_threadSize_45 : decode cX7_threadSize 45 = .ok (.iadd, 1) := by decide +kernel
theorem dX7_threadSize_46 : decode cX7_threadSize 46 = .ok (.iconst 1, 1) := by decide +kernel
theorem dX7_threadSize_47 : decode cX7_threadSize 47 = .ok (.iadd, 1) := by decide +kernel
theorem dX7_threadSize_48 : decode cX7_threadSize 48 = .ok (.iaload, 1) := by decide +kernel
theorem dX7_threadSize_49 : decode cX7_threadSize 49 = .ok (.aload_n 0, 1) := by decide +kernel
theorem dX7_threadSize_50 : decode cX7_threadSize 50 = .ok (.iload_n 1, 1) := by decide +kernel
theorem dX7_threadSize_51 : decode cX7_threadSize 51 = .ok (.invokevirtual 212, 3) := by decide +kernel
theorem dX7_threadSize_54 : decode cX7_threadSize 54 = .ok (.iadd, 1) := by decide +kernel
theorem dX7_threadSize_55 : decode cX7_threadSize 55 = .ok (.istore_n 3, 1) := by decide +kernel
theorem dX7_threadSize_56 : decode cX7_threadSize 56 = .ok (.iload_n 2, 1) := by decide +kernel
theorem dX7_threadSize_57 : decode cX7_threadSize 57 = .ok (.ifCond .eq 8, 3) := by decide +kernel
theorem dX7_threadSize_60 : decode cX7_threadSize 60 = .ok (.iload_n 3, 1) := by decide +kernel
theorem dX7_threadSize_61 : decode cX7_threadSize 61 = .ok (.ineg, 1) := by decide +kernel
theorem dX7_threadSize_62 : decode cX7_threadSize 62 = .ok (.goto 4, 3) := by decide +kernel
theorem dX7_threadSize_65 : decode cX7_threadSize 65 = .ok (.iload_n 3, 1) := by decide +kernel
theorem dX7_threadSize_66 : decode cX7_threadSize 66 = .ok (.ireturn, 1) := by decide +kernel
set_option maxRecDepth 20000 in
theorem ggX7_stainMark_X7_begins : GoodIn wsX7_stainMark wsX7_begins := goodIn_r _ [5, 6, 7, 17, 18, 19, 20, 21, 22, 23, 24, 25, 26, 27, 28, 29, 30, 31, 32, 33, 34, 35, 36, 37, 38, 39] (by decide +kernel) (by decide +kernel)
set_option maxRecDepth 20000 in
theorem gX7_stainMark_X7_begins : GoodIn wsX7_stainMark (wsV RX7 208 RX7 yX7_begins wsX7_begins) := goodIn_app (goodIn_of _ (by decide +kernel)) ggX7_stainMark_X7_begins
set_option maxRecDepth 20000 in
theorem ggX7_stainMark_X7_stainSize : GoodIn wsX7_stainMark wsX7_stainSize := goodIn_r _ [11, 12, 13, 14, 15, 4, 16, 1, 2, 3, 5, 6, 7, 17, 18, 19, 20, 21, 22, 23, 24, 25, 26, 27, 28, 29, 30, 31, 32, 33, 34, 35, 36, 37, 38, 39] (by decide +kernel) (by decide +kernel)
set_option maxRecDepth 20000 in
theorem gX7_stainMark_X7_stainSize : GoodIn wsX7_stainMark (wsV RX7 215 RX7 yX7_stainSize wsX7_stainSize) := goodIn_app (goodIn_of _ (by decide +kernel)) ggX7_stainMark_X7_stainSize
theorem dX7_stainMark_0 : decode cX7_stainMark 0 = .ok (.aload_n 0, 1) := by decide +kernel
theorem dX7_stainMark_1 : decode cX7_stainMark 1 = .ok (.bipush 23, 2) := by decide +kernel
theorem dX7_stainMark_3 : decode cX7_stainMark 3 = .ok (.invokevirtual 208, 3) := by decide +kernel
theorem dX7_stainMark_6 : decode cX7_stainMark 6 = .ok (.aload_n 0, 1) := by decide +kernel
theorem dX7_stainMark_7 : decode cX7_stainMark 7 = .ok (.bipush 20, 2) := by decide +kernel
theorem dX7_stainMark_9 : decode cX7_stainMark 9 = .ok (.invokevirtual 208, 3) := by decide +kernel
theorem dX7_stainMark_12 : decode cX7_stainMark 12 = .ok (.iload_n 1, 1) := by decide +kernel
theorem dX7_stainMark_13 : decode cX7_stainMark 13 = .ok (.aload_n 0, 1) := by decide +kernel
theorem dX7_stainMark_14 : decode cX7_stainMark 14 = .ok (.iload_n 1, 1) := by decide +kernel
theorem dX7_stainMark_15 : decode cX7_stainMark 15 = .ok (.invokevirtual 215, 3) := by decide +kernel
theorem dX7_stainMark_18 : decode cX7_stainMark 18 = .ok (.isub, 1) := by decide +kernel
theorem dX7_stainMark_19 : decode cX7_stainMark 19 = .ok (.ireturn, 1) := by decide +kernel
set_option maxRecDepth 20000 in
theorem ggX7_ask_X7_isClue : GoodIn wsX7_ask wsX7_isClue := goodIn_r _ [7, 8, 9, 10, 6, 11, 37, 38, 39, 40, 41, 42, 43, 44, 45, 46, 47, 48, 49, 50, 51, 52, 53, 54, 55, 56, 57, 58, 59] (by decide +kernel) (by decide +kernel)
set_option maxRecDepth 20000 in
theorem gX7_ask_X7_isClue : GoodIn wsX7_ask (wsV RX7 170 RX7 yX7_isClue wsX7_isClue) := goodIn_app (goodIn_of _ (by decide +kernel)) ggX7_ask_X7_isClue
set_option maxRecDepth 20000 in
theorem ggX7_ask_X7_in : GoodIn wsX7_ask wsX7_in := goodIn_r _ [11] (by decide +kernel) (by decide +kernel)
set_option maxRecDepth 20000 in
theorem gX7_ask_X7_in : GoodIn wsX7_ask (va_wsS RX7 56 yX7_in wsX7_in) := goodIn_app (goodIn_of _ (by decide +kernel)) ggX7_ask_X7_in
set_option maxRecDepth 20000 in
theorem ggX7_ask_X7_kindIn : GoodIn wsX7_ask wsX7_kindIn := goodIn_r _ [15, 8, 37, 38, 39, 40, 41, 42, 43, 44, 45, 46, 47, 48, 49, 50, 51, 52, 53, 54, 55, 56, 57, 58, 59] (by decide +kernel) (by decide +kernel)
set_option maxRecDepth 20000 in
theorem gX7_ask_X7_kindIn : GoodIn wsX7_ask (wsV RX7 202 RX7 yX7_kindIn wsX7_kindIn) := goodIn_app (goodIn_of _ (by decide +kernel)) ggX7_ask_X7_kindIn
set_option maxRecDepth 20000 in
theorem ggX7_ask_X7_stainSize : GoodIn wsX7_ask wsX7_stainSize := goodIn_r _ [19, 8, 12, 13, 14, 6, 15, 20, 21, 22, 23, 2, 24, 37, 38, 39, 40, 41, 42, 43, 44, 45, 46, 47, 48, 49, 50, 51, 52, 53, 54, 55, 56, 57, 58, 59] (by decide +kernel) (by decide +kernel)
set_option maxRecDepth 20000 in
theorem gX7_ask_X7_stainSize : GoodIn wsX7_ask (wsV RX7 215 RX7 yX7_stainSize wsX7_stainSize) := goodIn_app (goodIn_of _ (by decide +kernel)) ggX7_ask_X7_stainSize
set_option maxRecDepth 20000 in
theorem ggX7_ask_X7_threadSize : GoodIn wsX7_ask wsX7_threadSize := goodIn_r _ [28, 8, 12, 13, 14, 6, 15, 20, 21, 22, 23, 2, 24, 29, 30, 31, 32, 37, 38, 39, 40, 41, 42, 43, 44, 45, 46, 47, 48, 49, 50, 51, 52, 53, 54, 55, 56, 57, 58, 59] (by decide +kernel) (by decide +kernel)
set_option maxRecDepth 20000 in
theorem gX7_ask_X7_threadSize : GoodIn wsX7_ask (wsV RX7 218 RX7 yX7_threadSize wsX7_threadSize) := goodIn_app (goodIn_of _ (by decide +kernel)) ggX7_ask_X7_threadSize
set_option maxRecDepth 20000 in
theorem ggX7_ask_X7_stainMark : GoodIn wsX7_ask wsX7_stainMark := goodIn_r _ [36, 20, 21, 22, 6, 23, 2, 24, 16, 17, 18, 19, 8, 12, 13, 14, 15, 37, 38, 39, 40, 41, 42, 43, 44, 45, 46, 47, 48, 49, 50, 51, 52, 53, 54, 55, 56, 57, 58, 59] (by decide +kernel) (by decide +kernel)
set_option maxRecDepth 20000 in
theorem gX7_ask_X7_stainMark : GoodIn wsX7_ask (wsV RX7 221 RX7 yX7_stainMark wsX7_stainMark) := goodIn_app (goodIn_of _ (by decide +kernel)) ggX7_ask_X7_stainMark
set_option maxRecDepth 20000 in
theorem ggX7_ask_X7_threadMark : GoodIn wsX7_ask wsX7_threadMark := goodIn_r _ [32, 8, 12, 13, 14, 6, 15, 20, 21, 22, 23, 2, 24, 37, 38, 39, 40, 41, 42, 43, 44, 45, 46, 47, 48, 49, 50, 51, 52, 53, 54, 55, 56, 57, 58, 59] (by decide +kernel) (by decide +kernel)
set_option maxRecDepth 20000 in
theorem gX7_ask_X7_threadMark : GoodIn wsX7_ask (wsV RX7 212 RX7 yX7_threadMark wsX7_threadMark) := goodIn_app (goodIn_of _ (by decide +kernel)) ggX7_ask_X7_threadMark
theorem dX7_ask_0 : decode cX7_ask 0 = .ok (.aload_n 0, 1) := by decide +kernel
theorem dX7_ask_1 : decode cX7_ask 1 = .ok (.iload_n 1, 1) := by decide +kernel
theorem dX7_ask_2 : decode cX7_ask 2 = .ok (.invokevirtual 170, 3) := by decide +kernel
theorem dX7_ask_5 : decode cX7_ask 5 = .ok (.ifCond .eq 12, 3) := by decide +kernel
theorem dX7_ask_8 : decode cX7_ask 8 = .ok (.iload_n 2, 1) := by decide +kernel
theorem dX7_ask_9 : decode cX7_ask 9 = .ok (.iconst 0, 1) := by decide +kernel
theorem dX7_ask_10 : decode cX7_ask 10 = .ok (.iconst 1, 1) := by decide +kernel
theorem dX7_ask_11 : decode cX7_ask 11 = .ok (.invokestatic 56, 3) := by decide +kernel
theorem dX7_ask_14 : decode cX7_ask 14 = .ok (.ifCond .ne 6, 3) := by decide +kernel
theorem dX7_ask_17 : decode cX7_ask 17 = .ok (.ldc 64, 2) := by decide +kernel
theorem dX7_ask_19 : decode cX7_ask 19 = .ok (.ireturn, 1) := by decide +kernel
theorem dX7_ask_20 : decode cX7_ask 20 = .ok (.aload_n 0, 1) := by decide +kernel
theorem dX7_ask_21 : decode cX7_ask 21 = .ok (.iconst 0, 1) := by decide +kernel
theorem dX7_ask_22 : decode cX7_ask 22 = .ok (.putfield 205, 3) := by decide +kernel
theorem dX7_ask_25 : decode cX7_ask 25 = .ok (.aload_n 0, 1) := by decide +kernel
theorem dX7_ask_26 : decode cX7_ask 26 = .ok (.iload_n 1, 1) := by decide +kernel
theorem dX7_ask_27 : decode cX7_ask 27 = .ok (.invokevirtual 202, 3) := by decide +kernel
theorem dX7_ask_30 : decode cX7_ask 30 = .ok (.iconst 4, 1) := by decide +kernel
theorem dX7_ask_31 : decode cX7_ask 31 = .ok (.if_icmp .lt 7, 3) := by decide +kernel
theorem dX7_ask_34 : decode cX7_ask 34 = .ok (.iconst 1, 1) := by decide +kernel
theorem dX7_ask_35 : decode cX7_ask 35 = .ok (.goto 4, 3) := by decide +kernel
theorem dX7_ask_38 : decode cX7_ask 38 = .ok (.iconst 0, 1) := by decide +kernel
theorem dX7_ask_39 : decode cX7_ask 39 = .ok (.istore_n 3, 1) := by decide +kernel
theorem dX7_ask_40 : decode cX7_ask 40 = .ok (.iload_n 2, 1) := by decide +kernel
theorem dX7_ask_41 : decode cX7_ask 41 = .ok (.ifCond .ne 21, 3) := by decide +kernel
theorem dX7_ask_44 : decode cX7_ask 44 = .ok (.iload_n 3, 1) := by decide +kernel
theorem dX7_ask_45 : decode cX7_ask 45 = .ok (.ifCond .eq 11, 3) := by decide +kernel
theorem dX7_ask_48 : decode cX7_ask 48 = .ok (.aload_n 0, 1) := by decide +kernel
theorem dX7_ask_49 : decode cX7_ask 49 = .ok (.iload_n 1, 1) := by decide +kernel
theorem dX7_ask_50 : decode cX7_ask 50 = .ok (.invokevirtual 215, 3) := by decide +kernel
theorem dX7_ask_53 : decode cX7_ask 53 = .ok (.goto 8, 3) := by decide +kernel
theorem dX7_ask_56 : decode cX7_ask 56 = .ok (.aload_n 0, 1) := by decide +kernel
theorem dX7_ask_57 : decode cX7_ask 57 = .ok (.iload_n 1, 1) := by decide +kernel
theorem dX7_ask_58 : decode cX7_ask 58 = .ok (.invokevirtual 218, 3) := by decide +kernel
theorem dX7_ask_61 : decode cX7_ask 61 = .ok (.ireturn, 1) := by decide +kernel
theorem dX7_ask_62 : decode cX7_ask 62 = .ok (.iload_n 3, 1) := by decide +kernel
theorem dX7_ask_63 : decode cX7_ask 63 = .ok (.ifCond .eq 11, 3) := by decide +kernel
theorem dX7_ask_66 : decode cX7_ask 66 = .ok (.aload_n 0, 1) := by decide +kernel
theorem dX7_ask_67 : decode cX7_ask 67 = .ok (.iload_n 1, 1) := by decide +kernel
theorem dX7_ask_68 : decode cX7_ask 68 = .ok (.invokevirtual 221, 3) := by decide +kernel
theorem dX7_ask_71 : decode cX7_ask 71 = .ok (.goto 8, 3) := by decide +kernel
theorem dX7_ask_74 : decode cX7_ask 74 = .ok (.aload_n 0, 1) := by decide +kernel
theorem dX7_ask_75 : decode cX7_ask 75 = .ok (.iload_n 1, 1) := by decide +kernel
theorem dX7_ask_76 : decode cX7_ask 76 = .ok (.invokevirtual 212, 3) := by decide +kernel
theorem dX7_ask_79 : decode cX7_ask 79 = .ok (.ireturn, 1) := by decide +kernel
set_option maxRecDepth 20000 in
theorem ggX7_trace_X7_in : GoodIn wsX7_trace wsX7_in := goodIn_r _ [7] (by decide +kernel) (by decide +kernel)
set_option maxRecDepth 20000 in
theorem gX7_trace_X7_in : GoodIn wsX7_trace (va_wsS RX7 56 yX7_in wsX7_in) := goodIn_app (goodIn_of _ (by decide +kernel)) ggX7_trace_X7_in
theorem dX7_trace_0 : decode cX7_trace 0 = .ok (.iload_n 1, 1) := by decide +kernel
theorem dX7_trace_1 : decode cX7_trace 1 = .ok (.iconst 0, 1) := by decide +kernel
theorem dX7_trace_2 : decode cX7_trace 2 = .ok (.aload_n 0, 1) := by decide +kernel
theorem dX7_trace_3 : decode cX7_trace 3 = .ok (.getfield 205, 3) := by decide +kernel
theorem dX7_trace_6 : decode cX7_trace 6 = .ok (.iconst 1, 1) := by decide +kernel
theorem dX7_trace_7 : decode cX7_trace 7 = .ok (.isub, 1) := by decide +kernel
theorem dX7_trace_8 : decode cX7_trace 8 = .ok (.invokestatic 56, 3) := by decide +kernel
theorem dX7_trace_11 : decode cX7_trace 11 = .ok (.ifCond .eq 12, 3) := by decide +kernel
theorem dX7_trace_14 : decode cX7_trace 14 = .ok (.aload_n 0, 1) := by decide +kernel
theorem dX7_trace_15 : decode cX7_trace 15 = .ok (.getfield 47, 3) := by decide +kernel
theorem dX7_trace_18 : decode cX7_trace 18 = .ok (.iload_n 1, 1) := by decide +kernel
theorem dX7_trace_19 : decode cX7_trace 19 = .ok (.iaload, 1) := by decide +kernel
theorem dX7_trace_20 : decode cX7_trace 20 = .ok (.goto 5, 3) := by decide +kernel
theorem dX7_trace_23 : decode cX7_trace 23 = .ok (.ldc 50, 2) := by decide +kernel
theorem dX7_trace_25 : decode cX7_trace 25 = .ok (.ireturn, 1) := by decide +kernel
set_option maxRecDepth 20000 in
theorem ggX7_count_X7_isMissing : GoodIn wsX7_count wsX7_isMissing := goodIn_r _ [9, 10, 11, 12, 13, 14, 15, 16, 17, 18, 19, 20, 21, 22, 23, 24, 25, 26, 27, 28, 29, 30, 31, 32, 33, 34] (by decide +kernel) (by decide +kernel)
set_option maxRecDepth 20000 in
theorem gX7_count_X7_isMissing : GoodIn wsX7_count (wsV RX7 72 RX7 yX7_isMissing wsX7_isMissing) := goodIn_app (goodIn_of _ (by decide +kernel)) ggX7_count_X7_isMissing
theorem dX7_count_0 : decode cX7_count 0 = .ok (.iconst 0, 1) := by decide +kernel
theorem dX7_count_1 : decode cX7_count 1 = .ok (.istore_n 2, 1) := by decide +kernel
theorem dX7_count_2 : decode cX7_count 2 = .ok (.iload_n 1, 1) := by decide +kernel
theorem dX7_count_3 : decode cX7_count 3 = .ok (.tableswitch 122 0 7 #[45, 77, 84, 91, 98, 105, 112, 117], 45) := by decide +kernel
theorem dX7_count_48 : decode cX7_count 48 = .ok (.iconst 0, 1) := by decide +kernel
theorem dX7_count_49 : decode cX7_count 49 = .ok (.istore_n 3, 1) := by decide +kernel
theorem dX7_count_50 : decode cX7_count 50 = .ok (.iload_n 3, 1) := by decide +kernel
theorem dX7_count_51 : decode cX7_count 51 = .ok (.bipush 8, 2) := by decide +kernel
theorem dX7_count_53 : decode cX7_count 53 = .ok (.if_icmp .ge 25, 3) := by decide +kernel
theorem dX7_count_56 : decode cX7_count 56 = .ok (.iload_n 2, 1) := by decide +kernel
theorem dX7_count_57 : decode cX7_count 57 = .ok (.aload_n 0, 1) := by decide +kernel
theorem dX7_count_58 : decode cX7_count 58 = .ok (.iload_n 3, 1) := by decide +kernel
theorem dX7_count_59 : decode cX7_count 59 = .ok (.invokevirtual 72, 3) := by decide +kernel
theorem dX7_count_62 : decode cX7_count 62 = .ok (.ifCond .eq 7, 3) := by decide +kernel
theorem dX7_count_65 : decode cX7_count 65 = .ok (.iconst 0, 1) := by decide +kernel
theorem dX7_count_66 : decode cX7_count 66 = .ok (.goto 4, 3) := by decide +kernel
theorem dX7_count_69 : decode cX7_count 69 = .ok (.iconst 1, 1) := by decide +kernel
theorem dX7_count_70 : decode cX7_count 70 = .ok (.iadd, 1) := by decide +kernel
theorem dX7_count_71 : decode cX7_count 71 = .ok (.istore_n 2, 1) := by decide +kernel
theorem dX7_count_72 : decode cX7_count 72 = .ok (.iinc 3 1, 3) := by decide +kernel
theorem dX7_count_75 : decode cX7_count 75 = .ok (.goto (-25), 3) := by decide +kernel
theorem dX7_count_78 : decode cX7_count 78 = .ok (.iload_n 2, 1) := by decide +kernel
theorem dX7_count_79 : decode cX7_count 79 = .ok (.ireturn, 1) := by decide +kernel
theorem dX7_count_80 : decode cX7_count 80 = .ok (.aload_n 0, 1) := by decide +kernel
theorem dX7_count_81 : decode cX7_count 81 = .ok (.getfield 25, 3) := by decide +kernel
theorem dX7_count_84 : decode cX7_count 84 = .ok (.iconst 4, 1) := by decide +kernel
theorem dX7_count_85 : decode cX7_count 85 = .ok (.iaload, 1) := by decide +kernel
theorem dX7_count_86 : decode cX7_count 86 = .ok (.ireturn, 1) := by decide +kernel
theorem dX7_count_87 : decode cX7_count 87 = .ok (.aload_n 0, 1) := by decide +kernel
theorem dX7_count_88 : decode cX7_count 88 = .ok (.getfield 25, 3) := by decide +kernel
theorem dX7_count_91 : decode cX7_count 91 = .ok (.iconst 0, 1) := by decide +kernel
theorem dX7_count_92 : decode cX7_count 92 = .ok (.iaload, 1) := by decide +kernel
theorem dX7_count_93 : decode cX7_count 93 = .ok (.ireturn, 1) := by decide +kernel
theorem dX7_count_94 : decode cX7_count 94 = .ok (.aload_n 0, 1) := by decide +kernel
theorem dX7_count_95 : decode cX7_count 95 = .ok (.getfield 25, 3) := by decide +kernel
theorem dX7_count_98 : decode cX7_count 98 = .ok (.iconst 2, 1) := by decide +kernel
theorem dX7_count_99 : decode cX7_count 99 = .ok (.iaload, 1) := by decide +kernel
theorem dX7_count_100 : decode cX7_count 100 = .ok (.ireturn, 1) := by decide +kernel
theorem dX7_count_101 : decode cX7_count 101 = .ok (.aload_n 0, 1) := by decide +kernel
theorem dX7_count_102 : decode cX7_count 102 = .ok (.getfield 25, 3) := by decide +kernel
theorem dX7_count_105 : decode cX7_count 105 = .ok (.iconst 1, 1) := by decide +kernel
theorem dX7_count_106 : decode cX7_count 106 = .ok (.iaload, 1) := by decide +kernel
theorem dX7_count_107 : decode cX7_count 107 = .ok (.ireturn, 1) := by decide +kernel
theorem dX7_count_108 : decode cX7_count 108 = .ok (.aload_n 0, 1) := by decide +kernel
theorem dX7_count_109 : decode cX7_count 109 = .ok (.getfield 25, 3) := by decide +kernel
theorem dX7_count_112 : decode cX7_count 112 = .ok (.iconst 3, 1) := by decide +kernel
theorem dX7_count_113 : decode cX7_count 113 = .ok (.iaload, 1) := by decide +kernel
theorem dX7_count_114 : decode cX7_count 114 = .ok (.ireturn, 1) := by decide +kernel
theorem dX7_count_115 : decode cX7_count 115 = .ok (.aload_n 0, 1) := by decide +kernel
theorem dX7_count_116 : decode cX7_count 116 = .ok (.getfield 135, 3) := by decide +kernel
theorem dX7_count_119 : decode cX7_count 119 = .ok (.ireturn, 1) := by decide +kernel
theorem dX7_count_120 : decode cX7_count 120 = .ok (.aload_n 0, 1) := by decide +kernel
theorem dX7_count_121 : decode cX7_count 121 = .ok (.getfield 82, 3) := by decide +kernel
theorem dX7_count_124 : decode cX7_count 124 = .ok (.ireturn, 1) := by decide +kernel
theorem dX7_count_125 : decode cX7_count 125 = .ok (.ldc 64, 2) := by decide +kernel
theorem dX7_count_127 : decode cX7_count 127 = .ok (.ireturn, 1) := by decide +kernel
theorem dX7_status_0 : decode cX7_status 0 = .ok (.aload_n 0, 1) := by decide +kernel
theorem dX7_status_1 : decode cX7_status 1 = .ok (.getfield 51, 3) := by decide +kernel
theorem dX7_status_4 : decode cX7_status 4 = .ok (.ireturn, 1) := by decide +kernel
theorem dJ6_numberOfTrailingZeros_0f7a4_0 : decode cJ6_numberOfTrailingZeros_0f7a4 0 = .ok (.iload_n 0, 1) := by decide +kernel
theorem dJ6_numberOfTrailingZeros_0f7a4_1 : decode cJ6_numberOfTrailingZeros_0f7a4 1 = .ok (.iconst (-1), 1) := by decide +kernel
theorem dJ6_numberOfTrailingZeros_0f7a4_2 : decode cJ6_numberOfTrailingZeros_0f7a4 2 = .ok (.ixor, 1) := by decide +kernel
theorem dJ6_numberOfTrailingZeros_0f7a4_3 : decode cJ6_numberOfTrailingZeros_0f7a4 3 = .ok (.iload_n 0, 1) := by decide +kernel
theorem dJ6_numberOfTrailingZeros_0f7a4_4 : decode cJ6_numberOfTrailingZeros_0f7a4 4 = .ok (.iconst 1, 1) := by decide +kernel
theorem dJ6_numberOfTrailingZeros_0f7a4_5 : decode cJ6_numberOfTrailingZeros_0f7a4 5 = .ok (.isub, 1) := by decide +kernel
theorem dJ6_numberOfTrailingZeros_0f7a4_6 : decode cJ6_numberOfTrailingZeros_0f7a4 6 = .ok (.iand, 1) := by decide +kernel
theorem dJ6_numberOfTrailingZeros_0f7a4_7 : decode cJ6_numberOfTrailingZeros_0f7a4 7 = .ok (.istore_n 0, 1) := by decide +kernel
theorem dJ6_numberOfTrailingZeros_0f7a4_8 : decode cJ6_numberOfTrailingZeros_0f7a4 8 = .ok (.iload_n 0, 1) := by decide +kernel
theorem dJ6_numberOfTrailingZeros_0f7a4_9 : decode cJ6_numberOfTrailingZeros_0f7a4 9 = .ok (.ifCond .gt 8, 3) := by decide +kernel
theorem dJ6_numberOfTrailingZeros_0f7a4_12 : decode cJ6_numberOfTrailingZeros_0f7a4 12 = .ok (.iload_n 0, 1) := by decide +kernel
theorem dJ6_numberOfTrailingZeros_0f7a4_13 : decode cJ6_numberOfTrailingZeros_0f7a4 13 = .ok (.bipush 32, 2) := by decide +kernel
theorem dJ6_numberOfTrailingZeros_0f7a4_15 : decode cJ6_numberOfTrailingZeros_0f7a4 15 = .ok (.iand, 1) := by decide +kernel
theorem dJ6_numberOfTrailingZeros_0f7a4_16 : decode cJ6_numberOfTrailingZeros_0f7a4 16 = .ok (.ireturn, 1) := by decide +kernel
theorem dJ6_numberOfTrailingZeros_0f7a4_17 : decode cJ6_numberOfTrailingZeros_0f7a4 17 = .ok (.iconst 1, 1) := by decide +kernel
theorem dJ6_numberOfTrailingZeros_0f7a4_18 : decode cJ6_numberOfTrailingZeros_0f7a4 18 = .ok (.istore_n 1, 1) := by decide +kernel
theorem dJ6_numberOfTrailingZeros_0f7a4_19 : decode cJ6_numberOfTrailingZeros_0f7a4 19 = .ok (.iload_n 0, 1) := by decide +kernel
theorem dJ6_numberOfTrailingZeros_0f7a4_20 : decode cJ6_numberOfTrailingZeros_0f7a4 20 = .ok (.ldc_w 264, 3) := by decide +kernel
theorem dJ6_numberOfTrailingZeros_0f7a4_23 : decode cJ6_numberOfTrailingZeros_0f7a4 23 = .ok (.if_icmp .le 11, 3) := by decide +kernel
theorem dJ6_numberOfTrailingZeros_0f7a4_26 : decode cJ6_numberOfTrailingZeros_0f7a4 26 = .ok (.iinc 1 16, 3) := by decide +kernel
theorem dJ6_numberOfTrailingZeros_0f7a4_29 : decode cJ6_numberOfTrailingZeros_0f7a4 29 = .ok (.iload_n 0, 1) := by decide +kernel
theorem dJ6_numberOfTrailingZeros_0f7a4_30 : decode cJ6_numberOfTrailingZeros_0f7a4 30 = .ok (.bipush 16, 2) := by decide +kernel
theorem dJ6_numberOfTrailingZeros_0f7a4_32 : decode cJ6_numberOfTrailingZeros_0f7a4 32 = .ok (.iushr, 1) := by decide +kernel
theorem dJ6_numberOfTrailingZeros_0f7a4_33 : decode cJ6_numberOfTrailingZeros_0f7a4 33 = .ok (.istore_n 0, 1) := by decide +kernel
theorem dJ6_numberOfTrailingZeros_0f7a4_34 : decode cJ6_numberOfTrailingZeros_0f7a4 34 = .ok (.iload_n 0, 1) := by decide +kernel
theorem dJ6_numberOfTrailingZeros_0f7a4_35 : decode cJ6_numberOfTrailingZeros_0f7a4 35 = .ok (.sipush 256, 3) := by decide +kernel
theorem dJ6_numberOfTrailingZeros_0f7a4_38 : decode cJ6_numberOfTrailingZeros_0f7a4 38 = .ok (.if_icmp .le 11, 3) := by decide +kernel
theorem dJ6_numberOfTrailingZeros_0f7a4_41 : decode cJ6_numberOfTrailingZeros_0f7a4 41 = .ok (.iinc 1 8, 3) := by decide +kernel
theorem dJ6_numberOfTrailingZeros_0f7a4_44 : decode cJ6_numberOfTrailingZeros_0f7a4 44 = .ok (.iload_n 0, 1) := by decide +kernel
theorem dJ6_numberOfTrailingZeros_0f7a4_45 : decode cJ6_numberOfTrailingZeros_0f7a4 45 = .ok (.bipush 8, 2) := by decide +kernel
theorem dJ6_numberOfTrailingZeros_0f7a4_47 : decode cJ6_numberOfTrailingZeros_0f7a4 47 = .ok (.iushr, 1) := by decide +kernel
theorem dJ6_numberOfTrailingZeros_0f7a4_48 : decode cJ6_numberOfTrailingZeros_0f7a4 48 = .ok (.istore_n 0, 1) := by decide +kernel
theorem dJ6_numberOfTrailingZeros_0f7a4_49 : decode cJ6_numberOfTrailingZeros_0f7a4 49 = .ok (.iload_n 0, 1) := by decide +kernel
theorem dJ6_numberOfTrailingZeros_0f7a4_50 : decode cJ6_numberOfTrailingZeros_0f7a4 50 = .ok (.bipush 16, 2) := by decide +kernel
theorem dJ6_numberOfTrailingZeros_0f7a4_52 : decode cJ6_numberOfTrailingZeros_0f7a4 52 = .ok (.if_icmp .le 10, 3) := by decide +kernel
theorem dJ6_numberOfTrailingZeros_0f7a4_55 : decode cJ6_numberOfTrailingZeros_0f7a4 55 = .ok (.iinc 1 4, 3) := by decide +kernel
theorem dJ6_numberOfTrailingZeros_0f7a4_58 : decode cJ6_numberOfTrailingZeros_0f7a4 58 = .ok (.iload_n 0, 1) := by decide +kernel
theorem dJ6_numberOfTrailingZeros_0f7a4_59 : decode cJ6_numberOfTrailingZeros_0f7a4 59 = .ok (.iconst 4, 1) := by decide +kernel
theorem dJ6_numberOfTrailingZeros_0f7a4_60 : decode cJ6_numberOfTrailingZeros_0f7a4 60 = .ok (.iushr, 1) := by decide +kernel
theorem dJ6_numberOfTrailingZeros_0f7a4_61 : decode cJ6_numberOfTrailingZeros_0f7a4 61 = .ok (.istore_n 0, 1) := by decide +kernel
theorem dJ6_numberOfTrailingZeros_0f7a4_62 : decode cJ6_numberOfTrailingZeros_0f7a4 62 = .ok (.iload_n 0, 1) := by decide +kernel
theorem dJ6_numberOfTrailingZeros_0f7a4_63 : decode cJ6_numberOfTrailingZeros_0f7a4 63 = .ok (.iconst 4, 1) := by decide +kernel
theorem dJ6_numberOfTrailingZeros_0f7a4_64 : decode cJ6_numberOfTrailingZeros_0f7a4 64 = .ok (.if_icmp .le 10, 3) := by decide +kernel
theorem dJ6_numberOfTrailingZeros_0f7a4_67 : decode cJ6_numberOfTrailingZeros_0f7a4 67 = .ok (.iinc 1 2, 3) := by decide +kernel
theorem dJ6_numberOfTrailingZeros_0f7a4_70 : decode cJ6_numberOfTrailingZeros_0f7a4 70 = .ok (.iload_n 0, 1) := by decide +kernel
theorem dJ6_numberOfTrailingZeros_0f7a4_71 : decode cJ6_numberOfTrailingZeros_0f7a4 71 = .ok (.iconst 2, 1) := by decide +kernel
theorem dJ6_numberOfTrailingZeros_0f7a4_72 : decode cJ6_numberOfTrailingZeros_0f7a4 72 = .ok (.iushr, 1) := by decide +kernel
theorem dJ6_numberOfTrailingZeros_0f7a4_73 : decode cJ6_numberOfTrailingZeros_0f7a4 73 = .ok (.istore_n 0, 1) := by decide +kernel
theorem dJ6_numberOfTrailingZeros_0f7a4_74 : decode cJ6_numberOfTrailingZeros_0f7a4 74 = .ok (.iload_n 1, 1) := by decide +kernel
theorem dJ6_numberOfTrailingZeros_0f7a4_75 : decode cJ6_numberOfTrailingZeros_0f7a4 75 = .ok (.iload_n 0, 1) := by decide +kernel
theorem dJ6_numberOfTrailingZeros_0f7a4_76 : decode cJ6_numberOfTrailingZeros_0f7a4 76 = .ok (.iconst 1, 1) := by decide +kernel
theorem dJ6_numberOfTrailingZeros_0f7a4_77 : decode cJ6_numberOfTrailingZeros_0f7a4 77 = .ok (.iushr, 1) := by decide +kernel
theorem dJ6_numberOfTrailingZeros_0f7a4_78 : decode cJ6_numberOfTrailingZeros_0f7a4 78 = .ok (.iadd, 1) := by decide +kernel
theorem dJ6_numberOfTrailingZeros_0f7a4_79 : decode cJ6_numberOfTrailingZeros_0f7a4 79 = .ok (.ireturn, 1) := by decide +kernel
theorem dJ6_bitCount_0f7a4_0 : decode cJ6_bitCount_0f7a4 0 = .ok (.iload_n 0, 1) := by decide +kernel
theorem dJ6_bitCount_0f7a4_1 : decode cJ6_bitCount_0f7a4 1 = .ok (.iload_n 0, 1) := by decide +kernel
theorem dJ6_bitCount_0f7a4_2 : decode cJ6_bitCount_0f7a4 2 = .ok (.iconst 1, 1) := by decide +kernel
theorem dJ6_bitCount_0f7a4_3 : decode cJ6_bitCount_0f7a4 3 = .ok (.iushr, 1) := by decide +kernel
theorem dJ6_bitCount_0f7a4_4 : decode cJ6_bitCount_0f7a4 4 = .ok (.ldc_w 265, 3) := by decide +kernel
theorem dJ6_bitCount_0f7a4_7 : decode cJ6_bitCount_0f7a4 7 = .ok (.iand, 1) := by decide +kernel
theorem dJ6_bitCount_0f7a4_8 : decode cJ6_bitCount_0f7a4 8 = .ok (.isub, 1) := by decide +kernel
theorem dJ6_bitCount_0f7a4_9 : decode cJ6_bitCount_0f7a4 9 = .ok (.istore_n 0, 1) := by decide +kernel
theorem dJ6_bitCount_0f7a4_10 : decode cJ6_bitCount_0f7a4 10 = .ok (.iload_n 0, 1) := by decide +kernel
theorem dJ6_bitCount_0f7a4_11 : decode cJ6_bitCount_0f7a4 11 = .ok (.ldc_w 266, 3) := by decide +kernel
theorem dJ6_bitCount_0f7a4_14 : decode cJ6_bitCount_0f7a4 14 = .ok (.iand, 1) := by decide +kernel
theorem dJ6_bitCount_0f7a4_15 : decode cJ6_bitCount_0f7a4 15 = .ok (.iload_n 0, 1) := by decide +kernel
theorem dJ6_bitCount_0f7a4_16 : decode cJ6_bitCount_0f7a4 16 = .ok (.iconst 2, 1) := by decide +kernel
theorem dJ6_bitCount_0f7a4_17 : decode cJ6_bitCount_0f7a4 17 = .ok (.iushr, 1) := by decide +kernel
theorem dJ6_bitCount_0f7a4_18 : decode cJ6_bitCount_0f7a4 18 = .ok (.ldc_w 266, 3) := by decide +kernel
theorem dJ6_bitCount_0f7a4_21 : decode cJ6_bitCount_0f7a4 21 = .ok (.iand, 1) := by decide +kernel
theorem dJ6_bitCount_0f7a4_22 : decode cJ6_bitCount_0f7a4 22 = .ok (.iadd, 1) := by decide +kernel
theorem dJ6_bitCount_0f7a4_23 : decode cJ6_bitCount_0f7a4 23 = .ok (.istore_n 0, 1) := by decide +kernel
theorem dJ6_bitCount_0f7a4_24 : decode cJ6_bitCount_0f7a4 24 = .ok (.iload_n 0, 1) := by decide +kernel
theorem dJ6_bitCount_0f7a4_25 : decode cJ6_bitCount_0f7a4 25 = .ok (.iload_n 0, 1) := by decide +kernel
theorem dJ6_bitCount_0f7a4_26 : decode cJ6_bitCount_0f7a4 26 = .ok (.iconst 4, 1) := by decide +kernel
theorem dJ6_bitCount_0f7a4_27 : decode cJ6_bitCount_0f7a4 27 = .ok (.iushr, 1) := by decide +kernel
theorem dJ6_bitCount_0f7a4_28 : decode cJ6_bitCount_0f7a4 28 = .ok (.iadd, 1) := by decide +kernel
theorem dJ6_bitCount_0f7a4_29 : decode cJ6_bitCount_0f7a4 29 = .ok (.ldc_w 267, 3) := by decide +kernel
theorem dJ6_bitCount_0f7a4_32 : decode cJ6_bitCount_0f7a4 32 = .ok (.iand, 1) := by decide +kernel
theorem dJ6_bitCount_0f7a4_33 : decode cJ6_bitCount_0f7a4 33 = .ok (.istore_n 0, 1) := by decide +kernel
theorem dJ6_bitCount_0f7a4_34 : decode cJ6_bitCount_0f7a4 34 = .ok (.iload_n 0, 1) := by decide +kernel
theorem dJ6_bitCount_0f7a4_35 : decode cJ6_bitCount_0f7a4 35 = .ok (.iload_n 0, 1) := by decide +kernel
theorem dJ6_bitCount_0f7a4_36 : decode cJ6_bitCount_0f7a4 36 = .ok (.bipush 8, 2) := by decide +kernel
theorem dJ6_bitCount_0f7a4_38 : decode cJ6_bitCount_0f7a4 38 = .ok (.iushr, 1) := by decide +kernel
theorem dJ6_bitCount_0f7a4_39 : decode cJ6_bitCount_0f7a4 39 = .ok (.iadd, 1) := by decide +kernel
theorem dJ6_bitCount_0f7a4_40 : decode cJ6_bitCount_0f7a4 40 = .ok (.istore_n 0, 1) := by decide +kernel
theorem dJ6_bitCount_0f7a4_41 : decode cJ6_bitCount_0f7a4 41 = .ok (.iload_n 0, 1) := by decide +kernel
theorem dJ6_bitCount_0f7a4_42 : decode cJ6_bitCount_0f7a4 42 = .ok (.iload_n 0, 1) := by decide +kernel
theorem dJ6_bitCount_0f7a4_43 : decode cJ6_bitCount_0f7a4 43 = .ok (.bipush 16, 2) := by decide +kernel
theorem dJ6_bitCount_0f7a4_45 : decode cJ6_bitCount_0f7a4 45 = .ok (.iushr, 1) := by decide +kernel
theorem dJ6_bitCount_0f7a4_46 : decode cJ6_bitCount_0f7a4 46 = .ok (.iadd, 1) := by decide +kernel
theorem dJ6_bitCount_0f7a4_47 : decode cJ6_bitCount_0f7a4 47 = .ok (.istore_n 0, 1) := by decide +kernel
theorem dJ6_bitCount_0f7a4_48 : decode cJ6_bitCount_0f7a4 48 = .ok (.iload_n 0, 1) := by decide +kernel
theorem dJ6_bitCount_0f7a4_49 : decode cJ6_bitCount_0f7a4 49 = .ok (.bipush 63, 2) := by decide +kernel
theorem dJ6_bitCount_0f7a4_51 : decode cJ6_bitCount_0f7a4 51 = .ok (.iand, 1) := by decide +kernel
theorem dJ6_bitCount_0f7a4_52 : decode cJ6_bitCount_0f7a4 52 = .ok (.ireturn, 1) := by decide +kernel
theorem dJ9_max_7cf53_0 : decode cJ9_max_7cf53 0 = .ok (.iload_n 0, 1) := by decide +kernel
theorem dJ9_max_7cf53_1 : decode cJ9_max_7cf53 1 = .ok (.iload_n 1, 1) := by decide +kernel
theorem dJ9_max_7cf53_2 : decode cJ9_max_7cf53 2 = .ok (.if_icmp .lt 7, 3) := by decide +kernel
theorem dJ9_max_7cf53_5 : decode cJ9_max_7cf53 5 = .ok (.iload_n 0, 1) := by decide +kernel
theorem dJ9_max_7cf53_6 : decode cJ9_max_7cf53 6 = .ok (.goto 4, 3) := by decide +kernel
theorem dJ9_max_7cf53_9 : decode cJ9_max_7cf53 9 = .ok (.iload_n 1, 1) := by decide +kernel
theorem dJ9_max_7cf53_10 : decode cJ9_max_7cf53 10 = .ok (.ireturn, 1) := by decide +kernel
theorem dJ9_min_7cf53_0 : decode cJ9_min_7cf53 0 = .ok (.iload_n 0, 1) := by decide +kernel
theorem dJ9_min_7cf53_1 : decode cJ9_min_7cf53 1 = .ok (.iload_n 1, 1) := by decide +kernel
theorem dJ9_min_7cf53_2 : decode cJ9_min_7cf53 2 = .ok (.if_icmp .gt 7, 3) := by decide +kernel
theorem dJ9_min_7cf53_5 : decode cJ9_min_7cf53 5 = .ok (.iload_n 0, 1) := by decide +kernel
theorem dJ9_min_7cf53_6 : decode cJ9_min_7cf53 6 = .ok (.goto 4, 3) := by decide +kernel
theorem dJ9_min_7cf53_9 : decode cJ9_min_7cf53 9 = .ok (.iload_n 1, 1) := by decide +kernel
theorem dJ9_min_7cf53_10 : decode cJ9_min_7cf53 10 = .ok (.ireturn, 1) := by decide +kernel
theorem dJ7_fill_53178_0 : decode cJ7_fill_53178 0 = .ok (.iconst 0, 1) := by decide +kernel
theorem dJ7_fill_53178_1 : decode cJ7_fill_53178 1 = .ok (.istore_n 2, 1) := by decide +kernel
theorem dJ7_fill_53178_2 : decode cJ7_fill_53178 2 = .ok (.aload_n 0, 1) := by decide +kernel
theorem dJ7_fill_53178_3 : decode cJ7_fill_53178 3 = .ok (.arraylength, 1) := by decide +kernel
theorem dJ7_fill_53178_4 : decode cJ7_fill_53178 4 = .ok (.istore_n 3, 1) := by decide +kernel
theorem dJ7_fill_53178_5 : decode cJ7_fill_53178 5 = .ok (.iload_n 2, 1) := by decide +kernel
theorem dJ7_fill_53178_6 : decode cJ7_fill_53178 6 = .ok (.iload_n 3, 1) := by decide +kernel
theorem dJ7_fill_53178_7 : decode cJ7_fill_53178 7 = .ok (.if_icmp .ge 13, 3) := by decide +kernel
theorem dJ7_fill_53178_10 : decode cJ7_fill_53178 10 = .ok (.aload_n 0, 1) := by decide +kernel
theorem dJ7_fill_53178_11 : decode cJ7_fill_53178 11 = .ok (.iload_n 2, 1) := by decide +kernel
theorem dJ7_fill_53178_12 : decode cJ7_fill_53178 12 = .ok (.iload_n 1, 1) := by decide +kernel
theorem dJ7_fill_53178_13 : decode cJ7_fill_53178 13 = .ok (.iastore, 1) := by decide +kernel
theorem dJ7_fill_53178_14 : decode cJ7_fill_53178 14 = .ok (.iinc 2 1, 3) := by decide +kernel
theorem dJ7_fill_53178_17 : decode cJ7_fill_53178 17 = .ok (.goto (-12), 3) := by decide +kernel
theorem dJ7_fill_53178_20 : decode cJ7_fill_53178 20 = .ok (.return_, 1) := by decide +kernel
set_option maxRecDepth 20000 in
theorem ggL_law_X6_init : GoodIn wsL_law wsX6_init := goodIn_r _ [8, 9, 10, 11, 12, 13, 14, 15, 16, 17, 18, 19, 20, 21, 22, 23, 24, 25, 26, 27, 28, 29, 30, 31, 32, 33, 34, 35, 36, 37, 38, 39, 40, 41, 42, 43, 44, 45, 46, 47, 48, 49, 50, 51, 52, 53, 54, 55, 56, 57, 58, 59, 60, 61, 62, 63, 64, 65, 66, 67, 68, 69, 70, 71, 72, 73, 74, 75, 76, 77, 78, 79, 872, 873, 874, 840, 841, 842, 843, 844, 845, 846, 847, 848, 875, 876, 877, 878, 879, 880, 881, 882, 883, 884, 885, 886, 887, 888, 889, 890, 891, 892, 893, 894, 895, 896, 897, 898, 899] (by decide +kernel) (by decide +kernel)
set_option maxRecDepth 20000 in
theorem gL_law_X6_init : GoodIn wsL_law (wsX6_init) := ggL_law_X6_init
set_option maxRecDepth 20000 in
theorem ggL_law_X7_init : GoodIn wsL_law wsX7_init := goodIn_r _ [82, 83, 10, 11, 42, 84, 85, 86, 87, 88, 89, 90, 91, 92, 93, 94, 95, 96, 97, 98, 849, 850, 851, 852, 853, 854, 855, 856, 857, 858, 859, 860, 861, 862, 863, 864, 865, 866, 867, 868, 869, 870, 871] (by decide +kernel) (by decide +kernel)
set_option maxRecDepth 20000 in
theorem gL_law_X7_init : GoodIn wsL_law (wsX7_init) := ggL_law_X7_init
set_option maxRecDepth 20000 in
theorem ggL_law_X6_row : GoodIn wsL_law wsX6_row := goodIn_r _ [102, 15, 103, 104, 105, 106, 14, 107, 108, 109, 2, 110, 111, 112, 113, 114, 115, 116, 117, 118, 119, 120, 43, 44, 46, 47, 48, 49, 50, 121, 122, 123, 124, 840, 841, 842, 843, 844, 845, 846, 847, 848, 872, 873, 874] (by decide +kernel) (by decide +kernel)
set_option maxRecDepth 20000 in
theorem gL_law_X6_row : GoodIn wsL_law (wsV RL 13 RX6 yX6_row wsX6_row) := goodIn_app (goodIn_of _ (by decide +kernel)) ggL_law_X6_row
set_option maxRecDepth 20000 in
theorem ggL_law_X7_row : GoodIn wsL_law wsX7_row := goodIn_r _ [128, 129, 84, 85, 86, 130, 131, 5, 132, 133, 134, 135, 136, 137, 138, 139, 140, 141, 142, 143, 144, 145, 849, 850, 851, 852, 853, 854, 855, 856, 857, 858, 859, 860, 861, 862, 863, 864, 865, 866, 867, 868, 869, 870, 871] (by decide +kernel) (by decide +kernel)
set_option maxRecDepth 20000 in
theorem gL_law_X7_row : GoodIn wsL_law (wsV RL 17 RX7 yX7_row wsX7_row) := goodIn_app (goodIn_of _ (by decide +kernel)) ggL_law_X7_row
set_option maxRecDepth 20000 in
theorem ggL_law_X6_set : GoodIn wsL_law wsX6_set := goodIn_r _ [149, 15, 103, 104, 105, 106, 14, 107, 150, 151, 152, 153, 43, 111, 112, 113, 2, 114, 115, 116, 154, 155, 156, 157, 44, 158, 159, 160, 161, 46, 162, 163, 164, 121, 122, 123, 124, 840, 841, 842, 843, 844, 845, 846, 847, 848, 872, 873, 874] (by decide +kernel) (by decide +kernel)
set_option maxRecDepth 20000 in
theorem gL_law_X6_set : GoodIn wsL_law (wsV RL 18 RX6 yX6_set wsX6_set) := goodIn_app (goodIn_of _ (by decide +kernel)) ggL_law_X6_set
set_option maxRecDepth 20000 in
theorem ggL_law_X7_set : GoodIn wsL_law wsX7_set := goodIn_r _ [168, 129, 85, 86, 84, 130, 131, 5, 132, 133, 134, 135, 169, 170, 171, 172, 98, 136, 137, 138, 139, 140, 141, 173, 174, 175, 142, 143, 144, 145, 849, 850, 851, 852, 853, 854, 855, 856, 857, 858, 859, 860, 861, 862, 863, 864, 865, 866, 867, 868, 869, 870, 871] (by decide +kernel) (by decide +kernel)
set_option maxRecDepth 20000 in
theorem gL_law_X7_set : GoodIn wsL_law (wsV RL 21 RX7 yX7_set wsX7_set) := goodIn_app (goodIn_of _ (by decide +kernel)) ggL_law_X7_set
set_option maxRecDepth 20000 in
theorem ggL_law_X6_copy : GoodIn wsL_law wsX6_copy := goodIn_r _ [179, 15, 103, 104, 105, 106, 14, 107, 150, 151, 152, 153, 43, 111, 112, 113, 2, 114, 115, 116, 180, 181, 182, 183, 154, 155, 156, 157, 44, 184, 185, 186, 187, 46, 188, 189, 190, 191, 121, 122, 123, 124, 840, 841, 842, 843, 844, 845, 846, 847, 848, 872, 873, 874] (by decide +kernel) (by decide +kernel)
set_option maxRecDepth 20000 in
theorem gL_law_X6_copy : GoodIn wsL_law (wsV RL 22 RX6 yX6_copy wsX6_copy) := goodIn_app (goodIn_of _ (by decide +kernel)) ggL_law_X6_copy
set_option maxRecDepth 20000 in
theorem ggL_law_X7_copy : GoodIn wsL_law wsX7_copy := goodIn_r _ [195, 129, 84, 87, 86, 130, 131, 5, 132, 133, 134, 135, 169, 170, 171, 172, 98, 136, 137, 138, 139, 140, 141, 196, 197, 198, 199, 85, 142, 143, 144, 145, 849, 850, 851, 852, 853, 854, 855, 856, 857, 858, 859, 860, 861, 862, 863, 864, 865, 866, 867, 868, 869, 870, 871] (by decide +kernel) (by decide +kernel)
set_option maxRecDepth 20000 in
theorem gL_law_X7_copy : GoodIn wsL_law (wsV RL 26 RX7 yX7_copy wsX7_copy) := goodIn_app (goodIn_of _ (by decide +kernel)) ggL_law_X7_copy
set_option maxRecDepth 20000 in
theorem ggL_law_X6_drop : GoodIn wsL_law wsX6_drop := goodIn_r _ [203, 15, 103, 104, 105, 106, 14, 107, 150, 151, 152, 153, 43, 111, 112, 113, 2, 114, 115, 116, 204, 205, 206, 207, 44, 121, 122, 123, 124, 840, 841, 842, 843, 844, 845, 846, 847, 848, 872, 873, 874] (by decide +kernel) (by decide +kernel)
set_option maxRecDepth 20000 in
theorem gL_law_X6_drop : GoodIn wsL_law (wsV RL 27 RX6 yX6_drop wsX6_drop) := goodIn_app (goodIn_of _ (by decide +kernel)) ggL_law_X6_drop
set_option maxRecDepth 20000 in
theorem ggL_law_X7_drop : GoodIn wsL_law wsX7_drop := goodIn_r _ [211, 129, 84, 98, 85, 130, 131, 5, 132, 133, 134, 135, 169, 170, 171, 172, 136, 137, 138, 139, 140, 141, 142, 143, 144, 145, 849, 850, 851, 852, 853, 854, 855, 856, 857, 858, 859, 860, 861, 862, 863, 864, 865, 866, 867, 868, 869, 870, 871] (by decide +kernel) (by decide +kernel)
set_option maxRecDepth 20000 in
theorem gL_law_X7_drop : GoodIn wsL_law (wsV RL 31 RX7 yX7_drop wsX7_drop) := goodIn_app (goodIn_of _ (by decide +kernel)) ggL_law_X7_drop
set_option maxRecDepth 20000 in
theorem ggL_law_X6_feed : GoodIn wsL_law wsX6_feed := goodIn_r _ [215, 103, 19, 216, 108, 109, 2, 110, 217, 218, 219, 18, 220, 221, 222, 223, 224, 225, 54, 840, 841, 842, 843, 844, 845, 846, 847, 848, 875, 876, 877, 878, 879] (by decide +kernel) (by decide +kernel)
set_option maxRecDepth 20000 in
theorem gL_law_X6_feed : GoodIn wsL_law (wsV RL 32 RX6 yX6_feed wsX6_feed) := goodIn_app (goodIn_of _ (by decide +kernel)) ggL_law_X6_feed
set_option maxRecDepth 20000 in
theorem ggL_law_X7_feed : GoodIn wsL_law wsX7_feed := goodIn_r _ [229, 129, 230, 231, 88, 133, 134, 5, 135, 849, 850, 851, 852, 853, 854, 855, 856, 857, 858, 859, 860, 861, 862, 863, 864, 865, 866, 867, 868, 869, 870, 871] (by decide +kernel) (by decide +kernel)
set_option maxRecDepth 20000 in
theorem gL_law_X7_feed : GoodIn wsL_law (wsV RL 35 RX7 yX7_feed wsX7_feed) := goodIn_app (goodIn_of _ (by decide +kernel)) ggL_law_X7_feed
set_option maxRecDepth 20000 in
theorem ggL_law_X6_city : GoodIn wsL_law wsX6_city := goodIn_r _ [235, 19, 36, 236, 35, 23, 237, 238, 239, 240, 18, 241, 242, 55, 221, 243, 244, 245, 34, 246, 247, 248, 249, 250, 251, 252, 253, 254, 255, 256, 257, 258, 259, 260, 261, 54, 262, 263, 264, 265, 266, 267, 268, 269, 270, 109, 2, 110, 271, 272, 273, 274, 275, 276, 277, 278, 279, 280, 281, 282, 283, 284, 285, 286, 287, 288, 289, 290, 76, 77, 78, 79, 291, 292, 293, 294, 295, 189, 190, 191, 296, 297, 298, 22, 299, 300, 840, 841, 842, 843, 844, 845, 846, 847, 848, 891, 892, 893, 894, 895, 896, 897, 898, 899, 875, 876, 877, 878, 879, 880, 881, 882, 883, 884] (by decide +kernel) (by decide +kernel)
set_option maxRecDepth 20000 in
theorem gL_law_X6_city : GoodIn wsL_law (wsV RL 36 RX6 yX6_city wsX6_city) := goodIn_app (goodIn_of _ (by decide +kernel)) ggL_law_X6_city
set_option maxRecDepth 20000 in
theorem ggL_law_X7_city : GoodIn wsL_law wsX7_city := goodIn_r _ [304, 90, 305, 306, 307, 308, 230, 309, 89, 310, 311, 312, 313, 5, 314, 315, 316, 317, 318, 319, 88, 133, 134, 135, 320, 321, 322, 323, 324, 325, 326, 327, 328, 329, 330, 331, 332, 333, 334, 335, 336, 337, 338, 339, 340, 341, 342, 343, 344, 345, 346, 849, 850, 851, 852, 853, 854, 855, 856, 857, 858, 859, 860, 861, 862, 863, 864, 865, 866, 867, 868, 869, 870, 871] (by decide +kernel) (by decide +kernel)
set_option maxRecDepth 20000 in
theorem gL_law_X7_city : GoodIn wsL_law (wsV RL 40 RX7 yX7_city wsX7_city) := goodIn_app (goodIn_of _ (by decide +kernel)) ggL_law_X7_city
set_option maxRecDepth 20000 in
theorem ggL_law_X6_fault : GoodIn wsL_law wsX6_fault := goodIn_r _ [350, 19, 351, 352, 353, 18, 354, 266, 840, 841, 842, 843, 844, 845, 846, 847, 848, 875, 876, 877, 878, 879] (by decide +kernel) (by decide +kernel)
set_option maxRecDepth 20000 in
theorem gL_law_X6_fault : GoodIn wsL_law (wsV RL 41 RX6 yX6_fault wsX6_fault) := goodIn_app (goodIn_of _ (by decide +kernel)) ggL_law_X6_fault
set_option maxRecDepth 20000 in
theorem ggL_law_X7_fault : GoodIn wsL_law wsX7_fault := goodIn_r _ [358, 324, 849, 850, 851, 852, 853, 854, 855, 856, 857, 858, 859, 860, 861, 862, 863, 864, 865, 866, 867, 868, 869, 870, 871] (by decide +kernel) (by decide +kernel)
set_option maxRecDepth 20000 in
theorem gL_law_X7_fault : GoodIn wsL_law (wsV RL 44 RX7 yX7_fault wsX7_fault) := goodIn_app (goodIn_of _ (by decide +kernel)) ggL_law_X7_fault
set_option maxRecDepth 20000 in
theorem ggL_law_X6_days : GoodIn wsL_law wsX6_days := goodIn_r _ [362, 35, 363, 103, 364, 216, 23, 365, 366, 367, 34, 368, 247, 108, 109, 2, 110, 369, 370, 371, 22, 372, 59, 373, 60, 61, 300, 374, 375, 376, 377, 378, 379, 380, 381, 382, 383, 384, 385, 250, 386, 387, 388, 389, 76, 248, 78, 79, 390, 391, 392, 393, 394, 284, 285, 286, 395, 396, 397, 398, 399, 400, 77, 401, 402, 403, 404, 251, 840, 841, 842, 843, 844, 845, 846, 847, 848, 891, 892, 893, 894, 895, 896, 897, 898, 899, 880, 881, 882, 883, 884] (by decide +kernel) (by decide +kernel)
set_option maxRecDepth 20000 in
theorem gL_law_X6_days : GoodIn wsL_law (wsV RL 45 RX6 yX6_days wsX6_days) := goodIn_app (goodIn_of _ (by decide +kernel)) ggL_law_X6_days
set_option maxRecDepth 20000 in
theorem ggL_law_X7_days : GoodIn wsL_law wsX7_days := goodIn_r _ [408, 409, 129, 89, 231, 410, 411, 412, 5, 413, 133, 134, 135, 414, 415, 416, 417, 310, 92, 344, 345, 346, 418, 419, 420, 421, 422, 423, 424, 425, 426, 427, 428, 429, 430, 431, 432, 433, 434, 435, 436, 437, 438, 849, 850, 851, 852, 853, 854, 855, 856, 857, 858, 859, 860, 861, 862, 863, 864, 865, 866, 867, 868, 869, 870, 871] (by decide +kernel) (by decide +kernel)
set_option maxRecDepth 20000 in
theorem gL_law_X7_days : GoodIn wsL_law (wsV RL 48 RX7 yX7_days wsX7_days) := goodIn_app (goodIn_of _ (by decide +kernel)) ggL_law_X7_days
set_option maxRecDepth 20000 in
theorem ggL_law_X6_bribe : GoodIn wsL_law wsX6_bribe := goodIn_r _ [442, 35, 103, 363, 23, 443, 444, 445, 446, 34, 447, 250, 108, 109, 2, 110, 448, 402, 403, 404, 251, 395, 396, 369, 370, 371, 22, 372, 59, 373, 60, 61, 300, 374, 375, 376, 377, 840, 841, 842, 843, 844, 845, 846, 847, 848, 891, 892, 893, 894, 895, 896, 897, 898, 899, 880, 881, 882, 883, 884] (by decide +kernel) (by decide +kernel)
set_option maxRecDepth 20000 in
theorem gL_law_X6_bribe : GoodIn wsL_law (wsV RL 49 RX6 yX6_bribe wsX6_bribe) := goodIn_app (goodIn_of _ (by decide +kernel)) ggL_law_X6_bribe
set_option maxRecDepth 20000 in
theorem ggL_law_X7_bribe : GoodIn wsL_law wsX7_bribe := goodIn_r _ [452, 129, 89, 409, 453, 454, 455, 5, 456, 133, 134, 135, 414, 415, 416, 417, 310, 92, 344, 345, 346, 849, 850, 851, 852, 853, 854, 855, 856, 857, 858, 859, 860, 861, 862, 863, 864, 865, 866, 867, 868, 869, 870, 871] (by decide +kernel) (by decide +kernel)
set_option maxRecDepth 20000 in
theorem gL_law_X7_bribe : GoodIn wsL_law (wsV RL 53 RX7 yX7_bribe wsX7_bribe) := goodIn_app (goodIn_of _ (by decide +kernel)) ggL_law_X7_bribe
set_option maxRecDepth 20000 in
theorem ggL_law_X6_learn : GoodIn wsL_law wsX6_learn := goodIn_r _ [460, 35, 103, 461, 23, 444, 445, 446, 34, 447, 250, 462, 284, 285, 286, 247, 108, 109, 2, 110, 369, 370, 371, 22, 372, 59, 373, 60, 61, 300, 374, 375, 376, 377, 840, 841, 842, 843, 844, 845, 846, 847, 848, 891, 892, 893, 894, 895, 896, 897, 898, 899, 880, 881, 882, 883, 884] (by decide +kernel) (by decide +kernel)
set_option maxRecDepth 20000 in
theorem gL_law_X6_learn : GoodIn wsL_law (wsV RL 54 RX6 yX6_learn wsX6_learn) := goodIn_app (goodIn_of _ (by decide +kernel)) ggL_law_X6_learn
set_option maxRecDepth 20000 in
theorem ggL_law_X7_learn : GoodIn wsL_law wsX7_learn := goodIn_r _ [466, 89, 129, 453, 454, 455, 5, 456, 133, 134, 135, 430, 431, 432, 467, 468, 469, 470, 414, 415, 416, 417, 310, 92, 344, 345, 346, 849, 850, 851, 852, 853, 854, 855, 856, 857, 858, 859, 860, 861, 862, 863, 864, 865, 866, 867, 868, 869, 870, 871] (by decide +kernel) (by decide +kernel)
set_option maxRecDepth 20000 in
theorem gL_law_X7_learn : GoodIn wsL_law (wsV RL 57 RX7 yX7_learn wsX7_learn) := goodIn_app (goodIn_of _ (by decide +kernel)) ggL_law_X7_learn
set_option maxRecDepth 20000 in
theorem ggL_law_X6_shift : GoodIn wsL_law wsX6_shift := goodIn_r _ [474, 35, 475, 103, 476, 23, 444, 445, 446, 34, 447, 250, 108, 109, 2, 110, 369, 370, 371, 22, 372, 59, 373, 60, 61, 300, 374, 375, 376, 377, 840, 841, 842, 843, 844, 845, 846, 847, 848, 891, 892, 893, 894, 895, 896, 897, 898, 899, 880, 881, 882, 883, 884] (by decide +kernel) (by decide +kernel)
set_option maxRecDepth 20000 in
theorem gL_law_X6_shift : GoodIn wsL_law (wsV RL 58 RX6 yX6_shift wsX6_shift) := goodIn_app (goodIn_of _ (by decide +kernel)) ggL_law_X6_shift
set_option maxRecDepth 20000 in
theorem ggL_law_X7_shift : GoodIn wsL_law wsX7_shift := goodIn_r _ [480, 89, 129, 453, 454, 455, 5, 456, 133, 134, 135, 467, 468, 469, 470, 414, 415, 416, 417, 310, 92, 344, 345, 346, 849, 850, 851, 852, 853, 854, 855, 856, 857, 858, 859, 860, 861, 862, 863, 864, 865, 866, 867, 868, 869, 870, 871] (by decide +kernel) (by decide +kernel)
set_option maxRecDepth 20000 in
theorem gL_law_X7_shift : GoodIn wsL_law (wsV RL 61 RX7 yX7_shift wsX7_shift) := goodIn_app (goodIn_of _ (by decide +kernel)) ggL_law_X7_shift
set_option maxRecDepth 20000 in
theorem ggL_law_X6_undo : GoodIn wsL_law wsX6_undo := goodIn_r _ [484, 23, 363, 35, 485, 486, 487, 22, 488, 300, 489, 490, 491, 492, 373, 59, 61, 493, 494, 60, 495, 496, 840, 841, 842, 843, 844, 845, 846, 847, 848, 880, 881, 882, 883, 884, 891, 892, 893, 894, 895, 896, 897, 898, 899] (by decide +kernel) (by decide +kernel)
set_option maxRecDepth 20000 in
theorem gL_law_X6_undo : GoodIn wsL_law (wsV RL 62 RX6 yX6_undo wsX6_undo) := goodIn_app (goodIn_of _ (by decide +kernel)) ggL_law_X6_undo
set_option maxRecDepth 20000 in
theorem ggL_law_X7_undo : GoodIn wsL_law wsX7_undo := goodIn_r _ [500, 310, 409, 92, 89, 344, 345, 5, 346, 849, 850, 851, 852, 853, 854, 855, 856, 857, 858, 859, 860, 861, 862, 863, 864, 865, 866, 867, 868, 869, 870, 871] (by decide +kernel) (by decide +kernel)
set_option maxRecDepth 20000 in
theorem gL_law_X7_undo : GoodIn wsL_law (wsV RL 65 RX7 yX7_undo wsX7_undo) := goodIn_app (goodIn_of _ (by decide +kernel)) ggL_law_X7_undo
set_option maxRecDepth 20000 in
theorem ggL_law_X6_clue : GoodIn wsL_law wsX6_clue := goodIn_r _ [504, 35, 103, 461, 475, 476, 364, 444, 445, 446, 34, 447, 250, 448, 402, 403, 404, 251, 395, 2, 396, 505, 387, 388, 389, 76, 248, 78, 79, 506, 398, 399, 400, 77, 401, 394, 284, 285, 286, 247, 840, 841, 842, 843, 844, 845, 846, 847, 848, 891, 892, 893, 894, 895, 896, 897, 898, 899] (by decide +kernel) (by decide +kernel)
set_option maxRecDepth 20000 in
theorem gL_law_X6_clue : GoodIn wsL_law (wsV RL 66 RX6 yX6_clue wsX6_clue) := goodIn_app (goodIn_of _ (by decide +kernel)) ggL_law_X6_clue
set_option maxRecDepth 20000 in
theorem ggL_law_X7_clue : GoodIn wsL_law wsX7_clue := goodIn_r _ [510, 129, 89, 453, 454, 455, 5, 456, 133, 134, 135, 424, 425, 426, 436, 437, 438, 433, 434, 435, 430, 431, 432, 849, 850, 851, 852, 853, 854, 855, 856, 857, 858, 859, 860, 861, 862, 863, 864, 865, 866, 867, 868, 869, 870, 871] (by decide +kernel) (by decide +kernel)
set_option maxRecDepth 20000 in
theorem gL_law_X7_clue : GoodIn wsL_law (wsV RL 69 RX7 yX7_clue wsX7_clue) := goodIn_app (goodIn_of _ (by decide +kernel)) ggL_law_X7_clue
set_option maxRecDepth 20000 in
theorem ggL_law_X6_ahead : GoodIn wsL_law wsX6_ahead := goodIn_r _ [514, 35, 363, 103, 364, 365, 366, 367, 34, 368, 247, 108, 109, 2, 110, 378, 379, 380, 381, 382, 383, 384, 385, 250, 386, 387, 388, 389, 76, 248, 78, 79, 390, 391, 392, 393, 394, 284, 285, 286, 395, 396, 397, 398, 399, 400, 77, 401, 402, 403, 404, 251, 515, 516, 517, 518, 519, 520, 521, 522, 523, 524, 525, 526, 527, 528, 529, 530, 840, 841, 842, 843, 844, 845, 846, 847, 848, 891, 892, 893, 894, 895, 896, 897, 898, 899] (by decide +kernel) (by decide +kernel)
set_option maxRecDepth 20000 in
theorem gL_law_X6_ahead : GoodIn wsL_law (wsV RL 70 RX6 yX6_ahead wsX6_ahead) := goodIn_app (goodIn_of _ (by decide +kernel)) ggL_law_X6_ahead
set_option maxRecDepth 20000 in
theorem ggL_law_X7_ahead : GoodIn wsL_law wsX7_ahead := goodIn_r _ [534, 409, 129, 89, 410, 411, 412, 5, 413, 535, 536, 537, 133, 134, 135, 418, 419, 420, 421, 422, 423, 424, 425, 426, 427, 428, 429, 430, 431, 432, 433, 434, 435, 436, 437, 438, 538, 539, 540, 98, 849, 850, 851, 852, 853, 854, 855, 856, 857, 858, 859, 860, 861, 862, 863, 864, 865, 866, 867, 868, 869, 870, 871] (by decide +kernel) (by decide +kernel)
set_option maxRecDepth 20000 in
theorem gL_law_X7_ahead : GoodIn wsL_law (wsV RL 73 RX7 yX7_ahead wsX7_ahead) := goodIn_app (goodIn_of _ (by decide +kernel)) ggL_law_X7_ahead
set_option maxRecDepth 20000 in
theorem ggL_law_X6_first : GoodIn wsL_law wsX6_first := goodIn_r _ [544, 35, 363, 103, 364, 519, 365, 366, 367, 34, 368, 247, 108, 109, 2, 110, 378, 379, 380, 381, 382, 383, 384, 385, 250, 386, 387, 388, 389, 76, 248, 78, 79, 390, 391, 392, 393, 394, 284, 285, 286, 395, 396, 397, 398, 399, 400, 77, 401, 402, 403, 404, 251, 520, 521, 522, 523, 524, 525, 526, 840, 841, 842, 843, 844, 845, 846, 847, 848, 891, 892, 893, 894, 895, 896, 897, 898, 899] (by decide +kernel) (by decide +kernel)
set_option maxRecDepth 20000 in
theorem gL_law_X6_first : GoodIn wsL_law (wsV RL 74 RX6 yX6_first wsX6_first) := goodIn_app (goodIn_of _ (by decide +kernel)) ggL_law_X6_first
set_option maxRecDepth 20000 in
theorem ggL_law_X7_first : GoodIn wsL_law wsX7_first := goodIn_r _ [548, 409, 129, 89, 98, 410, 411, 412, 5, 413, 133, 134, 135, 418, 419, 420, 421, 422, 423, 424, 425, 426, 427, 428, 429, 430, 431, 432, 433, 434, 435, 436, 437, 438, 549, 550, 551, 849, 850, 851, 852, 853, 854, 855, 856, 857, 858, 859, 860, 861, 862, 863, 864, 865, 866, 867, 868, 869, 870, 871] (by decide +kernel) (by decide +kernel)
set_option maxRecDepth 20000 in
theorem gL_law_X7_first : GoodIn wsL_law (wsV RL 77 RX7 yX7_first wsX7_first) := goodIn_app (goodIn_of _ (by decide +kernel)) ggL_law_X7_first
set_option maxRecDepth 20000 in
theorem ggL_law_X6_rota : GoodIn wsL_law wsX6_rota := goodIn_r _ [555, 35, 363, 103, 237, 519, 36, 27, 365, 366, 367, 34, 368, 247, 108, 109, 2, 110, 291, 292, 293, 294, 248, 249, 250, 251, 76, 295, 189, 190, 191, 77, 78, 79, 556, 557, 558, 26, 559, 560, 67, 561, 68, 562, 563, 564, 565, 566, 567, 568, 569, 66, 570, 571, 572, 573, 574, 387, 388, 389, 575, 398, 399, 400, 401, 402, 403, 404, 395, 396, 394, 284, 285, 286, 576, 48, 49, 50, 577, 578, 579, 580, 581, 582, 583, 584, 585, 521, 522, 523, 524, 525, 526, 586, 587, 588, 589, 590, 591, 592, 593, 594, 595, 596, 840, 841, 842, 843, 844, 845, 846, 847, 848, 891, 892, 893, 894, 895, 896, 897, 898, 899, 885, 886, 887, 888] (by decide +kernel) (by decide +kernel)
set_option maxRecDepth 20000 in
theorem gL_law_X6_rota : GoodIn wsL_law (wsV RL 78 RX6 yX6_rota wsX6_rota) := goodIn_app (goodIn_of _ (by decide +kernel)) ggL_law_X6_rota
set_option maxRecDepth 20000 in
theorem ggL_law_X7_rota : GoodIn wsL_law wsX7_rota := goodIn_r _ [600, 409, 129, 89, 91, 98, 96, 410, 411, 412, 5, 413, 133, 134, 135, 344, 345, 346, 601, 602, 603, 604, 418, 419, 420, 421, 422, 423, 424, 425, 426, 427, 428, 429, 430, 431, 432, 433, 434, 435, 436, 437, 438, 549, 550, 551, 605, 606, 607, 608, 453, 454, 455, 456, 849, 850, 851, 852, 853, 854, 855, 856, 857, 858, 859, 860, 861, 862, 863, 864, 865, 866, 867, 868, 869, 870, 871] (by decide +kernel) (by decide +kernel)
set_option maxRecDepth 20000 in
theorem gL_law_X7_rota : GoodIn wsL_law (wsV RL 81 RX7 yX7_rota wsX7_rota) := goodIn_app (goodIn_of _ (by decide +kernel)) ggL_law_X7_rota
set_option maxRecDepth 20000 in
theorem ggL_law_X6_when : GoodIn wsL_law wsX6_when := goodIn_r _ [612, 35, 613, 103, 519, 364, 108, 109, 2, 110, 378, 379, 380, 34, 381, 382, 383, 384, 385, 250, 386, 387, 388, 389, 76, 248, 78, 79, 390, 391, 392, 393, 394, 284, 285, 286, 247, 395, 396, 397, 398, 399, 400, 77, 401, 402, 403, 404, 251, 614, 520, 521, 522, 523, 524, 525, 526, 840, 841, 842, 843, 844, 845, 846, 847, 848, 891, 892, 893, 894, 895, 896, 897, 898, 899] (by decide +kernel) (by decide +kernel)
set_option maxRecDepth 20000 in
theorem gL_law_X6_when : GoodIn wsL_law (wsV RL 82 RX6 yX6_when wsX6_when) := goodIn_app (goodIn_of _ (by decide +kernel)) ggL_law_X6_when
set_option maxRecDepth 20000 in
theorem ggL_law_X7_when : GoodIn wsL_law wsX7_when := goodIn_r _ [618, 89, 129, 98, 133, 134, 5, 135, 418, 419, 420, 421, 422, 423, 424, 425, 426, 427, 428, 429, 430, 431, 432, 433, 434, 435, 436, 437, 438, 549, 550, 551, 849, 850, 851, 852, 853, 854, 855, 856, 857, 858, 859, 860, 861, 862, 863, 864, 865, 866, 867, 868, 869, 870, 871] (by decide +kernel) (by decide +kernel)
set_option maxRecDepth 20000 in
theorem gL_law_X7_when : GoodIn wsL_law (wsV RL 85 RX7 yX7_when wsX7_when) := goodIn_app (goodIn_of _ (by decide +kernel)) ggL_law_X7_when
set_option maxRecDepth 20000 in
theorem ggL_law_X6_enough : GoodIn wsL_law wsX6_enough := goodIn_r _ [622, 35, 363, 103, 364, 365, 366, 367, 34, 368, 247, 108, 109, 2, 110, 515, 383, 384, 385, 250, 386, 387, 388, 389, 76, 248, 78, 79, 623, 391, 392, 393, 394, 284, 285, 286, 395, 396, 397, 398, 399, 400, 77, 401, 402, 403, 404, 251, 624, 625, 626, 627, 628, 629, 521, 522, 523, 524, 525, 526, 390, 630, 631, 632, 519, 520, 840, 841, 842, 843, 844, 845, 846, 847, 848, 891, 892, 893, 894, 895, 896, 897, 898, 899] (by decide +kernel) (by decide +kernel)
set_option maxRecDepth 20000 in
theorem gL_law_X6_enough : GoodIn wsL_law (wsV RL 86 RX6 yX6_enough wsX6_enough) := goodIn_app (goodIn_of _ (by decide +kernel)) ggL_law_X6_enough
set_option maxRecDepth 20000 in
theorem ggL_law_X7_enough : GoodIn wsL_law wsX7_enough := goodIn_r _ [636, 409, 129, 89, 410, 411, 412, 5, 413, 535, 536, 537, 133, 134, 135, 421, 422, 423, 424, 425, 426, 418, 419, 420, 427, 428, 429, 430, 431, 432, 433, 434, 435, 436, 437, 438, 637, 638, 639, 640, 98, 549, 550, 551, 849, 850, 851, 852, 853, 854, 855, 856, 857, 858, 859, 860, 861, 862, 863, 864, 865, 866, 867, 868, 869, 870, 871] (by decide +kernel) (by decide +kernel)
set_option maxRecDepth 20000 in
theorem gL_law_X7_enough : GoodIn wsL_law (wsV RL 89 RX7 yX7_enough wsX7_enough) := goodIn_app (goodIn_of _ (by decide +kernel)) ggL_law_X7_enough
set_option maxRecDepth 20000 in
theorem ggL_law_X6_clash : GoodIn wsL_law wsX6_clash := goodIn_r _ [644, 35, 363, 103, 364, 365, 366, 367, 34, 368, 247, 108, 109, 2, 110, 515, 383, 384, 385, 250, 386, 387, 388, 389, 76, 248, 78, 79, 624, 625, 626, 627, 628, 629, 521, 522, 523, 524, 525, 526, 390, 391, 392, 393, 394, 284, 285, 286, 395, 396, 397, 398, 399, 400, 77, 401, 402, 403, 404, 251, 630, 631, 632, 519, 520, 840, 841, 842, 843, 844, 845, 846, 847, 848, 891, 892, 893, 894, 895, 896, 897, 898, 899] (by decide +kernel) (by decide +kernel)
set_option maxRecDepth 20000 in
theorem gL_law_X6_clash : GoodIn wsL_law (wsV RL 90 RX6 yX6_clash wsX6_clash) := goodIn_app (goodIn_of _ (by decide +kernel)) ggL_law_X6_clash
set_option maxRecDepth 20000 in
theorem ggL_law_X7_clash : GoodIn wsL_law wsX7_clash := goodIn_r _ [648, 409, 129, 89, 98, 410, 411, 412, 5, 413, 535, 536, 537, 133, 134, 135, 421, 422, 423, 424, 425, 426, 637, 638, 639, 640, 427, 428, 429, 430, 431, 432, 433, 434, 435, 436, 437, 438, 549, 550, 551, 849, 850, 851, 852, 853, 854, 855, 856, 857, 858, 859, 860, 861, 862, 863, 864, 865, 866, 867, 868, 869, 870, 871] (by decide +kernel) (by decide +kernel)
set_option maxRecDepth 20000 in
theorem gL_law_X7_clash : GoodIn wsL_law (wsV RL 93 RX7 yX7_clash wsX7_clash) := goodIn_app (goodIn_of _ (by decide +kernel)) ggL_law_X7_clash
set_option maxRecDepth 20000 in
theorem ggL_law_X6_bribes : GoodIn wsL_law wsX6_bribes := goodIn_r _ [652, 35, 363, 15, 103, 237, 36, 443, 365, 366, 367, 34, 368, 247, 104, 105, 106, 14, 107, 108, 109, 2, 110, 150, 151, 152, 153, 43, 111, 112, 113, 114, 115, 116, 154, 155, 156, 157, 44, 653, 654, 655, 656, 364, 378, 379, 380, 381, 382, 383, 384, 385, 250, 386, 387, 388, 389, 76, 248, 78, 79, 390, 391, 392, 393, 394, 284, 285, 286, 395, 396, 397, 398, 399, 400, 77, 401, 402, 403, 404, 251, 657, 658, 659, 660, 46, 291, 292, 293, 294, 249, 295, 189, 190, 191, 121, 122, 123, 124, 840, 841, 842, 843, 844, 845, 846, 847, 848, 891, 892, 893, 894, 895, 896, 897, 898, 899, 872, 873, 874] (by decide +kernel) (by decide +kernel)
set_option maxRecDepth 20000 in
theorem gL_law_X6_bribes : GoodIn wsL_law (wsV RL 94 RX6 yX6_bribes wsX6_bribes) := goodIn_app (goodIn_of _ (by decide +kernel)) ggL_law_X6_bribes
set_option maxRecDepth 20000 in
theorem ggL_law_X7_bribes : GoodIn wsL_law wsX7_bribes := goodIn_r _ [664, 409, 129, 89, 91, 410, 411, 412, 5, 413, 130, 131, 132, 133, 134, 135, 169, 170, 171, 172, 84, 98, 136, 137, 138, 139, 140, 141, 196, 197, 198, 199, 85, 344, 345, 346, 665, 666, 667, 668, 86, 418, 419, 420, 421, 422, 423, 424, 425, 426, 427, 428, 429, 430, 431, 432, 433, 434, 435, 436, 437, 438, 142, 143, 144, 145, 849, 850, 851, 852, 853, 854, 855, 856, 857, 858, 859, 860, 861, 862, 863, 864, 865, 866, 867, 868, 869, 870, 871] (by decide +kernel) (by decide +kernel)
set_option maxRecDepth 20000 in
theorem gL_law_X7_bribes : GoodIn wsL_law (wsV RL 97 RX7 yX7_bribes wsX7_bribes) := goodIn_app (goodIn_of _ (by decide +kernel)) ggL_law_X7_bribes
set_option maxRecDepth 20000 in
theorem ggL_law_X6_fits : GoodIn wsL_law wsX6_fits := goodIn_r _ [672, 35, 15, 103, 36, 475, 673, 476, 444, 445, 446, 34, 447, 250, 104, 105, 106, 14, 107, 108, 109, 2, 110, 150, 151, 152, 153, 43, 111, 112, 113, 114, 115, 116, 154, 155, 156, 157, 44, 291, 292, 293, 294, 247, 248, 249, 251, 76, 295, 189, 190, 191, 77, 78, 79, 653, 654, 655, 656, 364, 378, 379, 380, 381, 382, 383, 384, 385, 386, 387, 388, 389, 390, 391, 392, 393, 394, 284, 285, 286, 395, 396, 397, 398, 399, 400, 401, 402, 403, 404, 657, 658, 659, 660, 46, 121, 122, 123, 124, 840, 841, 842, 843, 844, 845, 846, 847, 848, 891, 892, 893, 894, 895, 896, 897, 898, 899, 872, 873, 874] (by decide +kernel) (by decide +kernel)
set_option maxRecDepth 20000 in
theorem gL_law_X6_fits : GoodIn wsL_law (wsV RL 98 RX6 yX6_fits wsX6_fits) := goodIn_app (goodIn_of _ (by decide +kernel)) ggL_law_X6_fits
set_option maxRecDepth 20000 in
theorem ggL_law_X7_fits : GoodIn wsL_law wsX7_fits := goodIn_r _ [677, 129, 89, 91, 453, 454, 455, 5, 456, 133, 134, 135, 130, 131, 132, 169, 170, 171, 172, 84, 98, 136, 137, 138, 139, 140, 141, 196, 197, 198, 199, 85, 344, 345, 346, 665, 666, 667, 668, 86, 418, 419, 420, 421, 422, 423, 424, 425, 426, 427, 428, 429, 430, 431, 432, 433, 434, 435, 436, 437, 438, 142, 143, 144, 145, 849, 850, 851, 852, 853, 854, 855, 856, 857, 858, 859, 860, 861, 862, 863, 864, 865, 866, 867, 868, 869, 870, 871] (by decide +kernel) (by decide +kernel)
set_option maxRecDepth 20000 in
theorem gL_law_X7_fits : GoodIn wsL_law (wsV RL 101 RX7 yX7_fits wsX7_fits) := goodIn_app (goodIn_of _ (by decide +kernel)) ggL_law_X7_fits
set_option maxRecDepth 20000 in
theorem ggL_law_X6_strike : GoodIn wsL_law wsX6_strike := goodIn_r _ [681, 35, 363, 103, 364, 682, 683, 376, 684, 365, 366, 367, 34, 368, 247, 108, 109, 2, 110, 515, 383, 384, 385, 250, 386, 387, 388, 389, 76, 248, 78, 79, 685, 686, 687, 688, 628, 390, 391, 392, 393, 394, 284, 285, 286, 395, 396, 397, 398, 399, 400, 77, 401, 402, 403, 404, 251, 517, 518, 519, 520, 521, 522, 523, 524, 525, 526, 527, 528, 529, 530, 629, 689, 690, 691, 692, 693, 694, 840, 841, 842, 843, 844, 845, 846, 847, 848, 891, 892, 893, 894, 895, 896, 897, 898, 899] (by decide +kernel) (by decide +kernel)
set_option maxRecDepth 20000 in
theorem gL_law_X6_strike : GoodIn wsL_law (wsV RL 102 RX6 yX6_strike wsX6_strike) := goodIn_app (goodIn_of _ (by decide +kernel)) ggL_law_X6_strike
set_option maxRecDepth 20000 in
theorem ggL_law_X7_strike : GoodIn wsL_law wsX7_strike := goodIn_r _ [698, 409, 129, 89, 410, 411, 412, 5, 413, 535, 536, 537, 133, 134, 135, 421, 422, 423, 424, 425, 426, 433, 434, 435, 427, 428, 429, 430, 431, 432, 436, 437, 438, 549, 550, 551, 849, 850, 851, 852, 853, 854, 855, 856, 857, 858, 859, 860, 861, 862, 863, 864, 865, 866, 867, 868, 869, 870, 871] (by decide +kernel) (by decide +kernel)
set_option maxRecDepth 20000 in
theorem gL_law_X7_strike : GoodIn wsL_law (wsV RL 105 RX7 yX7_strike wsX7_strike) := goodIn_app (goodIn_of _ (by decide +kernel)) ggL_law_X7_strike
set_option maxRecDepth 20000 in
theorem ggL_law_X6_drawn : GoodIn wsL_law wsX6_drawn := goodIn_r _ [702, 35, 363, 703, 103, 704, 705, 613, 682, 683, 376, 684, 364, 519, 365, 366, 367, 34, 368, 247, 108, 109, 2, 110, 378, 379, 380, 381, 382, 383, 384, 385, 250, 386, 387, 388, 389, 76, 248, 78, 79, 390, 391, 392, 393, 394, 284, 285, 286, 395, 396, 397, 398, 399, 400, 77, 401, 402, 403, 404, 251, 516, 517, 518, 520, 521, 522, 523, 524, 525, 526, 527, 528, 529, 530, 840, 841, 842, 843, 844, 845, 846, 847, 848, 891, 892, 893, 894, 895, 896, 897, 898, 899] (by decide +kernel) (by decide +kernel)
set_option maxRecDepth 20000 in
theorem gL_law_X6_drawn : GoodIn wsL_law (wsV RL 106 RX6 yX6_drawn wsX6_drawn) := goodIn_app (goodIn_of _ (by decide +kernel)) ggL_law_X6_drawn
set_option maxRecDepth 20000 in
theorem ggL_law_X7_drawn : GoodIn wsL_law wsX7_drawn := goodIn_r _ [709, 409, 710, 129, 711, 712, 89, 98, 410, 411, 412, 5, 413, 133, 134, 135, 418, 419, 420, 421, 422, 423, 424, 425, 426, 427, 428, 429, 430, 431, 432, 433, 434, 435, 436, 437, 438, 538, 539, 540, 849, 850, 851, 852, 853, 854, 855, 856, 857, 858, 859, 860, 861, 862, 863, 864, 865, 866, 867, 868, 869, 870, 871] (by decide +kernel) (by decide +kernel)
set_option maxRecDepth 20000 in
theorem gL_law_X7_drawn : GoodIn wsL_law (wsV RL 109 RX7 yX7_drawn wsX7_drawn) := goodIn_app (goodIn_of _ (by decide +kernel)) ggL_law_X7_drawn
set_option maxRecDepth 20000 in
theorem ggL_law_X6_image : GoodIn wsL_law wsX6_image := goodIn_r _ [716, 37, 103, 35, 363, 108, 109, 2, 110, 365, 366, 367, 34, 368, 247, 291, 292, 293, 294, 248, 249, 250, 251, 76, 295, 189, 190, 191, 77, 78, 79, 840, 841, 842, 843, 844, 845, 846, 847, 848, 891, 892, 893, 894, 895, 896, 897, 898, 899] (by decide +kernel) (by decide +kernel)
set_option maxRecDepth 20000 in
theorem gL_law_X6_image : GoodIn wsL_law (wsV RL 110 RX6 yX6_image wsX6_image) := goodIn_app (goodIn_of _ (by decide +kernel)) ggL_law_X6_image
set_option maxRecDepth 20000 in
theorem ggL_law_X7_image : GoodIn wsL_law wsX7_image := goodIn_r _ [720, 129, 409, 89, 93, 95, 133, 134, 5, 135, 410, 411, 412, 413, 344, 345, 346, 849, 850, 851, 852, 853, 854, 855, 856, 857, 858, 859, 860, 861, 862, 863, 864, 865, 866, 867, 868, 869, 870, 871] (by decide +kernel) (by decide +kernel)
set_option maxRecDepth 20000 in
theorem gL_law_X7_image : GoodIn wsL_law (wsV RL 113 RX7 yX7_image wsX7_image) := goodIn_app (goodIn_of _ (by decide +kernel)) ggL_law_X7_image
set_option maxRecDepth 20000 in
theorem ggL_law_X6_restore : GoodIn wsL_law wsX6_restore := goodIn_r _ [724, 37, 103, 363, 35, 23, 108, 109, 2, 110, 365, 366, 367, 34, 368, 247, 291, 292, 293, 294, 248, 249, 250, 251, 76, 295, 189, 190, 191, 77, 78, 79, 296, 297, 298, 22, 299, 300, 840, 841, 842, 843, 844, 845, 846, 847, 848, 891, 892, 893, 894, 895, 896, 897, 898, 899, 880, 881, 882, 883, 884] (by decide +kernel) (by decide +kernel)
set_option maxRecDepth 20000 in
theorem gL_law_X6_restore : GoodIn wsL_law (wsV RL 114 RX6 yX6_restore wsX6_restore) := goodIn_app (goodIn_of _ (by decide +kernel)) ggL_law_X6_restore
set_option maxRecDepth 20000 in
theorem ggL_law_X7_restore : GoodIn wsL_law wsX7_restore := goodIn_r _ [728, 129, 95, 409, 93, 89, 310, 133, 134, 5, 135, 344, 345, 346, 849, 850, 851, 852, 853, 854, 855, 856, 857, 858, 859, 860, 861, 862, 863, 864, 865, 866, 867, 868, 869, 870, 871] (by decide +kernel) (by decide +kernel)
set_option maxRecDepth 20000 in
theorem gL_law_X7_restore : GoodIn wsL_law (wsV RL 117 RX7 yX7_restore wsX7_restore) := goodIn_app (goodIn_of _ (by decide +kernel)) ggL_law_X7_restore
set_option maxRecDepth 20000 in
theorem ggL_law_X6_kind : GoodIn wsL_law wsX6_kind := goodIn_r _ [732, 35, 673, 103, 444, 445, 446, 34, 447, 250, 840, 841, 842, 843, 844, 845, 846, 847, 848, 891, 892, 893, 894, 895, 896, 897, 898, 899] (by decide +kernel) (by decide +kernel)
set_option maxRecDepth 20000 in
theorem gL_law_X6_kind : GoodIn wsL_law (wsV RL 118 RX6 yX6_kind wsX6_kind) := goodIn_app (goodIn_of _ (by decide +kernel)) ggL_law_X6_kind
set_option maxRecDepth 20000 in
theorem ggL_law_X7_kind : GoodIn wsL_law wsX7_kind := goodIn_r _ [736, 129, 453, 454, 455, 5, 456, 89, 133, 134, 135, 737, 738, 739, 740, 849, 850, 851, 852, 853, 854, 855, 856, 857, 858, 859, 860, 861, 862, 863, 864, 865, 866, 867, 868, 869, 870, 871] (by decide +kernel) (by decide +kernel)
set_option maxRecDepth 20000 in
theorem gL_law_X7_kind : GoodIn wsL_law (wsV RL 121 RX7 yX7_kind wsX7_kind) := goodIn_app (goodIn_of _ (by decide +kernel)) ggL_law_X7_kind
set_option maxRecDepth 20000 in
theorem ggL_law_X6_as : GoodIn wsL_law wsX6_as := goodIn_r _ [744, 35, 103, 745, 673, 444, 445, 446, 34, 447, 250, 108, 109, 2, 110, 614, 395, 396, 111, 112, 113, 114, 115, 116, 121, 122, 123, 124, 840, 841, 842, 843, 844, 845, 846, 847, 848, 891, 892, 893, 894, 895, 896, 897, 898, 899] (by decide +kernel) (by decide +kernel)
set_option maxRecDepth 20000 in
theorem gL_law_X6_as : GoodIn wsL_law (wsV RL 122 RX6 yX6_as wsX6_as) := goodIn_app (goodIn_of _ (by decide +kernel)) ggL_law_X6_as
set_option maxRecDepth 20000 in
theorem ggL_law_X7_as : GoodIn wsL_law wsX7_as := goodIn_r _ [749, 129, 453, 454, 455, 5, 456, 89, 133, 134, 135, 737, 738, 739, 740, 142, 143, 144, 145, 140, 136, 137, 138, 139, 141, 849, 850, 851, 852, 853, 854, 855, 856, 857, 858, 859, 860, 861, 862, 863, 864, 865, 866, 867, 868, 869, 870, 871] (by decide +kernel) (by decide +kernel)
set_option maxRecDepth 20000 in
theorem gL_law_X7_as : GoodIn wsL_law (wsV RL 125 RX7 yX7_as wsX7_as) := goodIn_app (goodIn_of _ (by decide +kernel)) ggL_law_X7_as
set_option maxRecDepth 20000 in
theorem ggL_law_X6_ask : GoodIn wsL_law wsX6_ask := goodIn_r _ [753, 35, 103, 31, 444, 445, 446, 34, 447, 250, 108, 109, 2, 110, 754, 755, 756, 30, 757, 758, 759, 760, 761, 762, 763, 764, 765, 766, 767, 768, 769, 770, 771, 772, 773, 774, 775, 72, 840, 841, 842, 843, 844, 845, 846, 847, 848, 891, 892, 893, 894, 895, 896, 897, 898, 899, 889, 890] (by decide +kernel) (by decide +kernel)
set_option maxRecDepth 20000 in
theorem gL_law_X6_ask : GoodIn wsL_law (wsV RL 126 RX6 yX6_ask wsX6_ask) := goodIn_app (goodIn_of _ (by decide +kernel)) ggL_law_X6_ask
set_option maxRecDepth 20000 in
theorem ggL_law_X7_ask : GoodIn wsL_law wsX7_ask := goodIn_r _ [779, 129, 780, 453, 454, 455, 5, 456, 89, 133, 134, 135, 737, 738, 739, 740, 781, 782, 783, 784, 785, 786, 787, 788, 97, 789, 790, 791, 792, 793, 794, 795, 796, 797, 798, 799, 800, 849, 850, 851, 852, 853, 854, 855, 856, 857, 858, 859, 860, 861, 862, 863, 864, 865, 866, 867, 868, 869, 870, 871] (by decide +kernel) (by decide +kernel)
set_option maxRecDepth 20000 in
theorem gL_law_X7_ask : GoodIn wsL_law (wsV RL 129 RX7 yX7_ask wsX7_ask) := goodIn_app (goodIn_of _ (by decide +kernel)) ggL_law_X7_ask
set_option maxRecDepth 20000 in
theorem ggL_law_X6_trace : GoodIn wsL_law wsX6_trace := goodIn_r _ [804, 31, 805, 806, 807, 30, 808, 758, 72, 809, 840, 841, 842, 843, 844, 845, 846, 847, 848, 889, 890] (by decide +kernel) (by decide +kernel)
set_option maxRecDepth 20000 in
theorem gL_law_X6_trace : GoodIn wsL_law (wsV RL 130 RX6 yX6_trace wsX6_trace) := goodIn_app (goodIn_of _ (by decide +kernel)) ggL_law_X6_trace
set_option maxRecDepth 20000 in
theorem ggL_law_X7_trace : GoodIn wsL_law wsX7_trace := goodIn_r _ [813, 780, 97, 98, 133, 134, 5, 135, 849, 850, 851, 852, 853, 854, 855, 856, 857, 858, 859, 860, 861, 862, 863, 864, 865, 866, 867, 868, 869, 870, 871] (by decide +kernel) (by decide +kernel)
set_option maxRecDepth 20000 in
theorem gL_law_X7_trace : GoodIn wsL_law (wsV RL 133 RX7 yX7_trace wsX7_trace) := goodIn_app (goodIn_of _ (by decide +kernel)) ggL_law_X7_trace
set_option maxRecDepth 20000 in
theorem ggL_law_X6_count : GoodIn wsL_law wsX6_count := goodIn_r _ [817, 15, 35, 237, 613, 364, 818, 443, 23, 19, 103, 819, 820, 821, 14, 822, 823, 151, 152, 153, 43, 485, 486, 487, 22, 488, 300, 824, 825, 826, 18, 827, 221, 840, 841, 842, 843, 844, 845, 846, 847, 848, 891, 892, 893, 894, 895, 896, 897, 898, 899, 872, 873, 874, 880, 881, 882, 883, 884, 875, 876, 877, 878, 879] (by decide +kernel) (by decide +kernel)
set_option maxRecDepth 20000 in
theorem gL_law_X6_count : GoodIn wsL_law (wsV RL 134 RX6 yX6_count wsX6_count) := goodIn_app (goodIn_of _ (by decide +kernel)) ggL_law_X6_count
set_option maxRecDepth 20000 in
theorem ggL_law_X7_count : GoodIn wsL_law wsX7_count := goodIn_r _ [831, 89, 310, 230, 129, 169, 170, 171, 5, 172, 84, 98, 849, 850, 851, 852, 853, 854, 855, 856, 857, 858, 859, 860, 861, 862, 863, 864, 865, 866, 867, 868, 869, 870, 871] (by decide +kernel) (by decide +kernel)
set_option maxRecDepth 20000 in
theorem gL_law_X7_count : GoodIn wsL_law (wsV RL 137 RX7 yX7_count wsX7_count) := goodIn_app (goodIn_of _ (by decide +kernel)) ggL_law_X7_count
set_option maxRecDepth 20000 in
theorem ggL_law_X6_status : GoodIn wsL_law wsX6_status := goodIn_r _ [835, 115, 840, 841, 842, 843, 844, 845, 846, 847, 848] (by decide +kernel) (by decide +kernel)
set_option maxRecDepth 20000 in
theorem gL_law_X6_status : GoodIn wsL_law (wsV RL 138 RX6 yX6_status wsX6_status) := goodIn_app (goodIn_of _ (by decide +kernel)) ggL_law_X6_status
set_option maxRecDepth 20000 in
theorem ggL_law_X7_status : GoodIn wsL_law wsX7_status := goodIn_r _ [839, 140, 849, 850, 851, 852, 853, 854, 855, 856, 857, 858, 859, 860, 861, 862, 863, 864, 865, 866, 867, 868, 869, 870, 871] (by decide +kernel) (by decide +kernel)
set_option maxRecDepth 20000 in
theorem gL_law_X7_status : GoodIn wsL_law (wsV RL 141 RX7 yX7_status wsX7_status) := goodIn_app (goodIn_of _ (by decide +kernel)) ggL_law_X7_status
theorem dL_law_0 : decode cL_law 0 = .ok (.new 7, 3) := by decide +kernel
theorem dL_law_3 : decode cL_law 3 = .ok (.dup, 1) := by decide +kernel
theorem dL_law_4 : decode cL_law 4 = .ok (.invokespecial 9, 3) := by decide +kernel
theorem dL_law_7 : decode cL_law 7 = .ok (.astore_n 1, 1) := by decide +kernel
theorem dL_law_8 : decode cL_law 8 = .ok (.new 10, 3) := by decide +kernel
theorem dL_law_11 : decode cL_law 11 = .ok (.dup, 1) := by decide +kernel
theorem dL_law_12 : decode cL_law 12 = .ok (.invokespecial 12, 3) := by decide +kernel
theorem dL_law_15 : decode cL_law 15 = .ok (.astore_n 2, 1) := by decide +kernel
theorem dL_law_16 : decode cL_law 16 = .ok (.iconst 0, 1) := by decide +kernel
theorem dL_law_17 : decode cL_law 17 = .ok (.istore_n 3, 1) := by decide +kernel
theorem dL_law_18 : decode cL_law 18 = .ok (.iload_n 3, 1) := by decide +kernel
theorem dL_law_19 : decode cL_law 19 = .ok (.aload_n 0, 1) := by decide +kernel
theorem dL_law_20 : decode cL_law 20 = .ok (.arraylength, 1) := by decide +kernel
theorem dL_law_21 : decode cL_law 21 = .ok (.bipush 6, 2) := by decide +kernel
theorem dL_law_23 : decode cL_law 23 = .ok (.isub, 1) := by decide +kernel
theorem dL_law_24 : decode cL_law 24 = .ok (.if_icmp .gt 1117, 3) := by decide +kernel
theorem dL_law_27 : decode cL_law 27 = .ok (.aload_n 0, 1) := by decide +kernel
theorem dL_law_28 : decode cL_law 28 = .ok (.iload_n 3, 1) := by decide +kernel
theorem dL_law_29 : decode cL_law 29 = .ok (.iaload, 1) := by decide +kernel
theorem dL_law_30 : decode cL_law 30 = .ok (.bipush 31, 2) := by decide +kernel
theorem dL_law_32 : decode cL_law 32 = .ok (.iand, 1) := by decide +kernel
theorem dL_law_33 : decode cL_law 33 = .ok (.tableswitch 1102 0 30 #[139, 182, 225, 288, 311, 334, 347, 360, 383, 416, 449, 482, 495, 528, 561, 584, 617, 650, 683, 716, 759, 822, 865, 908, 931, 954, 977, 1010, 1043, 1066, 1089], 139) := by decide +kernel
theorem dL_law_172 : decode cL_law 172 = .ok (.aload_n 1, 1) := by decide +kernel
theorem dL_law_173 : decode cL_law 173 = .ok (.aload_n 0, 1) := by decide +kernel
theorem dL_law_174 : decode cL_law 174 = .ok (.iload_n 3, 1) := by decide +kernel
theorem dL_law_175 : decode cL_law 175 = .ok (.iconst 1, 1) := by decide +kernel
theorem dL_law_176 : decode cL_law 176 = .ok (.iadd, 1) := by decide +kernel
theorem dL_law_177 : decode cL_law 177 = .ok (.iaload, 1) := by decide +kernel
theorem dL_law_178 : decode cL_law 178 = .ok (.aload_n 0, 1) := by decide +kernel
theorem dL_law_179 : decode cL_law 179 = .ok (.iload_n 3, 1) := by decide +kernel
theorem dL_law_180 : decode cL_law 180 = .ok (.iconst 2, 1) := by decide +kernel
theorem dL_law_181 : decode cL_law 181 = .ok (.iadd, 1) := by decide +kernel
theorem dL_law_182 : decode cL_law 182 = .ok (.iaload, 1) := by decide +kernel
theorem dL_law_183 : decode cL_law 183 = .ok (.aload_n 0, 1) := by decide +kernel
theorem dL_law_184 : decode cL_law 184 = .ok (.iload_n 3, 1) := by decide +kernel
theorem dL_law_185 : decode cL_law 185 = .ok (.iconst 3, 1) := by decide +kernel
theorem dL_law_186 : decode cL_law 186 = .ok (.iadd, 1) := by decide +kernel
theorem dL_law_187 : decode cL_law 187 = .ok (.iaload, 1) := by decide +kernel
theorem dL_law_188 : decode cL_law 188 = .ok (.invokevirtual 13, 3) := by decide +kernel
theorem dL_law_191 : decode cL_law 191 = .ok (.aload_n 2, 1) := by decide +kernel
theorem dL_law_192 : decode cL_law 192 = .ok (.aload_n 0, 1) := by decide +kernel
theorem dL_law_193 : decode cL_law 193 = .ok (.iload_n 3, 1) := by decide +kernel
theorem dL_law_194 : decode cL_law 194 = .ok (.iconst 1, 1) := by decide +kernel
theorem dL_law_195 : decode cL_law 195 = .ok (.iadd, 1) := by decide +kernel
theorem dL_law_196 : decode cL_law 196 = .ok (.iaload, 1) := by decide +kernel
theorem dL_law_197 : decode cL_law 197 = .ok (.aload_n 0, 1) := by decide +kernel
theorem dL_law_198 : decode cL_law 198 = .ok (.iload_n 3, 1) := by decide +kernel
theorem dL_law_199 : decode cL_law 199 = .ok (.iconst 2, 1) := by decide +kernel
theorem dL_law_200 : decode cL_law 200 = .ok (.iadd, 1) := by decide +kernel
theorem dL_law_201 : decode cL_law 201 = .ok (.iaload, 1) := by decide +kernel
theorem dL_law_202 : decode cL_law 202 = .ok (.aload_n 0, 1) := by decide +kernel
theorem dL_law_203 : decode cL_law 203 = .ok (.iload_n 3, 1) := by decide +kernel
theorem dL_law_204 : decode cL_law 204 = .ok (.iconst 3, 1) := by decide +kernel
theorem dL_law_205 : decode cL_law 205 = .ok (.iadd, 1) := by decide +kernel
theorem dL_law_206 : decode cL_law 206 = .ok (.iaload, 1) := by decide +kernel
theorem dL_law_207 : decode cL_law 207 = .ok (.invokevirtual 17, 3) := by decide +kernel
theorem dL_law_210 : decode cL_law 210 = .ok (.if_icmp .eq 925, 3) := by decide +kernel
theorem dL_law_213 : decode cL_law 213 = .ok (.iconst 0, 1) := by decide +kernel
theorem dL_law_214 : decode cL_law 214 = .ok (.ireturn, 1) := by decide +kernel
theorem dL_law_215 : decode cL_law 215 = .ok (.aload_n 1, 1) := by decide +kernel
theorem dL_law_216 : decode cL_law 216 = .ok (.aload_n 0, 1) := by decide +kernel
theorem dL_law_217 : decode cL_law 217 = .ok (.iload_n 3, 1) := by decide +kernel
theorem dL_law_218 : decode cL_law 218 = .ok (.iconst 1, 1) := by decide +kernel
theorem dL_law_219 : decode cL_law 219 = .ok (.iadd, 1) := by decide +kernel
theorem dL_law_220 : decode cL_law 220 = .ok (.iaload, 1) := by decide +kernel
theorem dL_law_221 : decode cL_law 221 = .ok (.aload_n 0, 1) := by decide +kernel
theorem dL_law_222 : decode cL_law 222 = .ok (.iload_n 3, 1) := by decide +kernel
theorem dL_law_223 : decode cL_law 223 = .ok (.iconst 2, 1) := by decide +kernel
theorem dL_law_224 : decode cL_law 224 = .ok (.iadd, 1) := by decide +kernel
theorem dL_law_225 : decode cL_law 225 = .ok (.iaload, 1) := by decide +kernel
theorem dL_law_226 : decode cL_law 226 = .ok (.aload_n 0, 1) := by decide +kernel
theorem dL_law_227 : decode cL_law 227 = .ok (.iload_n 3, 1) := by decide +kernel
theorem dL_law_228 : decode cL_law 228 = .ok (.iconst 3, 1) := by decide +kernel
theorem dL_law_229 : decode cL_law 229 = .ok (.iadd, 1) := by decide +kernel
theorem dL_law_230 : decode cL_law 230 = .ok (.iaload, 1) := by decide +kernel
theorem dL_law_231 : decode cL_law 231 = .ok (.invokevirtual 18, 3) := by decide +kernel
theorem dL_law_234 : decode cL_law 234 = .ok (.aload_n 2, 1) := by decide +kernel
theorem dL_law_235 : decode cL_law 235 = .ok (.aload_n 0, 1) := by decide +kernel
theorem dL_law_236 : decode cL_law 236 = .ok (.iload_n 3, 1) := by decide +kernel
theorem dL_law_237 : decode cL_law 237 = .ok (.iconst 1, 1) := by decide +kernel
theorem dL_law_238 : decode cL_law 238 = .ok (.iadd, 1) := by decide +kernel
theorem dL_law_239 : decode cL_law 239 = .ok (.iaload, 1) := by decide +kernel
theorem dL_law_240 : decode cL_law 240 = .ok (.aload_n 0, 1) := by decide +kernel
theorem dL_law_241 : decode cL_law 241 = .ok (.iload_n 3, 1) := by decide +kernel
theorem dL_law_242 : decode cL_law 242 = .ok (.iconst 2, 1) := by decide +kernel
theorem dL_law_243 : decode cL_law 243 = .ok (.iadd, 1) := by decide +kernel
theorem dL_law_244 : decode cL_law 244 = .ok (.iaload, 1) := by decide +kernel
theorem dL_law_245 : decode cL_law 245 = .ok (.aload_n 0, 1) := by decide +kernel
theorem dL_law_246 : decode cL_law 246 = .ok (.iload_n 3, 1) := by decide +kernel
theorem dL_law_247 : decode cL_law 247 = .ok (.iconst 3, 1) := by decide +kernel
theorem dL_law_248 : decode cL_law 248 = .ok (.iadd, 1) := by decide +kernel
theorem dL_law_249 : decode cL_law 249 = .ok (.iaload, 1) := by decide +kernel
theorem dL_law_250 : decode cL_law 250 = .ok (.invokevirtual 21, 3) := by decide +kernel
theorem dL_law_253 : decode cL_law 253 = .ok (.if_icmp .eq 882, 3) := by decide +kernel
theorem dL_law_256 : decode cL_law 256 = .ok (.iconst 0, 1) := by decide +kernel
theorem dL_law_257 : decode cL_law 257 = .ok (.ireturn, 1) := by decide +kernel
theorem dL_law_258 : decode cL_law 258 = .ok (.aload_n 1, 1) := by decide +kernel
theorem dL_law_259 : decode cL_law 259 = .ok (.aload_n 0, 1) := by decide +kernel
theorem dL_law_260 : decode cL_law 260 = .ok (.iload_n 3, 1) := by decide +kernel
theorem dL_law_261 : decode cL_law 261 = .ok (.iconst 1, 1) := by decide +kernel
theorem dL_law_262 : decode cL_law 262 = .ok (.iadd, 1) := by decide +kernel
theorem dL_law_263 : decode cL_law 263 = .ok (.iaload, 1) := by decide +kernel
theorem dL_law_264 : decode cL_law 264 = .ok (.aload_n 0, 1) := by decide +kernel
theorem dL_law_265 : decode cL_law 265 = .ok (.iload_n 3, 1) := by decide +kernel
theorem dL_law_266 : decode cL_law 266 = .ok (.iconst 2, 1) := by decide +kernel
theorem dL_law_267 : decode cL_law 267 = .ok (.iadd, 1) := by decide +kernel
theorem dL_law_268 : decode cL_law 268 = .ok (.iaload, 1) := by decide +kernel
theorem dL_law_269 : decode cL_law 269 = .ok (.aload_n 0, 1) := by decide +kernel
theorem dL_law_270 : decode cL_law 270 = .ok (.iload_n 3, 1) := by decide +kernel
theorem dL_law_271 : decode cL_law 271 = .ok (.iconst 3, 1) := by decide +kernel
theorem dL_law_272 : decode cL_law 272 = .ok (.iadd, 1) := by decide +kernel
theorem dL_law_273 : decode cL_law 273 = .ok (.iaload, 1) := by decide +kernel
theorem dL_law_274 : decode cL_law 274 = .ok (.aload_n 0, 1) := by decide +kernel
theorem dL_law_275 : decode cL_law 275 = .ok (.iload_n 3, 1) := by decide +kernel
theorem dL_law_276 : decode cL_law 276 = .ok (.iconst 4, 1) := by decide +kernel
theorem dL_law_277 : decode cL_law 277 = .ok (.iadd, 1) := by decide +kernel
theorem dL_law_278 : decode cL_law 278 = .ok (.iaload, 1) := by decide +kernel
theorem dL_law_279 : decode cL_law 279 = .ok (.aload_n 0, 1) := by decide +kernel
theorem dL_law_280 : decode cL_law 280 = .ok (.iload_n 3, 1) := by decide +kernel
theorem dL_law_281 : decode cL_law 281 = .ok (.iconst 5, 1) := by decide +kernel
theorem dL_law_282 : decode cL_law 282 = .ok (.iadd, 1) := by decide +kernel
theorem dL_law_283 : decode cL_law 283 = .ok (.iaload, 1) := by decide +kernel
theorem dL_law_284 : decode cL_law 284 = .ok (.invokevirtual 22, 3) := by decide +kernel
theorem dL_law_287 : decode cL_law 287 = .ok (.aload_n 2, 1) := by decide +kernel
theorem dL_law_288 : decode cL_law 288 = .ok (.aload_n 0, 1) := by decide +kernel
theorem dL_law_289 : decode cL_law 289 = .ok (.iload_n 3, 1) := by decide +kernel
theorem dL_law_290 : decode cL_law 290 = .ok (.iconst 1, 1) := by decide +kernel
theorem dL_law_291 : decode cL_law 291 = .ok (.iadd, 1) := by decide +kernel
theorem dL_law_292 : decode cL_law 292 = .ok (.iaload, 1) := by decide +kernel
theorem dL_law_293 : decode cL_law 293 = .ok (.aload_n 0, 1) := by decide +kernel
theorem dL_law_294 : decode cL_law 294 = .ok (.iload_n 3, 1) := by decide +kernel
theorem dL_law_295 : decode cL_law 295 = .ok (.iconst 2, 1) := by decide +kernel
theorem dL_law_296 : decode cL_law 296 = .ok (.iadd, 1) := by decide +kernel
theorem dL_law_297 : decode cL_law 297 = .ok (.iaload, 1) := by decide +kernel
theorem dL_law_298 : decode cL_law 298 = .ok (.aload_n 0, 1) := by decide +kernel
theorem dL_law_299 : decode cL_law 299 = .ok (.iload_n 3, 1) := by decide +kernel
theorem dL_law_300 : decode cL_law 300 = .ok (.iconst 3, 1) := by decide +kernel
theorem dL_law_301 : decode cL_law 301 = .ok (.iadd, 1) := by decide +kernel
theorem dL_law_302 : decode cL_law 302 = .ok (.iaload, 1) := by decide +kernel
theorem dL_law_303 : decode cL_law 303 = .ok (.aload_n 0, 1) := by decide +kernel
theorem dL_law_304 : decode cL_law 304 = .ok (.iload_n 3, 1) := by decide +kernel
theorem dL_law_305 : decode cL_law 305 = .ok (.iconst 4, 1) := by decide +kernel
theorem dL_law_306 : decode cL_law 306 = .ok (.iadd, 1) := by decide +kernel
theorem dL_law_307 : decode cL_law 307 = .ok (.iaload, 1) := by decide +kernel
theorem dL_law_308 : decode cL_law 308 = .ok (.aload_n 0, 1) := by decide +kernel
theorem dL_law_309 : decode cL_law 309 = .ok (.iload_n 3, 1) := by decide +kernel
theorem dL_law_310 : decode cL_law 310 = .ok (.iconst 5, 1) := by decide +kernel
theorem dL_law_311 : decode cL_law 311 = .ok (.iadd, 1) := by decide +kernel
theorem dL_law_312 : decode cL_law 312 = .ok (.iaload, 1) := by decide +kernel
theorem dL_law_313 : decode cL_law 313 = .ok (.invokevirtual 26, 3) := by decide +kernel
theorem dL_law_316 : decode cL_law 316 = .ok (.if_icmp .eq 819, 3) := by decide +kernel
theorem dL_law_319 : decode cL_law 319 = .ok (.iconst 0, 1) := by decide +kernel
theorem dL_law_320 : decode cL_law 320 = .ok (.ireturn, 1) := by decide +kernel
theorem dL_law_321 : decode cL_law 321 = .ok (.aload_n 1, 1) := by decide +kernel
theorem dL_law_322 : decode cL_law 322 = .ok (.aload_n 0, 1) := by decide +kernel
theorem dL_law_323 : decode cL_law 323 = .ok (.iload_n 3, 1) := by decide +kernel
theorem dL_law_324 : decode cL_law 324 = .ok (.iconst 1, 1) := by decide +kernel
theorem dL_law_325 : decode cL_law 325 = .ok (.iadd, 1) := by decide +kernel
theorem dL_law_326 : decode cL_law 326 = .ok (.iaload, 1) := by decide +kernel
theorem dL_law_327 : decode cL_law 327 = .ok (.invokevirtual 27, 3) := by decide +kernel
theorem dL_law_330 : decode cL_law 330 = .ok (.aload_n 2, 1) := by decide +kernel
theorem dL_law_331 : decode cL_law 331 = .ok (.aload_n 0, 1) := by decide +kernel
theorem dL_law_332 : decode cL_law 332 = .ok (.iload_n 3, 1) := by decide +kernel
theorem dL_law_333 : decode cL_law 333 = .ok (.iconst 1, 1) := by decide +kernel
theorem dL_law_334 : decode cL_law 334 = .ok (.iadd, 1) := by decide +kernel
theorem dL_law_335 : decode cL_law 335 = .ok (.iaload, 1) := by decide +kernel
theorem dL_law_336 : decode cL_law 336 = .ok (.invokevirtual 31, 3) := by decide +kernel
theorem dL_law_339 : decode cL_law 339 = .ok (.if_icmp .eq 796, 3) := by decide +kernel
theorem dL_law_342 : decode cL_law 342 = .ok (.iconst 0, 1) := by decide +kernel
theorem dL_law_343 : decode cL_law 343 = .ok (.ireturn, 1) := by decide +kernel
theorem dL_law_344 : decode cL_law 344 = .ok (.aload_n 1, 1) := by decide +kernel
theorem dL_law_345 : decode cL_law 345 = .ok (.aload_n 0, 1) := by decide +kernel
theorem dL_law_346 : decode cL_law 346 = .ok (.iload_n 3, 1) := by decide +kernel
theorem dL_law_347 : decode cL_law 347 = .ok (.iconst 1, 1) := by decide +kernel
theorem dL_law_348 : decode cL_law 348 = .ok (.iadd, 1) := by decide +kernel
theorem dL_law_349 : decode cL_law 349 = .ok (.iaload, 1) := by decide +kernel
theorem dL_law_350 : decode cL_law 350 = .ok (.invokevirtual 32, 3) := by decide +kernel
theorem dL_law_353 : decode cL_law 353 = .ok (.aload_n 2, 1) := by decide +kernel
theorem dL_law_354 : decode cL_law 354 = .ok (.aload_n 0, 1) := by decide +kernel
theorem dL_law_355 : decode cL_law 355 = .ok (.iload_n 3, 1) := by decide +kernel
theorem dL_law_356 : decode cL_law 356 = .ok (.iconst 1, 1) := by decide +kernel
theorem dL_law_357 : decode cL_law 357 = .ok (.iadd, 1) := by decide +kernel
theorem dL_law_358 : decode cL_law 358 = .ok (.iaload, 1) := by decide +kernel
theorem dL_law_359 : decode cL_law 359 = .ok (.invokevirtual 35, 3) := by decide +kernel
theorem dL_law_362 : decode cL_law 362 = .ok (.if_icmp .eq 773, 3) := by decide +kernel
theorem dL_law_365 : decode cL_law 365 = .ok (.iconst 0, 1) := by decide +kernel
theorem dL_law_366 : decode cL_law 366 = .ok (.ireturn, 1) := by decide +kernel
theorem dL_law_367 : decode cL_law 367 = .ok (.aload_n 1, 1) := by decide +kernel
theorem dL_law_368 : decode cL_law 368 = .ok (.invokevirtual 36, 3) := by decide +kernel
theorem dL_law_371 : decode cL_law 371 = .ok (.aload_n 2, 1) := by decide +kernel
theorem dL_law_372 : decode cL_law 372 = .ok (.invokevirtual 40, 3) := by decide +kernel
theorem dL_law_375 : decode cL_law 375 = .ok (.if_icmp .eq 760, 3) := by decide +kernel
theorem dL_law_378 : decode cL_law 378 = .ok (.iconst 0, 1) := by decide +kernel
theorem dL_law_379 : decode cL_law 379 = .ok (.ireturn, 1) := by decide +kernel
theorem dL_law_380 : decode cL_law 380 = .ok (.aload_n 1, 1) := by decide +kernel
theorem dL_law_381 : decode cL_law 381 = .ok (.invokevirtual 41, 3) := by decide +kernel
theorem dL_law_384 : decode cL_law 384 = .ok (.aload_n 2, 1) := by decide +kernel
theorem dL_law_385 : decode cL_law 385 = .ok (.invokevirtual 44, 3) := by decide +kernel
theorem dL_law_388 : decode cL_law 388 = .ok (.if_icmp .eq 747, 3) := by decide +kernel
theorem dL_law_391 : decode cL_law 391 = .ok (.iconst 0, 1) := by decide +kernel
theorem dL_law_392 : decode cL_law 392 = .ok (.ireturn, 1) := by decide +kernel
theorem dL_law_393 : decode cL_law 393 = .ok (.aload_n 1, 1) := by decide +kernel
theorem dL_law_394 : decode cL_law 394 = .ok (.aload_n 0, 1) := by decide +kernel
theorem dL_law_395 : decode cL_law 395 = .ok (.iload_n 3, 1) := by decide +kernel
theorem dL_law_396 : decode cL_law 396 = .ok (.iconst 1, 1) := by decide +kernel
theorem dL_law_397 : decode cL_law 397 = .ok (.iadd, 1) := by decide +kernel
theorem dL_law_398 : decode cL_law 398 = .ok (.iaload, 1) := by decide +kernel
theorem dL_law_399 : decode cL_law 399 = .ok (.invokevirtual 45, 3) := by decide +kernel
theorem dL_law_402 : decode cL_law 402 = .ok (.aload_n 2, 1) := by decide +kernel
theorem dL_law_403 : decode cL_law 403 = .ok (.aload_n 0, 1) := by decide +kernel
theorem dL_law_404 : decode cL_law 404 = .ok (.iload_n 3, 1) := by decide +kernel
theorem dL_law_405 : decode cL_law 405 = .ok (.iconst 1, 1) := by decide +kernel
theorem dL_law_406 : decode cL_law 406 = .ok (.iadd, 1) := by decide +kernel
theorem dL_law_407 : decode cL_law 407 = .ok (.iaload, 1) := by decide +kernel
theorem dL_law_408 : decode cL_law 408 = .ok (.invokevirtual 48, 3) := by decide +kernel
theorem dL_law_411 : decode cL_law 411 = .ok (.if_icmp .eq 724, 3) := by decide +kernel
theorem dL_law_414 : decode cL_law 414 = .ok (.iconst 0, 1) := by decide +kernel
theorem dL_law_415 : decode cL_law 415 = .ok (.ireturn, 1) := by decide +kernel
theorem dL_law_416 : decode cL_law 416 = .ok (.aload_n 1, 1) := by decide +kernel
theorem dL_law_417 : decode cL_law 417 = .ok (.aload_n 0, 1) := by decide +kernel
theorem dL_law_418 : decode cL_law 418 = .ok (.iload_n 3, 1) := by decide +kernel
theorem dL_law_419 : decode cL_law 419 = .ok (.iconst 1, 1) := by decide +kernel
theorem dL_law_420 : decode cL_law 420 = .ok (.iadd, 1) := by decide +kernel
theorem dL_law_421 : decode cL_law 421 = .ok (.iaload, 1) := by decide +kernel
theorem dL_law_422 : decode cL_law 422 = .ok (.aload_n 0, 1) := by decide +kernel
theorem dL_law_423 : decode cL_law 423 = .ok (.iload_n 3, 1) := by decide +kernel
theorem dL_law_424 : decode cL_law 424 = .ok (.iconst 2, 1) := by decide +kernel
theorem dL_law_425 : decode cL_law 425 = .ok (.iadd, 1) := by decide +kernel
theorem dL_law_426 : decode cL_law 426 = .ok (.iaload, 1) := by decide +kernel
theorem dL_law_427 : decode cL_law 427 = .ok (.invokevirtual 49, 3) := by decide +kernel
theorem dL_law_430 : decode cL_law 430 = .ok (.aload_n 2, 1) := by decide +kernel
theorem dL_law_431 : decode cL_law 431 = .ok (.aload_n 0, 1) := by decide +kernel
theorem dL_law_432 : decode cL_law 432 = .ok (.iload_n 3, 1) := by decide +kernel
theorem dL_law_433 : decode cL_law 433 = .ok (.iconst 1, 1) := by decide +kernel
theorem dL_law_434 : decode cL_law 434 = .ok (.iadd, 1) := by decide +kernel
theorem dL_law_435 : decode cL_law 435 = .ok (.iaload, 1) := by decide +kernel
theorem dL_law_436 : decode cL_law 436 = .ok (.aload_n 0, 1) := by decide +kernel
theorem dL_law_437 : decode cL_law 437 = .ok (.iload_n 3, 1) := by decide +kernel
theorem dL_law_438 : decode cL_law 438 = .ok (.iconst 2, 1) := by decide +kernel
theorem dL_law_439 : decode cL_law 439 = .ok (.iadd, 1) := by decide +kernel
theorem dL_law_440 : decode cL_law 440 = .ok (.iaload, 1) := by decide +kernel
theorem dL_law_441 : decode cL_law 441 = .ok (.invokevirtual 53, 3) := by decide +kernel
theorem dL_law_444 : decode cL_law 444 = .ok (.if_icmp .eq 691, 3) := by decide +kernel
theorem dL_law_447 : decode cL_law 447 = .ok (.iconst 0, 1) := by decide +kernel
theorem dL_law_448 : decode cL_law 448 = .ok (.ireturn, 1) := by decide +kernel
theorem dL_law_449 : decode cL_law 449 = .ok (.aload_n 1, 1) := by decide +kernel
theorem dL_law_450 : decode cL_law 450 = .ok (.aload_n 0, 1) := by decide +kernel
theorem dL_law_451 : decode cL_law 451 = .ok (.iload_n 3, 1) := by decide +kernel
theorem dL_law_452 : decode cL_law 452 = .ok (.iconst 1, 1) := by decide +kernel
theorem dL_law_453 : decode cL_law 453 = .ok (.iadd, 1) := by decide +kernel
theorem dL_law_454 : decode cL_law 454 = .ok (.iaload, 1) := by decide +kernel
theorem dL_law_455 : decode cL_law 455 = .ok (.aload_n 0, 1) := by decide +kernel
theorem dL_law_456 : decode cL_law 456 = .ok (.iload_n 3, 1) := by decide +kernel
theorem dL_law_457 : decode cL_law 457 = .ok (.iconst 2, 1) := by decide +kernel
theorem dL_law_458 : decode cL_law 458 = .ok (.iadd, 1) := by decide +kernel
theorem dL_law_459 : decode cL_law 459 = .ok (.iaload, 1) := by decide +kernel
theorem dL_law_460 : decode cL_law 460 = .ok (.invokevirtual 54, 3) := by decide +kernel
theorem dL_law_463 : decode cL_law 463 = .ok (.aload_n 2, 1) := by decide +kernel
theorem dL_law_464 : decode cL_law 464 = .ok (.aload_n 0, 1) := by decide +kernel
theorem dL_law_465 : decode cL_law 465 = .ok (.iload_n 3, 1) := by decide +kernel
theorem dL_law_466 : decode cL_law 466 = .ok (.iconst 1, 1) := by decide +kernel
theorem dL_law_467 : decode cL_law 467 = .ok (.iadd, 1) := by decide +kernel
theorem dL_law_468 : decode cL_law 468 = .ok (.iaload, 1) := by decide +kernel
theorem dL_law_469 : decode cL_law 469 = .ok (.aload_n 0, 1) := by decide +kernel
theorem dL_law_470 : decode cL_law 470 = .ok (.iload_n 3, 1) := by decide +kernel
theorem dL_law_471 : decode cL_law 471 = .ok (.iconst 2, 1) := by decide +kernel
theorem dL_law_472 : decode cL_law 472 = .ok (.iadd, 1) := by decide +kernel
theorem dL_law_473 : decode cL_law 473 = .ok (.iaload, 1) := by decide +kernel
theorem dL_law_474 : decode cL_law 474 = .ok (.invokevirtual 57, 3) := by decide +kernel
theorem dL_law_477 : decode cL_law 477 = .ok (.if_icmp .eq 658, 3) := by decide +kernel
theorem dL_law_480 : decode cL_law 480 = .ok (.iconst 0, 1) := by decide +kernel
theorem dL_law_481 : decode cL_law 481 = .ok (.ireturn, 1) := by decide +kernel
theorem dL_law_482 : decode cL_law 482 = .ok (.aload_n 1, 1) := by decide +kernel
theorem dL_law_483 : decode cL_law 483 = .ok (.aload_n 0, 1) := by decide +kernel
theorem dL_law_484 : decode cL_law 484 = .ok (.iload_n 3, 1) := by decide +kernel
theorem dL_law_485 : decode cL_law 485 = .ok (.iconst 1, 1) := by decide +kernel
theorem dL_law_486 : decode cL_law 486 = .ok (.iadd, 1) := by decide +kernel
theorem dL_law_487 : decode cL_law 487 = .ok (.iaload, 1) := by decide +kernel
theorem dL_law_488 : decode cL_law 488 = .ok (.aload_n 0, 1) := by decide +kernel
theorem dL_law_489 : decode cL_law 489 = .ok (.iload_n 3, 1) := by decide +kernel
theorem dL_law_490 : decode cL_law 490 = .ok (.iconst 2, 1) := by decide +kernel
theorem dL_law_491 : decode cL_law 491 = .ok (.iadd, 1) := by decide +kernel
theorem dL_law_492 : decode cL_law 492 = .ok (.iaload, 1) := by decide +kernel
theorem dL_law_493 : decode cL_law 493 = .ok (.invokevirtual 58, 3) := by decide +kernel
theorem dL_law_496 : decode cL_law 496 = .ok (.aload_n 2, 1) := by decide +kernel
theorem dL_law_497 : decode cL_law 497 = .ok (.aload_n 0, 1) := by decide +kernel
theorem dL_law_498 : decode cL_law 498 = .ok (.iload_n 3, 1) := by decide +kernel
theorem dL_law_499 : decode cL_law 499 = .ok (.iconst 1, 1) := by decide +kernel
theorem dL_law_500 : decode cL_law 500 = .ok (.iadd, 1) := by decide +kernel
theorem dL_law_501 : decode cL_law 501 = .ok (.iaload, 1) := by decide +kernel
theorem dL_law_502 : decode cL_law 502 = .ok (.aload_n 0, 1) := by decide +kernel
theorem dL_law_503 : decode cL_law 503 = .ok (.iload_n 3, 1) := by decide +kernel
theorem dL_law_504 : decode cL_law 504 = .ok (.iconst 2, 1) := by decide +kernel
theorem dL_law_505 : decode cL_law 505 = .ok (.iadd, 1) := by decide +kernel
theorem dL_law_506 : decode cL_law 506 = .ok (.iaload, 1) := by decide +kernel
theorem dL_law_507 : decode cL_law 507 = .ok (.invokevirtual 61, 3) := by decide +kernel
theorem dL_law_510 : decode cL_law 510 = .ok (.if_icmp .eq 625, 3) := by decide +kernel
theorem dL_law_513 : decode cL_law 513 = .ok (.iconst 0, 1) := by decide +kernel
theorem dL_law_514 : decode cL_law 514 = .ok (.ireturn, 1) := by decide +kernel
theorem dL_law_515 : decode cL_law 515 = .ok (.aload_n 1, 1) := by decide +kernel
theorem dL_law_516 : decode cL_law 516 = .ok (.invokevirtual 62, 3) := by decide +kernel
theorem dL_law_519 : decode cL_law 519 = .ok (.aload_n 2, 1) := by decide +kernel
theorem dL_law_520 : decode cL_law 520 = .ok (.invokevirtual 65, 3) := by decide +kernel
theorem dL_law_523 : decode cL_law 523 = .ok (.if_icmp .eq 612, 3) := by decide +kernel
theorem dL_law_526 : decode cL_law 526 = .ok (.iconst 0, 1) := by decide +kernel
theorem dL_law_527 : decode cL_law 527 = .ok (.ireturn, 1) := by decide +kernel
theorem dL_law_528 : decode cL_law 528 = .ok (.aload_n 1, 1) := by decide +kernel
theorem dL_law_529 : decode cL_law 529 = .ok (.aload_n 0, 1) := by decide +kernel
theorem dL_law_530 : decode cL_law 530 = .ok (.iload_n 3, 1) := by decide +kernel
theorem dL_law_531 : decode cL_law 531 = .ok (.iconst 1, 1) := by decide +kernel
theorem dL_law_532 : decode cL_law 532 = .ok (.iadd, 1) := by decide +kernel
theorem dL_law_533 : decode cL_law 533 = .ok (.iaload, 1) := by decide +kernel
theorem dL_law_534 : decode cL_law 534 = .ok (.aload_n 0, 1) := by decide +kernel
theorem dL_law_535 : decode cL_law 535 = .ok (.iload_n 3, 1) := by decide +kernel
theorem dL_law_536 : decode cL_law 536 = .ok (.iconst 2, 1) := by decide +kernel
theorem dL_law_537 : decode cL_law 537 = .ok (.iadd, 1) := by decide +kernel
theorem dL_law_538 : decode cL_law 538 = .ok (.iaload, 1) := by decide +kernel
theorem dL_law_539 : decode cL_law 539 = .ok (.invokevirtual 66, 3) := by decide +kernel
theorem dL_law_542 : decode cL_law 542 = .ok (.aload_n 2, 1) := by decide +kernel
theorem dL_law_543 : decode cL_law 543 = .ok (.aload_n 0, 1) := by decide +kernel
theorem dL_law_544 : decode cL_law 544 = .ok (.iload_n 3, 1) := by decide +kernel
theorem dL_law_545 : decode cL_law 545 = .ok (.iconst 1, 1) := by decide +kernel
theorem dL_law_546 : decode cL_law 546 = .ok (.iadd, 1) := by decide +kernel
theorem dL_law_547 : decode cL_law 547 = .ok (.iaload, 1) := by decide +kernel
theorem dL_law_548 : decode cL_law 548 = .ok (.aload_n 0, 1) := by decide +kernel
theorem dL_law_549 : decode cL_law 549 = .ok (.iload_n 3, 1) := by decide +kernel
theorem dL_law_550 : decode cL_law 550 = .ok (.iconst 2, 1) := by decide +kernel
theorem dL_law_551 : decode cL_law 551 = .ok (.iadd, 1) := by decide +kernel
theorem dL_law_552 : decode cL_law 552 = .ok (.iaload, 1) := by decide +kernel
theorem dL_law_553 : decode cL_law 553 = .ok (.invokevirtual 69, 3) := by decide +kernel
theorem dL_law_556 : decode cL_law 556 = .ok (.if_icmp .eq 579, 3) := by decide +kernel
theorem dL_law_559 : decode cL_law 559 = .ok (.iconst 0, 1) := by decide +kernel
theorem dL_law_560 : decode cL_law 560 = .ok (.ireturn, 1) := by decide +kernel
theorem dL_law_561 : decode cL_law 561 = .ok (.aload_n 1, 1) := by decide +kernel
theorem dL_law_562 : decode cL_law 562 = .ok (.aload_n 0, 1) := by decide +kernel
theorem dL_law_563 : decode cL_law 563 = .ok (.iload_n 3, 1) := by decide +kernel
theorem dL_law_564 : decode cL_law 564 = .ok (.iconst 1, 1) := by decide +kernel
theorem dL_law_565 : decode cL_law 565 = .ok (.iadd, 1) := by decide +kernel
theorem dL_law_566 : decode cL_law 566 = .ok (.iaload, 1) := by decide +kernel
theorem dL_law_567 : decode cL_law 567 = .ok (.aload_n 0, 1) := by decide +kernel
theorem dL_law_568 : decode cL_law 568 = .ok (.iload_n 3, 1) := by decide +kernel
theorem dL_law_569 : decode cL_law 569 = .ok (.iconst 2, 1) := by decide +kernel
theorem dL_law_570 : decode cL_law 570 = .ok (.iadd, 1) := by decide +kernel
theorem dL_law_571 : decode cL_law 571 = .ok (.iaload, 1) := by decide +kernel
theorem dL_law_572 : decode cL_law 572 = .ok (.invokevirtual 70, 3) := by decide +kernel
theorem dL_law_575 : decode cL_law 575 = .ok (.aload_n 2, 1) := by decide +kernel
theorem dL_law_576 : decode cL_law 576 = .ok (.aload_n 0, 1) := by decide +kernel
theorem dL_law_577 : decode cL_law 577 = .ok (.iload_n 3, 1) := by decide +kernel
theorem dL_law_578 : decode cL_law 578 = .ok (.iconst 1, 1) := by decide +kernel
theorem dL_law_579 : decode cL_law 579 = .ok (.iadd, 1) := by decide +kernel
theorem dL_law_580 : decode cL_law 580 = .ok (.iaload, 1) := by decide +kernel
theorem dL_law_581 : decode cL_law 581 = .ok (.aload_n 0, 1) := by decide +kernel
theorem dL_law_582 : decode cL_law 582 = .ok (.iload_n 3, 1) := by decide +kernel
theorem dL_law_583 : decode cL_law 583 = .ok (.iconst 2, 1) := by decide +kernel
theorem dL_law_584 : decode cL_law 584 = .ok (.iadd, 1) := by decide +kernel
theorem dL_law_585 : decode cL_law 585 = .ok (.iaload, 1) := by decide +kernel
theorem dL_law_586 : decode cL_law 586 = .ok (.invokevirtual 73, 3) := by decide +kernel
theorem dL_law_589 : decode cL_law 589 = .ok (.if_icmp .eq 546, 3) := by decide +kernel
theorem dL_law_592 : decode cL_law 592 = .ok (.iconst 0, 1) := by decide +kernel
theorem dL_law_593 : decode cL_law 593 = .ok (.ireturn, 1) := by decide +kernel
theorem dL_law_594 : decode cL_law 594 = .ok (.aload_n 1, 1) := by decide +kernel
theorem dL_law_595 : decode cL_law 595 = .ok (.aload_n 0, 1) := by decide +kernel
theorem dL_law_596 : decode cL_law 596 = .ok (.iload_n 3, 1) := by decide +kernel
theorem dL_law_597 : decode cL_law 597 = .ok (.iconst 1, 1) := by decide +kernel
theorem dL_law_598 : decode cL_law 598 = .ok (.iadd, 1) := by decide +kernel
theorem dL_law_599 : decode cL_law 599 = .ok (.iaload, 1) := by decide +kernel
theorem dL_law_600 : decode cL_law 600 = .ok (.invokevirtual 74, 3) := by decide +kernel
theorem dL_law_603 : decode cL_law 603 = .ok (.aload_n 2, 1) := by decide +kernel
theorem dL_law_604 : decode cL_law 604 = .ok (.aload_n 0, 1) := by decide +kernel
theorem dL_law_605 : decode cL_law 605 = .ok (.iload_n 3, 1) := by decide +kernel
theorem dL_law_606 : decode cL_law 606 = .ok (.iconst 1, 1) := by decide +kernel
theorem dL_law_607 : decode cL_law 607 = .ok (.iadd, 1) := by decide +kernel
theorem dL_law_608 : decode cL_law 608 = .ok (.iaload, 1) := by decide +kernel
theorem dL_law_609 : decode cL_law 609 = .ok (.invokevirtual 77, 3) := by decide +kernel
theorem dL_law_612 : decode cL_law 612 = .ok (.if_icmp .eq 523, 3) := by decide +kernel
theorem dL_law_615 : decode cL_law 615 = .ok (.iconst 0, 1) := by decide +kernel
theorem dL_law_616 : decode cL_law 616 = .ok (.ireturn, 1) := by decide +kernel
theorem dL_law_617 : decode cL_law 617 = .ok (.aload_n 1, 1) := by decide +kernel
theorem dL_law_618 : decode cL_law 618 = .ok (.aload_n 0, 1) := by decide +kernel
theorem dL_law_619 : decode cL_law 619 = .ok (.iload_n 3, 1) := by decide +kernel
theorem dL_law_620 : decode cL_law 620 = .ok (.iconst 1, 1) := by decide +kernel
theorem dL_law_621 : decode cL_law 621 = .ok (.iadd, 1) := by decide +kernel
theorem dL_law_622 : decode cL_law 622 = .ok (.iaload, 1) := by decide +kernel
theorem dL_law_623 : decode cL_law 623 = .ok (.aload_n 0, 1) := by decide +kernel
theorem dL_law_624 : decode cL_law 624 = .ok (.iload_n 3, 1) := by decide +kernel
theorem dL_law_625 : decode cL_law 625 = .ok (.iconst 2, 1) := by decide +kernel
theorem dL_law_626 : decode cL_law 626 = .ok (.iadd, 1) := by decide +kernel
theorem dL_law_627 : decode cL_law 627 = .ok (.iaload, 1) := by decide +kernel
theorem dL_law_628 : decode cL_law 628 = .ok (.invokevirtual 78, 3) := by decide +kernel
theorem dL_law_631 : decode cL_law 631 = .ok (.aload_n 2, 1) := by decide +kernel
theorem dL_law_632 : decode cL_law 632 = .ok (.aload_n 0, 1) := by decide +kernel
theorem dL_law_633 : decode cL_law 633 = .ok (.iload_n 3, 1) := by decide +kernel
theorem dL_law_634 : decode cL_law 634 = .ok (.iconst 1, 1) := by decide +kernel
theorem dL_law_635 : decode cL_law 635 = .ok (.iadd, 1) := by decide +kernel
theorem dL_law_636 : decode cL_law 636 = .ok (.iaload, 1) := by decide +kernel
theorem dL_law_637 : decode cL_law 637 = .ok (.aload_n 0, 1) := by decide +kernel
theorem dL_law_638 : decode cL_law 638 = .ok (.iload_n 3, 1) := by decide +kernel
theorem dL_law_639 : decode cL_law 639 = .ok (.iconst 2, 1) := by decide +kernel
theorem dL_law_640 : decode cL_law 640 = .ok (.iadd, 1) := by decide +kernel
theorem dL_law_641 : decode cL_law 641 = .ok (.iaload, 1) := by decide +kernel
theorem dL_law_642 : decode cL_law 642 = .ok (.invokevirtual 81, 3) := by decide +kernel
theorem dL_law_645 : decode cL_law 645 = .ok (.if_icmp .eq 490, 3) := by decide +kernel
theorem dL_law_648 : decode cL_law 648 = .ok (.iconst 0, 1) := by decide +kernel
theorem dL_law_649 : decode cL_law 649 = .ok (.ireturn, 1) := by decide +kernel
theorem dL_law_650 : decode cL_law 650 = .ok (.aload_n 1, 1) := by decide +kernel
theorem dL_law_651 : decode cL_law 651 = .ok (.aload_n 0, 1) := by decide +kernel
theorem dL_law_652 : decode cL_law 652 = .ok (.iload_n 3, 1) := by decide +kernel
theorem dL_law_653 : decode cL_law 653 = .ok (.iconst 1, 1) := by decide +kernel
theorem dL_law_654 : decode cL_law 654 = .ok (.iadd, 1) := by decide +kernel
theorem dL_law_655 : decode cL_law 655 = .ok (.iaload, 1) := by decide +kernel
theorem dL_law_656 : decode cL_law 656 = .ok (.aload_n 0, 1) := by decide +kernel
theorem dL_law_657 : decode cL_law 657 = .ok (.iload_n 3, 1) := by decide +kernel
theorem dL_law_658 : decode cL_law 658 = .ok (.iconst 2, 1) := by decide +kernel
theorem dL_law_659 : decode cL_law 659 = .ok (.iadd, 1) := by decide +kernel
theorem dL_law_660 : decode cL_law 660 = .ok (.iaload, 1) := by decide +kernel
theorem dL_law_661 : decode cL_law 661 = .ok (.invokevirtual 82, 3) := by decide +kernel
theorem dL_law_664 : decode cL_law 664 = .ok (.aload_n 2, 1) := by decide +kernel
theorem dL_law_665 : decode cL_law 665 = .ok (.aload_n 0, 1) := by decide +kernel
theorem dL_law_666 : decode cL_law 666 = .ok (.iload_n 3, 1) := by decide +kernel
theorem dL_law_667 : decode cL_law 667 = .ok (.iconst 1, 1) := by decide +kernel
theorem dL_law_668 : decode cL_law 668 = .ok (.iadd, 1) := by decide +kernel
theorem dL_law_669 : decode cL_law 669 = .ok (.iaload, 1) := by decide +kernel
theorem dL_law_670 : decode cL_law 670 = .ok (.aload_n 0, 1) := by decide +kernel
theorem dL_law_671 : decode cL_law 671 = .ok (.iload_n 3, 1) := by decide +kernel
theorem dL_law_672 : decode cL_law 672 = .ok (.iconst 2, 1) := by decide +kernel
theorem dL_law_673 : decode cL_law 673 = .ok (.iadd, 1) := by decide +kernel
theorem dL_law_674 : decode cL_law 674 = .ok (.iaload, 1) := by decide +kernel
theorem dL_law_675 : decode cL_law 675 = .ok (.invokevirtual 85, 3) := by decide +kernel
theorem dL_law_678 : decode cL_law 678 = .ok (.if_icmp .eq 457, 3) := by decide +kernel
theorem dL_law_681 : decode cL_law 681 = .ok (.iconst 0, 1) := by decide +kernel
theorem dL_law_682 : decode cL_law 682 = .ok (.ireturn, 1) := by decide +kernel
theorem dL_law_683 : decode cL_law 683 = .ok (.aload_n 1, 1) := by decide +kernel
theorem dL_law_684 : decode cL_law 684 = .ok (.aload_n 0, 1) := by decide +kernel
theorem dL_law_685 : decode cL_law 685 = .ok (.iload_n 3, 1) := by decide +kernel
theorem dL_law_686 : decode cL_law 686 = .ok (.iconst 1, 1) := by decide +kernel
theorem dL_law_687 : decode cL_law 687 = .ok (.iadd, 1) := by decide +kernel
theorem dL_law_688 : decode cL_law 688 = .ok (.iaload, 1) := by decide +kernel
theorem dL_law_689 : decode cL_law 689 = .ok (.aload_n 0, 1) := by decide +kernel
theorem dL_law_690 : decode cL_law 690 = .ok (.iload_n 3, 1) := by decide +kernel
theorem dL_law_691 : decode cL_law 691 = .ok (.iconst 2, 1) := by decide +kernel
theorem dL_law_692 : decode cL_law 692 = .ok (.iadd, 1) := by decide +kernel
theorem dL_law_693 : decode cL_law 693 = .ok (.iaload, 1) := by decide +kernel
theorem dL_law_694 : decode cL_law 694 = .ok (.invokevirtual 86, 3) := by decide +kernel
theorem dL_law_697 : decode cL_law 697 = .ok (.aload_n 2, 1) := by decide +kernel
theorem dL_law_698 : decode cL_law 698 = .ok (.aload_n 0, 1) := by decide +kernel
theorem dL_law_699 : decode cL_law 699 = .ok (.iload_n 3, 1) := by decide +kernel
theorem dL_law_700 : decode cL_law 700 = .ok (.iconst 1, 1) := by decide +kernel
theorem dL_law_701 : decode cL_law 701 = .ok (.iadd, 1) := by decide +kernel
theorem dL_law_702 : decode cL_law 702 = .ok (.iaload, 1) := by decide +kernel
theorem dL_law_703 : decode cL_law 703 = .ok (.aload_n 0, 1) := by decide +kernel
theorem dL_law_704 : decode cL_law 704 = .ok (.iload_n 3, 1) := by decide +kernel
theorem dL_law_705 : decode cL_law 705 = .ok (.iconst 2, 1) := by decide +kernel
theorem dL_law_706 : decode cL_law 706 = .ok (.iadd, 1) := by decide +kernel
theorem dL_law_707 : decode cL_law 707 = .ok (.iaload, 1) := by decide +kernel
theorem dL_law_708 : decode cL_law 708 = .ok (.invokevirtual 89, 3) := by decide +kernel
theorem dL_law_711 : decode cL_law 711 = .ok (.if_icmp .eq 424, 3) := by decide +kernel
theorem dL_law_714 : decode cL_law 714 = .ok (.iconst 0, 1) := by decide +kernel
theorem dL_law_715 : decode cL_law 715 = .ok (.ireturn, 1) := by decide +kernel
theorem dL_law_716 : decode cL_law 716 = .ok (.aload_n 1, 1) := by decide +kernel
theorem dL_law_717 : decode cL_law 717 = .ok (.aload_n 0, 1) := by decide +kernel
theorem dL_law_718 : decode cL_law 718 = .ok (.iload_n 3, 1) := by decide +kernel
theorem dL_law_719 : decode cL_law 719 = .ok (.iconst 1, 1) := by decide +kernel
theorem dL_law_720 : decode cL_law 720 = .ok (.iadd, 1) := by decide +kernel
theorem dL_law_721 : decode cL_law 721 = .ok (.iaload, 1) := by decide +kernel
theorem dL_law_722 : decode cL_law 722 = .ok (.aload_n 0, 1) := by decide +kernel
theorem dL_law_723 : decode cL_law 723 = .ok (.iload_n 3, 1) := by decide +kernel
theorem dL_law_724 : decode cL_law 724 = .ok (.iconst 2, 1) := by decide +kernel
theorem dL_law_725 : decode cL_law 725 = .ok (.iadd, 1) := by decide +kernel
theorem dL_law_726 : decode cL_law 726 = .ok (.iaload, 1) := by decide +kernel
theorem dL_law_727 : decode cL_law 727 = .ok (.invokevirtual 90, 3) := by decide +kernel
theorem dL_law_730 : decode cL_law 730 = .ok (.aload_n 2, 1) := by decide +kernel
theorem dL_law_731 : decode cL_law 731 = .ok (.aload_n 0, 1) := by decide +kernel
theorem dL_law_732 : decode cL_law 732 = .ok (.iload_n 3, 1) := by decide +kernel
theorem dL_law_733 : decode cL_law 733 = .ok (.iconst 1, 1) := by decide +kernel
theorem dL_law_734 : decode cL_law 734 = .ok (.iadd, 1) := by decide +kernel
theorem dL_law_735 : decode cL_law 735 = .ok (.iaload, 1) := by decide +kernel
theorem dL_law_736 : decode cL_law 736 = .ok (.aload_n 0, 1) := by decide +kernel
theorem dL_law_737 : decode cL_law 737 = .ok (.iload_n 3, 1) := by decide +kernel
theorem dL_law_738 : decode cL_law 738 = .ok (.iconst 2, 1) := by decide +kernel
theorem dL_law_739 : decode cL_law 739 = .ok (.iadd, 1) := by decide +kernel
theorem dL_law_740 : decode cL_law 740 = .ok (.iaload, 1) := by decide +kernel
theorem dL_law_741 : decode cL_law 741 = .ok (.invokevirtual 93, 3) := by decide +kernel
theorem dL_law_744 : decode cL_law 744 = .ok (.if_icmp .eq 391, 3) := by decide +kernel
theorem dL_law_747 : decode cL_law 747 = .ok (.iconst 0, 1) := by decide +kernel
theorem dL_law_748 : decode cL_law 748 = .ok (.ireturn, 1) := by decide +kernel
theorem dL_law_749 : decode cL_law 749 = .ok (.aload_n 1, 1) := by decide +kernel
theorem dL_law_750 : decode cL_law 750 = .ok (.aload_n 0, 1) := by decide +kernel
theorem dL_law_751 : decode cL_law 751 = .ok (.iload_n 3, 1) := by decide +kernel
theorem dL_law_752 : decode cL_law 752 = .ok (.iconst 1, 1) := by decide +kernel
theorem dL_law_753 : decode cL_law 753 = .ok (.iadd, 1) := by decide +kernel
theorem dL_law_754 : decode cL_law 754 = .ok (.iaload, 1) := by decide +kernel
theorem dL_law_755 : decode cL_law 755 = .ok (.aload_n 0, 1) := by decide +kernel
theorem dL_law_756 : decode cL_law 756 = .ok (.iload_n 3, 1) := by decide +kernel
theorem dL_law_757 : decode cL_law 757 = .ok (.iconst 2, 1) := by decide +kernel
theorem dL_law_758 : decode cL_law 758 = .ok (.iadd, 1) := by decide +kernel
theorem dL_law_759 : decode cL_law 759 = .ok (.iaload, 1) := by decide +kernel
theorem dL_law_760 : decode cL_law 760 = .ok (.aload_n 0, 1) := by decide +kernel
theorem dL_law_761 : decode cL_law 761 = .ok (.iload_n 3, 1) := by decide +kernel
theorem dL_law_762 : decode cL_law 762 = .ok (.iconst 3, 1) := by decide +kernel
theorem dL_law_763 : decode cL_law 763 = .ok (.iadd, 1) := by decide +kernel
theorem dL_law_764 : decode cL_law 764 = .ok (.iaload, 1) := by decide +kernel
theorem dL_law_765 : decode cL_law 765 = .ok (.invokevirtual 94, 3) := by decide +kernel
theorem dL_law_768 : decode cL_law 768 = .ok (.aload_n 2, 1) := by decide +kernel
theorem dL_law_769 : decode cL_law 769 = .ok (.aload_n 0, 1) := by decide +kernel
theorem dL_law_770 : decode cL_law 770 = .ok (.iload_n 3, 1) := by decide +kernel
theorem dL_law_771 : decode cL_law 771 = .ok (.iconst 1, 1) := by decide +kernel
theorem dL_law_772 : decode cL_law 772 = .ok (.iadd, 1) := by decide +kernel
theorem dL_law_773 : decode cL_law 773 = .ok (.iaload, 1) := by decide +kernel
theorem dL_law_774 : decode cL_law 774 = .ok (.aload_n 0, 1) := by decide +kernel
theorem dL_law_775 : decode cL_law 775 = .ok (.iload_n 3, 1) := by decide +kernel
theorem dL_law_776 : decode cL_law 776 = .ok (.iconst 2, 1) := by decide +kernel
theorem dL_law_777 : decode cL_law 777 = .ok (.iadd, 1) := by decide +kernel
theorem dL_law_778 : decode cL_law 778 = .ok (.iaload, 1) := by decide +kernel
theorem dL_law_779 : decode cL_law 779 = .ok (.aload_n 0, 1) := by decide +kernel
theorem dL_law_780 : decode cL_law 780 = .ok (.iload_n 3, 1) := by decide +kernel
theorem dL_law_781 : decode cL_law 781 = .ok (.iconst 3, 1) := by decide +kernel
theorem dL_law_782 : decode cL_law 782 = .ok (.iadd, 1) := by decide +kernel
theorem dL_law_783 : decode cL_law 783 = .ok (.iaload, 1) := by decide +kernel
theorem dL_law_784 : decode cL_law 784 = .ok (.invokevirtual 97, 3) := by decide +kernel
theorem dL_law_787 : decode cL_law 787 = .ok (.if_icmp .eq 348, 3) := by decide +kernel
theorem dL_law_790 : decode cL_law 790 = .ok (.iconst 0, 1) := by decide +kernel
theorem dL_law_791 : decode cL_law 791 = .ok (.ireturn, 1) := by decide +kernel
theorem dL_law_792 : decode cL_law 792 = .ok (.aload_n 1, 1) := by decide +kernel
theorem dL_law_793 : decode cL_law 793 = .ok (.aload_n 0, 1) := by decide +kernel
theorem dL_law_794 : decode cL_law 794 = .ok (.iload_n 3, 1) := by decide +kernel
theorem dL_law_795 : decode cL_law 795 = .ok (.iconst 1, 1) := by decide +kernel
theorem dL_law_796 : decode cL_law 796 = .ok (.iadd, 1) := by decide +kernel
theorem dL_law_797 : decode cL_law 797 = .ok (.iaload, 1) := by decide +kernel
theorem dL_law_798 : decode cL_law 798 = .ok (.aload_n 0, 1) := by decide +kernel
theorem dL_law_799 : decode cL_law 799 = .ok (.iload_n 3, 1) := by decide +kernel
theorem dL_law_800 : decode cL_law 800 = .ok (.iconst 2, 1) := by decide +kernel
theorem dL_law_801 : decode cL_law 801 = .ok (.iadd, 1) := by decide +kernel
theorem dL_law_802 : decode cL_law 802 = .ok (.iaload, 1) := by decide +kernel
theorem dL_law_803 : decode cL_law 803 = .ok (.aload_n 0, 1) := by decide +kernel
theorem dL_law_804 : decode cL_law 804 = .ok (.iload_n 3, 1) := by decide +kernel
theorem dL_law_805 : decode cL_law 805 = .ok (.iconst 3, 1) := by decide +kernel
theorem dL_law_806 : decode cL_law 806 = .ok (.iadd, 1) := by decide +kernel
theorem dL_law_807 : decode cL_law 807 = .ok (.iaload, 1) := by decide +kernel
theorem dL_law_808 : decode cL_law 808 = .ok (.aload_n 0, 1) := by decide +kernel
theorem dL_law_809 : decode cL_law 809 = .ok (.iload_n 3, 1) := by decide +kernel
theorem dL_law_810 : decode cL_law 810 = .ok (.iconst 4, 1) := by decide +kernel
theorem dL_law_811 : decode cL_law 811 = .ok (.iadd, 1) := by decide +kernel
theorem dL_law_812 : decode cL_law 812 = .ok (.iaload, 1) := by decide +kernel
theorem dL_law_813 : decode cL_law 813 = .ok (.aload_n 0, 1) := by decide +kernel
theorem dL_law_814 : decode cL_law 814 = .ok (.iload_n 3, 1) := by decide +kernel
theorem dL_law_815 : decode cL_law 815 = .ok (.iconst 5, 1) := by decide +kernel
theorem dL_law_816 : decode cL_law 816 = .ok (.iadd, 1) := by decide +kernel
theorem dL_law_817 : decode cL_law 817 = .ok (.iaload, 1) := by decide +kernel
theorem dL_law_818 : decode cL_law 818 = .ok (.invokevirtual 98, 3) := by decide +kernel
theorem dL_law_821 : decode cL_law 821 = .ok (.aload_n 2, 1) := by decide +kernel
theorem dL_law_822 : decode cL_law 822 = .ok (.aload_n 0, 1) := by decide +kernel
theorem dL_law_823 : decode cL_law 823 = .ok (.iload_n 3, 1) := by decide +kernel
theorem dL_law_824 : decode cL_law 824 = .ok (.iconst 1, 1) := by decide +kernel
theorem dL_law_825 : decode cL_law 825 = .ok (.iadd, 1) := by decide +kernel
theorem dL_law_826 : decode cL_law 826 = .ok (.iaload, 1) := by decide +kernel
theorem dL_law_827 : decode cL_law 827 = .ok (.aload_n 0, 1) := by decide +kernel
theorem dL_law_828 : decode cL_law 828 = .ok (.iload_n 3, 1) := by decide +kernel
theorem dL_law_829 : decode cL_law 829 = .ok (.iconst 2, 1) := by decide +kernel
theorem dL_law_830 : decode cL_law 830 = .ok (.iadd, 1) := by decide +kernel
theorem dL_law_831 : decode cL_law 831 = .ok (.iaload, 1) := by decide +kernel
theorem dL_law_832 : decode cL_law 832 = .ok (.aload_n 0, 1) := by decide +kernel
theorem dL_law_833 : decode cL_law 833 = .ok (.iload_n 3, 1) := by decide +kernel
theorem dL_law_834 : decode cL_law 834 = .ok (.iconst 3, 1) := by decide +kernel
theorem dL_law_835 : decode cL_law 835 = .ok (.iadd, 1) := by decide +kernel
theorem dL_law_836 : decode cL_law 836 = .ok (.iaload, 1) := by decide +kernel
theorem dL_law_837 : decode cL_law 837 = .ok (.aload_n 0, 1) := by decide +kernel
theorem dL_law_838 : decode cL_law 838 = .ok (.iload_n 3, 1) := by decide +kernel
theorem dL_law_839 : decode cL_law 839 = .ok (.iconst 4, 1) := by decide +kernel
theorem dL_law_840 : decode cL_law 840 = .ok (.iadd, 1) := by decide +kernel
theorem dL_law_841 : decode cL_law 841 = .ok (.iaload, 1) := by decide +kernel
theorem dL_law_842 : decode cL_law 842 = .ok (.aload_n 0, 1) := by decide +kernel
theorem dL_law_843 : decode cL_law 843 = .ok (.iload_n 3, 1) := by decide +kernel
theorem dL_law_844 : decode cL_law 844 = .ok (.iconst 5, 1) := by decide +kernel
theorem dL_law_845 : decode cL_law 845 = .ok (.iadd, 1) := by decide +kernel
theorem dL_law_846 : decode cL_law 846 = .ok (.iaload, 1) := by decide +kernel
theorem dL_law_847 : decode cL_law 847 = .ok (.invokevirtual 101, 3) := by decide +kernel
theorem dL_law_850 : decode cL_law 850 = .ok (.if_icmp .eq 285, 3) := by decide +kernel
theorem dL_law_853 : decode cL_law 853 = .ok (.iconst 0, 1) := by decide +kernel
theorem dL_law_854 : decode cL_law 854 = .ok (.ireturn, 1) := by decide +kernel
theorem dL_law_855 : decode cL_law 855 = .ok (.aload_n 1, 1) := by decide +kernel
theorem dL_law_856 : decode cL_law 856 = .ok (.aload_n 0, 1) := by decide +kernel
theorem dL_law_857 : decode cL_law 857 = .ok (.iload_n 3, 1) := by decide +kernel
theorem dL_law_858 : decode cL_law 858 = .ok (.iconst 1, 1) := by decide +kernel
theorem dL_law_859 : decode cL_law 859 = .ok (.iadd, 1) := by decide +kernel
theorem dL_law_860 : decode cL_law 860 = .ok (.iaload, 1) := by decide +kernel
theorem dL_law_861 : decode cL_law 861 = .ok (.aload_n 0, 1) := by decide +kernel
theorem dL_law_862 : decode cL_law 862 = .ok (.iload_n 3, 1) := by decide +kernel
theorem dL_law_863 : decode cL_law 863 = .ok (.iconst 2, 1) := by decide +kernel
theorem dL_law_864 : decode cL_law 864 = .ok (.iadd, 1) := by decide +kernel
theorem dL_law_865 : decode cL_law 865 = .ok (.iaload, 1) := by decide +kernel
theorem dL_law_866 : decode cL_law 866 = .ok (.aload_n 0, 1) := by decide +kernel
theorem dL_law_867 : decode cL_law 867 = .ok (.iload_n 3, 1) := by decide +kernel
theorem dL_law_868 : decode cL_law 868 = .ok (.iconst 3, 1) := by decide +kernel
theorem dL_law_869 : decode cL_law 869 = .ok (.iadd, 1) := by decide +kernel
theorem dL_law_870 : decode cL_law 870 = .ok (.iaload, 1) := by decide +kernel
theorem dL_law_871 : decode cL_law 871 = .ok (.invokevirtual 102, 3) := by decide +kernel
theorem dL_law_874 : decode cL_law 874 = .ok (.aload_n 2, 1) := by decide +kernel
theorem dL_law_875 : decode cL_law 875 = .ok (.aload_n 0, 1) := by decide +kernel
theorem dL_law_876 : decode cL_law 876 = .ok (.iload_n 3, 1) := by decide +kernel
theorem dL_law_877 : decode cL_law 877 = .ok (.iconst 1, 1) := by decide +kernel
theorem dL_law_878 : decode cL_law 878 = .ok (.iadd, 1) := by decide +kernel
theorem dL_law_879 : decode cL_law 879 = .ok (.iaload, 1) := by decide +kernel
theorem dL_law_880 : decode cL_law 880 = .ok (.aload_n 0, 1) := by decide +kernel
theorem dL_law_881 : decode cL_law 881 = .ok (.iload_n 3, 1) := by decide +kernel
theorem dL_law_882 : decode cL_law 882 = .ok (.iconst 2, 1) := by decide +kernel
theorem dL_law_883 : decode cL_law 883 = .ok (.iadd, 1) := by decide +kernel
theorem dL_law_884 : decode cL_law 884 = .ok (.iaload, 1) := by decide +kernel
theorem dL_law_885 : decode cL_law 885 = .ok (.aload_n 0, 1) := by decide +kernel
theorem dL_law_886 : decode cL_law 886 = .ok (.iload_n 3, 1) := by decide +kernel
theorem dL_law_887 : decode cL_law 887 = .ok (.iconst 3, 1) := by decide +kernel
theorem dL_law_888 : decode cL_law 888 = .ok (.iadd, 1) := by decide +kernel
theorem dL_law_889 : decode cL_law 889 = .ok (.iaload, 1) := by decide +kernel
theorem dL_law_890 : decode cL_law 890 = .ok (.invokevirtual 105, 3) := by decide +kernel
theorem dL_law_893 : decode cL_law 893 = .ok (.if_icmp .eq 242, 3) := by decide +kernel
theorem dL_law_896 : decode cL_law 896 = .ok (.iconst 0, 1) := by decide +kernel
theorem dL_law_897 : decode cL_law 897 = .ok (.ireturn, 1) := by decide +kernel
theorem dL_law_898 : decode cL_law 898 = .ok (.aload_n 1, 1) := by decide +kernel
theorem dL_law_899 : decode cL_law 899 = .ok (.aload_n 0, 1) := by decide +kernel
theorem dL_law_900 : decode cL_law 900 = .ok (.iload_n 3, 1) := by decide +kernel
theorem dL_law_901 : decode cL_law 901 = .ok (.iconst 1, 1) := by decide +kernel
theorem dL_law_902 : decode cL_law 902 = .ok (.iadd, 1) := by decide +kernel
theorem dL_law_903 : decode cL_law 903 = .ok (.iaload, 1) := by decide +kernel
theorem dL_law_904 : decode cL_law 904 = .ok (.aload_n 0, 1) := by decide +kernel
theorem dL_law_905 : decode cL_law 905 = .ok (.iload_n 3, 1) := by decide +kernel
theorem dL_law_906 : decode cL_law 906 = .ok (.iconst 2, 1) := by decide +kernel
theorem dL_law_907 : decode cL_law 907 = .ok (.iadd, 1) := by decide +kernel
theorem dL_law_908 : decode cL_law 908 = .ok (.iaload, 1) := by decide +kernel
theorem dL_law_909 : decode cL_law 909 = .ok (.aload_n 0, 1) := by decide +kernel
theorem dL_law_910 : decode cL_law 910 = .ok (.iload_n 3, 1) := by decide +kernel
theorem dL_law_911 : decode cL_law 911 = .ok (.iconst 3, 1) := by decide +kernel
theorem dL_law_912 : decode cL_law 912 = .ok (.iadd, 1) := by decide +kernel
theorem dL_law_913 : decode cL_law 913 = .ok (.iaload, 1) := by decide +kernel
theorem dL_law_914 : decode cL_law 914 = .ok (.invokevirtual 106, 3) := by decide +kernel
theorem dL_law_917 : decode cL_law 917 = .ok (.aload_n 2, 1) := by decide +kernel
theorem dL_law_918 : decode cL_law 918 = .ok (.aload_n 0, 1) := by decide +kernel
theorem dL_law_919 : decode cL_law 919 = .ok (.iload_n 3, 1) := by decide +kernel
theorem dL_law_920 : decode cL_law 920 = .ok (.iconst 1, 1) := by decide +kernel
theorem dL_law_921 : decode cL_law 921 = .ok (.iadd, 1) := by decide +kernel
theorem dL_law_922 : decode cL_law 922 = .ok (.iaload, 1) := by decide +kernel
theorem dL_law_923 : decode cL_law 923 = .ok (.aload_n 0, 1) := by decide +kernel
theorem dL_law_924 : decode cL_law 924 = .ok (.iload_n 3, 1) := by decide +kernel
theorem dL_law_925 : decode cL_law 925 = .ok (.iconst 2, 1) := by decide +kernel
theorem dL_law_926 : decode cL_law 926 = .ok (.iadd, 1) := by decide +kernel
theorem dL_law_927 : decode cL_law 927 = .ok (.iaload, 1) := by decide +kernel
theorem dL_law_928 : decode cL_law 928 = .ok (.aload_n 0, 1) := by decide +kernel
theorem dL_law_929 : decode cL_law 929 = .ok (.iload_n 3, 1) := by decide +kernel
theorem dL_law_930 : decode cL_law 930 = .ok (.iconst 3, 1) := by decide +kernel
theorem dL_law_931 : decode cL_law 931 = .ok (.iadd, 1) := by decide +kernel
theorem dL_law_932 : decode cL_law 932 = .ok (.iaload, 1) := by decide +kernel
theorem dL_law_933 : decode cL_law 933 = .ok (.invokevirtual 109, 3) := by decide +kernel
theorem dL_law_936 : decode cL_law 936 = .ok (.if_icmp .eq 199, 3) := by decide +kernel
theorem dL_law_939 : decode cL_law 939 = .ok (.iconst 0, 1) := by decide +kernel
theorem dL_law_940 : decode cL_law 940 = .ok (.ireturn, 1) := by decide +kernel
theorem dL_law_941 : decode cL_law 941 = .ok (.aload_n 1, 1) := by decide +kernel
theorem dL_law_942 : decode cL_law 942 = .ok (.aload_n 0, 1) := by decide +kernel
theorem dL_law_943 : decode cL_law 943 = .ok (.iload_n 3, 1) := by decide +kernel
theorem dL_law_944 : decode cL_law 944 = .ok (.iconst 1, 1) := by decide +kernel
theorem dL_law_945 : decode cL_law 945 = .ok (.iadd, 1) := by decide +kernel
theorem dL_law_946 : decode cL_law 946 = .ok (.iaload, 1) := by decide +kernel
theorem dL_law_947 : decode cL_law 947 = .ok (.invokevirtual 110, 3) := by decide +kernel
theorem dL_law_950 : decode cL_law 950 = .ok (.aload_n 2, 1) := by decide +kernel
theorem dL_law_951 : decode cL_law 951 = .ok (.aload_n 0, 1) := by decide +kernel
theorem dL_law_952 : decode cL_law 952 = .ok (.iload_n 3, 1) := by decide +kernel
theorem dL_law_953 : decode cL_law 953 = .ok (.iconst 1, 1) := by decide +kernel
theorem dL_law_954 : decode cL_law 954 = .ok (.iadd, 1) := by decide +kernel
theorem dL_law_955 : decode cL_law 955 = .ok (.iaload, 1) := by decide +kernel
theorem dL_law_956 : decode cL_law 956 = .ok (.invokevirtual 113, 3) := by decide +kernel
theorem dL_law_959 : decode cL_law 959 = .ok (.if_icmp .eq 176, 3) := by decide +kernel
theorem dL_law_962 : decode cL_law 962 = .ok (.iconst 0, 1) := by decide +kernel
theorem dL_law_963 : decode cL_law 963 = .ok (.ireturn, 1) := by decide +kernel
theorem dL_law_964 : decode cL_law 964 = .ok (.aload_n 1, 1) := by decide +kernel
theorem dL_law_965 : decode cL_law 965 = .ok (.aload_n 0, 1) := by decide +kernel
theorem dL_law_966 : decode cL_law 966 = .ok (.iload_n 3, 1) := by decide +kernel
theorem dL_law_967 : decode cL_law 967 = .ok (.iconst 1, 1) := by decide +kernel
theorem dL_law_968 : decode cL_law 968 = .ok (.iadd, 1) := by decide +kernel
theorem dL_law_969 : decode cL_law 969 = .ok (.iaload, 1) := by decide +kernel
theorem dL_law_970 : decode cL_law 970 = .ok (.invokevirtual 114, 3) := by decide +kernel
theorem dL_law_973 : decode cL_law 973 = .ok (.aload_n 2, 1) := by decide +kernel
theorem dL_law_974 : decode cL_law 974 = .ok (.aload_n 0, 1) := by decide +kernel
theorem dL_law_975 : decode cL_law 975 = .ok (.iload_n 3, 1) := by decide +kernel
theorem dL_law_976 : decode cL_law 976 = .ok (.iconst 1, 1) := by decide +kernel
theorem dL_law_977 : decode cL_law 977 = .ok (.iadd, 1) := by decide +kernel
theorem dL_law_978 : decode cL_law 978 = .ok (.iaload, 1) := by decide +kernel
theorem dL_law_979 : decode cL_law 979 = .ok (.invokevirtual 117, 3) := by decide +kernel
theorem dL_law_982 : decode cL_law 982 = .ok (.if_icmp .eq 153, 3) := by decide +kernel
theorem dL_law_985 : decode cL_law 985 = .ok (.iconst 0, 1) := by decide +kernel
theorem dL_law_986 : decode cL_law 986 = .ok (.ireturn, 1) := by decide +kernel
theorem dL_law_987 : decode cL_law 987 = .ok (.aload_n 1, 1) := by decide +kernel
theorem dL_law_988 : decode cL_law 988 = .ok (.aload_n 0, 1) := by decide +kernel
theorem dL_law_989 : decode cL_law 989 = .ok (.iload_n 3, 1) := by decide +kernel
theorem dL_law_990 : decode cL_law 990 = .ok (.iconst 1, 1) := by decide +kernel
theorem dL_law_991 : decode cL_law 991 = .ok (.iadd, 1) := by decide +kernel
theorem dL_law_992 : decode cL_law 992 = .ok (.iaload, 1) := by decide +kernel
theorem dL_law_993 : decode cL_law 993 = .ok (.invokevirtual 118, 3) := by decide +kernel
theorem dL_law_996 : decode cL_law 996 = .ok (.aload_n 2, 1) := by decide +kernel
theorem dL_law_997 : decode cL_law 997 = .ok (.aload_n 0, 1) := by decide +kernel
theorem dL_law_998 : decode cL_law 998 = .ok (.iload_n 3, 1) := by decide +kernel
theorem dL_law_999 : decode cL_law 999 = .ok (.iconst 1, 1) := by decide +kernel
theorem dL_law_1000 : decode cL_law 1000 = .ok (.iadd, 1) := by decide +kernel
theorem dL_law_1001 : decode cL_law 1001 = .ok (.iaload, 1) := by decide +kernel
theorem dL_law_1002 : decode cL_law 1002 = .ok (.invokevirtual 121, 3) := by decide +kernel
theorem dL_law_1005 : decode cL_law 1005 = .ok (.if_icmp .eq 130, 3) := by decide +kernel
theorem dL_law_1008 : decode cL_law 1008 = .ok (.iconst 0, 1) := by decide +kernel
theorem dL_law_1009 : decode cL_law 1009 = .ok (.ireturn, 1) := by decide +kernel
theorem dL_law_1010 : decode cL_law 1010 = .ok (.aload_n 1, 1) := by decide +kernel
theorem dL_law_1011 : decode cL_law 1011 = .ok (.aload_n 0, 1) := by decide +kernel
theorem dL_law_1012 : decode cL_law 1012 = .ok (.iload_n 3, 1) := by decide +kernel
theorem dL_law_1013 : decode cL_law 1013 = .ok (.iconst 1, 1) := by decide +kernel
theorem dL_law_1014 : decode cL_law 1014 = .ok (.iadd, 1) := by decide +kernel
theorem dL_law_1015 : decode cL_law 1015 = .ok (.iaload, 1) := by decide +kernel
theorem dL_law_1016 : decode cL_law 1016 = .ok (.aload_n 0, 1) := by decide +kernel
theorem dL_law_1017 : decode cL_law 1017 = .ok (.iload_n 3, 1) := by decide +kernel
theorem dL_law_1018 : decode cL_law 1018 = .ok (.iconst 2, 1) := by decide +kernel
theorem dL_law_1019 : decode cL_law 1019 = .ok (.iadd, 1) := by decide +kernel
theorem dL_law_1020 : decode cL_law 1020 = .ok (.iaload, 1) := by decide +kernel
theorem dL_law_1021 : decode cL_law 1021 = .ok (.invokevirtual 122, 3) := by decide +kernel
theorem dL_law_1024 : decode cL_law 1024 = .ok (.aload_n 2, 1) := by decide +kernel
theorem dL_law_1025 : decode cL_law 1025 = .ok (.aload_n 0, 1) := by decide +kernel
theorem dL_law_1026 : decode cL_law 1026 = .ok (.iload_n 3, 1) := by decide +kernel
theorem dL_law_1027 : decode cL_law 1027 = .ok (.iconst 1, 1) := by decide +kernel
theorem dL_law_1028 : decode cL_law 1028 = .ok (.iadd, 1) := by decide +kernel
theorem dL_law_1029 : decode cL_law 1029 = .ok (.iaload, 1) := by decide +kernel
theorem dL_law_1030 : decode cL_law 1030 = .ok (.aload_n 0, 1) := by decide +kernel
theorem dL_law_1031 : decode cL_law 1031 = .ok (.iload_n 3, 1) := by decide +kernel
theorem dL_law_1032 : decode cL_law 1032 = .ok (.iconst 2, 1) := by decide +kernel
theorem dL_law_1033 : decode cL_law 1033 = .ok (.iadd, 1) := by decide +kernel
theorem dL_law_1034 : decode cL_law 1034 = .ok (.iaload, 1) := by decide +kernel
theorem dL_law_1035 : decode cL_law 1035 = .ok (.invokevirtual 125, 3) := by decide +kernel
theorem dL_law_1038 : decode cL_law 1038 = .ok (.if_icmp .eq 97, 3) := by decide +kernel
theorem dL_law_1041 : decode cL_law 1041 = .ok (.iconst 0, 1) := by decide +kernel
theorem dL_law_1042 : decode cL_law 1042 = .ok (.ireturn, 1) := by decide +kernel
theorem dL_law_1043 : decode cL_law 1043 = .ok (.aload_n 1, 1) := by decide +kernel
theorem dL_law_1044 : decode cL_law 1044 = .ok (.aload_n 0, 1) := by decide +kernel
theorem dL_law_1045 : decode cL_law 1045 = .ok (.iload_n 3, 1) := by decide +kernel
theorem dL_law_1046 : decode cL_law 1046 = .ok (.iconst 1, 1) := by decide +kernel
theorem dL_law_1047 : decode cL_law 1047 = .ok (.iadd, 1) := by decide +kernel
theorem dL_law_1048 : decode cL_law 1048 = .ok (.iaload, 1) := by decide +kernel
theorem dL_law_1049 : decode cL_law 1049 = .ok (.aload_n 0, 1) := by decide +kernel
theorem dL_law_1050 : decode cL_law 1050 = .ok (.iload_n 3, 1) := by decide +kernel
theorem dL_law_1051 : decode cL_law 1051 = .ok (.iconst 2, 1) := by decide +kernel
theorem dL_law_1052 : decode cL_law 1052 = .ok (.iadd, 1) := by decide +kernel
theorem dL_law_1053 : decode cL_law 1053 = .ok (.iaload, 1) := by decide +kernel
theorem dL_law_1054 : decode cL_law 1054 = .ok (.invokevirtual 126, 3) := by decide +kernel
theorem dL_law_1057 : decode cL_law 1057 = .ok (.aload_n 2, 1) := by decide +kernel
theorem dL_law_1058 : decode cL_law 1058 = .ok (.aload_n 0, 1) := by decide +kernel
theorem dL_law_1059 : decode cL_law 1059 = .ok (.iload_n 3, 1) := by decide +kernel
theorem dL_law_1060 : decode cL_law 1060 = .ok (.iconst 1, 1) := by decide +kernel
theorem dL_law_1061 : decode cL_law 1061 = .ok (.iadd, 1) := by decide +kernel
theorem dL_law_1062 : decode cL_law 1062 = .ok (.iaload, 1) := by decide +kernel
theorem dL_law_1063 : decode cL_law 1063 = .ok (.aload_n 0, 1) := by decide +kernel
theorem dL_law_1064 : decode cL_law 1064 = .ok (.iload_n 3, 1) := by decide +kernel
theorem dL_law_1065 : decode cL_law 1065 = .ok (.iconst 2, 1) := by decide +kernel
theorem dL_law_1066 : decode cL_law 1066 = .ok (.iadd, 1) := by decide +kernel
theorem dL_law_1067 : decode cL_law 1067 = .ok (.iaload, 1) := by decide +kernel
theorem dL_law_1068 : decode cL_law 1068 = .ok (.invokevirtual 129, 3) := by decide +kernel
theorem dL_law_1071 : decode cL_law 1071 = .ok (.if_icmp .eq 64, 3) := by decide +kernel
theorem dL_law_1074 : decode cL_law 1074 = .ok (.iconst 0, 1) := by decide +kernel
theorem dL_law_1075 : decode cL_law 1075 = .ok (.ireturn, 1) := by decide +kernel
theorem dL_law_1076 : decode cL_law 1076 = .ok (.aload_n 1, 1) := by decide +kernel
theorem dL_law_1077 : decode cL_law 1077 = .ok (.aload_n 0, 1) := by decide +kernel
theorem dL_law_1078 : decode cL_law 1078 = .ok (.iload_n 3, 1) := by decide +kernel
theorem dL_law_1079 : decode cL_law 1079 = .ok (.iconst 1, 1) := by decide +kernel
theorem dL_law_1080 : decode cL_law 1080 = .ok (.iadd, 1) := by decide +kernel
theorem dL_law_1081 : decode cL_law 1081 = .ok (.iaload, 1) := by decide +kernel
theorem dL_law_1082 : decode cL_law 1082 = .ok (.invokevirtual 130, 3) := by decide +kernel
theorem dL_law_1085 : decode cL_law 1085 = .ok (.aload_n 2, 1) := by decide +kernel
theorem dL_law_1086 : decode cL_law 1086 = .ok (.aload_n 0, 1) := by decide +kernel
theorem dL_law_1087 : decode cL_law 1087 = .ok (.iload_n 3, 1) := by decide +kernel
theorem dL_law_1088 : decode cL_law 1088 = .ok (.iconst 1, 1) := by decide +kernel
theorem dL_law_1089 : decode cL_law 1089 = .ok (.iadd, 1) := by decide +kernel
theorem dL_law_1090 : decode cL_law 1090 = .ok (.iaload, 1) := by decide +kernel
theorem dL_law_1091 : decode cL_law 1091 = .ok (.invokevirtual 133, 3) := by decide +kernel
theorem dL_law_1094 : decode cL_law 1094 = .ok (.if_icmp .eq 41, 3) := by decide +kernel
theorem dL_law_1097 : decode cL_law 1097 = .ok (.iconst 0, 1) := by decide +kernel
theorem dL_law_1098 : decode cL_law 1098 = .ok (.ireturn, 1) := by decide +kernel
theorem dL_law_1099 : decode cL_law 1099 = .ok (.aload_n 1, 1) := by decide +kernel
theorem dL_law_1100 : decode cL_law 1100 = .ok (.aload_n 0, 1) := by decide +kernel
theorem dL_law_1101 : decode cL_law 1101 = .ok (.iload_n 3, 1) := by decide +kernel
theorem dL_law_1102 : decode cL_law 1102 = .ok (.iconst 1, 1) := by decide +kernel
theorem dL_law_1103 : decode cL_law 1103 = .ok (.iadd, 1) := by decide +kernel
theorem dL_law_1104 : decode cL_law 1104 = .ok (.iaload, 1) := by decide +kernel
theorem dL_law_1105 : decode cL_law 1105 = .ok (.invokevirtual 134, 3) := by decide +kernel
theorem dL_law_1108 : decode cL_law 1108 = .ok (.aload_n 2, 1) := by decide +kernel
theorem dL_law_1109 : decode cL_law 1109 = .ok (.aload_n 0, 1) := by decide +kernel
theorem dL_law_1110 : decode cL_law 1110 = .ok (.iload_n 3, 1) := by decide +kernel
theorem dL_law_1111 : decode cL_law 1111 = .ok (.iconst 1, 1) := by decide +kernel
theorem dL_law_1112 : decode cL_law 1112 = .ok (.iadd, 1) := by decide +kernel
theorem dL_law_1113 : decode cL_law 1113 = .ok (.iaload, 1) := by decide +kernel
theorem dL_law_1114 : decode cL_law 1114 = .ok (.invokevirtual 137, 3) := by decide +kernel
theorem dL_law_1117 : decode cL_law 1117 = .ok (.if_icmp .eq 18, 3) := by decide +kernel
theorem dL_law_1120 : decode cL_law 1120 = .ok (.iconst 0, 1) := by decide +kernel
theorem dL_law_1121 : decode cL_law 1121 = .ok (.ireturn, 1) := by decide +kernel
theorem dL_law_1122 : decode cL_law 1122 = .ok (.aload_n 1, 1) := by decide +kernel
theorem dL_law_1123 : decode cL_law 1123 = .ok (.invokevirtual 138, 3) := by decide +kernel
theorem dL_law_1126 : decode cL_law 1126 = .ok (.aload_n 2, 1) := by decide +kernel
theorem dL_law_1127 : decode cL_law 1127 = .ok (.invokevirtual 141, 3) := by decide +kernel
theorem dL_law_1130 : decode cL_law 1130 = .ok (.if_icmp .eq 5, 3) := by decide +kernel
theorem dL_law_1133 : decode cL_law 1133 = .ok (.iconst 0, 1) := by decide +kernel
theorem dL_law_1134 : decode cL_law 1134 = .ok (.ireturn, 1) := by decide +kernel
theorem dL_law_1135 : decode cL_law 1135 = .ok (.iinc 3 6, 3) := by decide +kernel
theorem dL_law_1138 : decode cL_law 1138 = .ok (.goto (-1120), 3) := by decide +kernel
theorem dL_law_1141 : decode cL_law 1141 = .ok (.iconst 1, 1) := by decide +kernel
theorem dL_law_1142 : decode cL_law 1142 = .ok (.ireturn, 1) := by decide +kernel
abbrev vwCl : List vw_C := [(RX0, TX0, 5), (RX1, TX1, 2), (RX2, TX2, 9), (RX3, TX3, 4), (RX4, TX4, 3), (RX5, TX5, 5), (RX6, TX6, 9), (RX7, TX7, 23)]
