section
-- ===== PART A: goes FIRST, ahead of the names: the tables' words, and 'selects' of the private methods out of them =====
/-- a private method of a class that the tables say can be made, by its rows of tables_1 -/
def lw_okq (q : MethodName × Nat) : Prop := (q.1.cls ≠ "java/lang/invoke/MethodHandle" ∧ q.1.cls ≠ "java/lang/invoke/VarHandle") ∧ Cond.instantiable q.1.cls q.2 ∈ tables_1 ∧ Cond.privateMethod q.1 ∈ tables_1 ∧ Cond.instanceMethod q.1 ∈ tables_1
theorem lw_p0 : lw_okq (⟨"TwinFinder$Tape", "putPlain", "(I)V"⟩, 7) := ⟨⟨by decide +kernel, by decide +kernel⟩, List.mem_of_getElem? (i := 35) (by decide +kernel), List.mem_of_getElem? (i := 300) (by decide +kernel), List.mem_of_getElem? (i := 301) (by decide +kernel)⟩
theorem lw_p1 : lw_okq (⟨"TwinFinder", "numberAlongText", "()I"⟩, 9) := ⟨⟨by decide +kernel, by decide +kernel⟩, List.mem_of_getElem? (i := 27) (by decide +kernel), List.mem_of_getElem? (i := 316) (by decide +kernel), List.mem_of_getElem? (i := 317) (by decide +kernel)⟩
theorem lw_p2 : lw_okq (⟨"TwinFinder$Store", "enter", "([BIII)I"⟩, 5) := ⟨⟨by decide +kernel, by decide +kernel⟩, List.mem_of_getElem? (i := 70) (by decide +kernel), List.mem_of_getElem? (i := 330) (by decide +kernel), List.mem_of_getElem? (i := 331) (by decide +kernel)⟩
theorem lw_p3 : lw_okq (⟨"TwinFinder$Store", "isThere", "(I[BII)Z"⟩, 5) := ⟨⟨by decide +kernel, by decide +kernel⟩, List.mem_of_getElem? (i := 70) (by decide +kernel), List.mem_of_getElem? (i := 334) (by decide +kernel), List.mem_of_getElem? (i := 335) (by decide +kernel)⟩
theorem lw_p4 : lw_okq (⟨"java/util/ArrayList", "fastRemove", "([Ljava/lang/Object;I)V"⟩, 3) := ⟨⟨by decide +kernel, by decide +kernel⟩, List.mem_of_getElem? (i := 129) (by decide +kernel), List.mem_of_getElem? (i := 402) (by decide +kernel), List.mem_of_getElem? (i := 403) (by decide +kernel)⟩
theorem lw_p5 : lw_okq (⟨"java/util/ArrayList", "add", "(Ljava/lang/Object;[Ljava/lang/Object;I)V"⟩, 3) := ⟨⟨by decide +kernel, by decide +kernel⟩, List.mem_of_getElem? (i := 129) (by decide +kernel), List.mem_of_getElem? (i := 413) (by decide +kernel), List.mem_of_getElem? (i := 414) (by decide +kernel)⟩
theorem lw_p6 : lw_okq (⟨"java/util/ArrayList", "grow", "()[Ljava/lang/Object;"⟩, 3) := ⟨⟨by decide +kernel, by decide +kernel⟩, List.mem_of_getElem? (i := 129) (by decide +kernel), List.mem_of_getElem? (i := 417) (by decide +kernel), List.mem_of_getElem? (i := 418) (by decide +kernel)⟩
theorem lw_p7 : lw_okq (⟨"java/util/ArrayList", "grow", "(I)[Ljava/lang/Object;"⟩, 3) := ⟨⟨by decide +kernel, by decide +kernel⟩, List.mem_of_getElem? (i := 129) (by decide +kernel), List.mem_of_getElem? (i := 421) (by decide +kernel), List.mem_of_getElem? (i := 422) (by decide +kernel)⟩
theorem lw_p8 : lw_okq (⟨"TwinFinder$Permutations", "placeFor", "(I)I"⟩, 7) := ⟨⟨by decide +kernel, by decide +kernel⟩, List.mem_of_getElem? (i := 94) (by decide +kernel), List.mem_of_getElem? (i := 487) (by decide +kernel), List.mem_of_getElem? (i := 488) (by decide +kernel)⟩
theorem lw_p9 : lw_okq (⟨"TwinFinder$Permutations", "dropMoved", "(I)V"⟩, 7) := ⟨⟨by decide +kernel, by decide +kernel⟩, List.mem_of_getElem? (i := 94) (by decide +kernel), List.mem_of_getElem? (i := 535) (by decide +kernel), List.mem_of_getElem? (i := 536) (by decide +kernel)⟩
theorem lw_p10 : lw_okq (⟨"TwinFinder", "renewImages", "(I)V"⟩, 9) := ⟨⟨by decide +kernel, by decide +kernel⟩, List.mem_of_getElem? (i := 27) (by decide +kernel), List.mem_of_getElem? (i := 539) (by decide +kernel), List.mem_of_getElem? (i := 540) (by decide +kernel)⟩
theorem lw_p11 : lw_okq (⟨"TwinFinder$Permutations", "move", "(II)V"⟩, 7) := ⟨⟨by decide +kernel, by decide +kernel⟩, List.mem_of_getElem? (i := 94) (by decide +kernel), List.mem_of_getElem? (i := 554) (by decide +kernel), List.mem_of_getElem? (i := 555) (by decide +kernel)⟩
theorem lw_p12 : lw_okq (⟨"TwinFinder$Kin", "begin", "(Ljava/util/ArrayList;)V"⟩, 8) := ⟨⟨by decide +kernel, by decide +kernel⟩, List.mem_of_getElem? (i := 193) (by decide +kernel), List.mem_of_getElem? (i := 595) (by decide +kernel), List.mem_of_getElem? (i := 596) (by decide +kernel)⟩
theorem lw_p13 : lw_okq (⟨"TwinFinder$Kin", "compare", "(ILTwinFinder$Document;ILTwinFinder$Document;LTwinFinder$Measure;)V"⟩, 8) := ⟨⟨by decide +kernel, by decide +kernel⟩, List.mem_of_getElem? (i := 193) (by decide +kernel), List.mem_of_getElem? (i := 603) (by decide +kernel), List.mem_of_getElem? (i := 604) (by decide +kernel)⟩
theorem lw_p14 : lw_okq (⟨"TwinFinder$Measure", "agree", "(LTwinFinder$Document;LTwinFinder$Document;I)Z"⟩, 4) := ⟨⟨by decide +kernel, by decide +kernel⟩, List.mem_of_getElem? (i := 170) (by decide +kernel), List.mem_of_getElem? (i := 611) (by decide +kernel), List.mem_of_getElem? (i := 612) (by decide +kernel)⟩
theorem lw_p15 : lw_okq (⟨"TwinFinder$Kin", "join", "(II)V"⟩, 8) := ⟨⟨by decide +kernel, by decide +kernel⟩, List.mem_of_getElem? (i := 193) (by decide +kernel), List.mem_of_getElem? (i := 631) (by decide +kernel), List.mem_of_getElem? (i := 632) (by decide +kernel)⟩
def lw_privs_1 : List (MethodName × Nat) := [(⟨"TwinFinder$Tape", "putPlain", "(I)V"⟩, 7), (⟨"TwinFinder", "numberAlongText", "()I"⟩, 9), (⟨"TwinFinder$Store", "enter", "([BIII)I"⟩, 5), (⟨"TwinFinder$Store", "isThere", "(I[BII)Z"⟩, 5), (⟨"java/util/ArrayList", "fastRemove", "([Ljava/lang/Object;I)V"⟩, 3), (⟨"java/util/ArrayList", "add", "(Ljava/lang/Object;[Ljava/lang/Object;I)V"⟩, 3), (⟨"java/util/ArrayList", "grow", "()[Ljava/lang/Object;"⟩, 3), (⟨"java/util/ArrayList", "grow", "(I)[Ljava/lang/Object;"⟩, 3), (⟨"TwinFinder$Permutations", "placeFor", "(I)I"⟩, 7), (⟨"TwinFinder$Permutations", "dropMoved", "(I)V"⟩, 7), (⟨"TwinFinder", "renewImages", "(I)V"⟩, 9), (⟨"TwinFinder$Permutations", "move", "(II)V"⟩, 7), (⟨"TwinFinder$Kin", "begin", "(Ljava/util/ArrayList;)V"⟩, 8), (⟨"TwinFinder$Kin", "compare", "(ILTwinFinder$Document;ILTwinFinder$Document;LTwinFinder$Measure;)V"⟩, 8), (⟨"TwinFinder$Measure", "agree", "(LTwinFinder$Document;LTwinFinder$Document;I)Z"⟩, 4), (⟨"TwinFinder$Kin", "join", "(II)V"⟩, 8)]
theorem lw_r1 : ∀ q ∈ lw_privs_1, lw_okq q := List.forall_mem_cons.mpr ⟨lw_p0, List.forall_mem_cons.mpr ⟨lw_p1, List.forall_mem_cons.mpr ⟨lw_p2, List.forall_mem_cons.mpr ⟨lw_p3, List.forall_mem_cons.mpr ⟨lw_p4, List.forall_mem_cons.mpr ⟨lw_p5, List.forall_mem_cons.mpr ⟨lw_p6, List.forall_mem_cons.mpr ⟨lw_p7, List.forall_mem_cons.mpr ⟨lw_p8, List.forall_mem_cons.mpr ⟨lw_p9, List.forall_mem_cons.mpr ⟨lw_p10, List.forall_mem_cons.mpr ⟨lw_p11, List.forall_mem_cons.mpr ⟨lw_p12, List.forall_mem_cons.mpr ⟨lw_p13, List.forall_mem_cons.mpr ⟨lw_p14, List.forall_mem_cons.mpr ⟨lw_p15, fun _ h => absurd h List.not_mem_nil⟩⟩⟩⟩⟩⟩⟩⟩⟩⟩⟩⟩⟩⟩⟩⟩
theorem lw_p16 : lw_okq (⟨"java/lang/Throwable", "fillInStackTrace", "(I)Ljava/lang/Throwable;"⟩, 6) := ⟨⟨by decide +kernel, by decide +kernel⟩, List.mem_of_getElem? (i := 705) (by decide +kernel), List.mem_of_getElem? (i := 703) (by decide +kernel), List.mem_of_getElem? (i := 704) (by decide +kernel)⟩
theorem lw_p17 : lw_okq (⟨"TwinFinder", "documentThere", "(I)LTwinFinder$Document;"⟩, 9) := ⟨⟨by decide +kernel, by decide +kernel⟩, List.mem_of_getElem? (i := 27) (by decide +kernel), List.mem_of_getElem? (i := 786) (by decide +kernel), List.mem_of_getElem? (i := 787) (by decide +kernel)⟩
theorem lw_p18 : lw_okq (⟨"TwinFinder$Shelf", "rankOf", "(LTwinFinder$Document;LTwinFinder$Document;LTwinFinder$Measure;)I"⟩, 4) := ⟨⟨by decide +kernel, by decide +kernel⟩, List.mem_of_getElem? (i := 123) (by decide +kernel), List.mem_of_getElem? (i := 831) (by decide +kernel), List.mem_of_getElem? (i := 832) (by decide +kernel)⟩
theorem lw_p19 : lw_okq (⟨"java/util/ArrayList", "rangeCheckForAdd", "(I)V"⟩, 3) := ⟨⟨by decide +kernel, by decide +kernel⟩, List.mem_of_getElem? (i := 129) (by decide +kernel), List.mem_of_getElem? (i := 844) (by decide +kernel), List.mem_of_getElem? (i := 845) (by decide +kernel)⟩
theorem lw_p20 : lw_okq (⟨"TwinFinderModel", "four", "(I)V"⟩, 32) := ⟨⟨by decide +kernel, by decide +kernel⟩, List.mem_of_getElem? (i := 858) (by decide +kernel), List.mem_of_getElem? (i := 856) (by decide +kernel), List.mem_of_getElem? (i := 857) (by decide +kernel)⟩
theorem lw_p21 : lw_okq (⟨"TwinFinderModel", "makePlain", "()V"⟩, 32) := ⟨⟨by decide +kernel, by decide +kernel⟩, List.mem_of_getElem? (i := 858) (by decide +kernel), List.mem_of_getElem? (i := 869) (by decide +kernel), List.mem_of_getElem? (i := 870) (by decide +kernel)⟩
theorem lw_p22 : lw_okq (⟨"TwinFinderModel", "all", "()Z"⟩, 32) := ⟨⟨by decide +kernel, by decide +kernel⟩, List.mem_of_getElem? (i := 858) (by decide +kernel), List.mem_of_getElem? (i := 873) (by decide +kernel), List.mem_of_getElem? (i := 874) (by decide +kernel)⟩
theorem lw_p23 : lw_okq (⟨"TwinFinderModel", "comes", "(II)Z"⟩, 32) := ⟨⟨by decide +kernel, by decide +kernel⟩, List.mem_of_getElem? (i := 858) (by decide +kernel), List.mem_of_getElem? (i := 877) (by decide +kernel), List.mem_of_getElem? (i := 878) (by decide +kernel)⟩
theorem lw_p24 : lw_okq (⟨"TwinFinderModel", "numberOf", "(II)I"⟩, 32) := ⟨⟨by decide +kernel, by decide +kernel⟩, List.mem_of_getElem? (i := 858) (by decide +kernel), List.mem_of_getElem? (i := 881) (by decide +kernel), List.mem_of_getElem? (i := 882) (by decide +kernel)⟩
theorem lw_p25 : lw_okq (⟨"TwinFinderModel", "slot", "(I)I"⟩, 32) := ⟨⟨by decide +kernel, by decide +kernel⟩, List.mem_of_getElem? (i := 858) (by decide +kernel), List.mem_of_getElem? (i := 890) (by decide +kernel), List.mem_of_getElem? (i := 891) (by decide +kernel)⟩
theorem lw_p26 : lw_okq (⟨"TwinFinderModel", "throwsIf", "(Z)Z"⟩, 32) := ⟨⟨by decide +kernel, by decide +kernel⟩, List.mem_of_getElem? (i := 858) (by decide +kernel), List.mem_of_getElem? (i := 898) (by decide +kernel), List.mem_of_getElem? (i := 899) (by decide +kernel)⟩
theorem lw_p27 : lw_okq (⟨"TwinFinderModel", "imageOf", "(II)I"⟩, 32) := ⟨⟨by decide +kernel, by decide +kernel⟩, List.mem_of_getElem? (i := 858) (by decide +kernel), List.mem_of_getElem? (i := 1022) (by decide +kernel), List.mem_of_getElem? (i := 1023) (by decide +kernel)⟩
theorem lw_p28 : lw_okq (⟨"TwinFinderModel", "areTwins", "(II)Z"⟩, 32) := ⟨⟨by decide +kernel, by decide +kernel⟩, List.mem_of_getElem? (i := 858) (by decide +kernel), List.mem_of_getElem? (i := 1039) (by decide +kernel), List.mem_of_getElem? (i := 1040) (by decide +kernel)⟩
theorem lw_p29 : lw_okq (⟨"TwinFinderModel", "band", "(II)I"⟩, 32) := ⟨⟨by decide +kernel, by decide +kernel⟩, List.mem_of_getElem? (i := 858) (by decide +kernel), List.mem_of_getElem? (i := 1043) (by decide +kernel), List.mem_of_getElem? (i := 1044) (by decide +kernel)⟩
theorem lw_p30 : lw_okq (⟨"TwinFinderModel", "sign", "()V"⟩, 32) := ⟨⟨by decide +kernel, by decide +kernel⟩, List.mem_of_getElem? (i := 858) (by decide +kernel), List.mem_of_getElem? (i := 1047) (by decide +kernel), List.mem_of_getElem? (i := 1048) (by decide +kernel)⟩
theorem lw_p31 : lw_okq (⟨"TwinFinderModel", "common", "(II)I"⟩, 32) := ⟨⟨by decide +kernel, by decide +kernel⟩, List.mem_of_getElem? (i := 858) (by decide +kernel), List.mem_of_getElem? (i := 1052) (by decide +kernel), List.mem_of_getElem? (i := 1053) (by decide +kernel)⟩
def lw_privs_2 : List (MethodName × Nat) := [(⟨"java/lang/Throwable", "fillInStackTrace", "(I)Ljava/lang/Throwable;"⟩, 6), (⟨"TwinFinder", "documentThere", "(I)LTwinFinder$Document;"⟩, 9), (⟨"TwinFinder$Shelf", "rankOf", "(LTwinFinder$Document;LTwinFinder$Document;LTwinFinder$Measure;)I"⟩, 4), (⟨"java/util/ArrayList", "rangeCheckForAdd", "(I)V"⟩, 3), (⟨"TwinFinderModel", "four", "(I)V"⟩, 32), (⟨"TwinFinderModel", "makePlain", "()V"⟩, 32), (⟨"TwinFinderModel", "all", "()Z"⟩, 32), (⟨"TwinFinderModel", "comes", "(II)Z"⟩, 32), (⟨"TwinFinderModel", "numberOf", "(II)I"⟩, 32), (⟨"TwinFinderModel", "slot", "(I)I"⟩, 32), (⟨"TwinFinderModel", "throwsIf", "(Z)Z"⟩, 32), (⟨"TwinFinderModel", "imageOf", "(II)I"⟩, 32), (⟨"TwinFinderModel", "areTwins", "(II)Z"⟩, 32), (⟨"TwinFinderModel", "band", "(II)I"⟩, 32), (⟨"TwinFinderModel", "sign", "()V"⟩, 32), (⟨"TwinFinderModel", "common", "(II)I"⟩, 32)]
theorem lw_r2 : ∀ q ∈ lw_privs_2, lw_okq q := List.forall_mem_cons.mpr ⟨lw_p16, List.forall_mem_cons.mpr ⟨lw_p17, List.forall_mem_cons.mpr ⟨lw_p18, List.forall_mem_cons.mpr ⟨lw_p19, List.forall_mem_cons.mpr ⟨lw_p20, List.forall_mem_cons.mpr ⟨lw_p21, List.forall_mem_cons.mpr ⟨lw_p22, List.forall_mem_cons.mpr ⟨lw_p23, List.forall_mem_cons.mpr ⟨lw_p24, List.forall_mem_cons.mpr ⟨lw_p25, List.forall_mem_cons.mpr ⟨lw_p26, List.forall_mem_cons.mpr ⟨lw_p27, List.forall_mem_cons.mpr ⟨lw_p28, List.forall_mem_cons.mpr ⟨lw_p29, List.forall_mem_cons.mpr ⟨lw_p30, List.forall_mem_cons.mpr ⟨lw_p31, fun _ h => absurd h List.not_mem_nil⟩⟩⟩⟩⟩⟩⟩⟩⟩⟩⟩⟩⟩⟩⟩⟩
theorem lw_p32 : lw_okq (⟨"TwinFinderModel", "families", "()V"⟩, 32) := ⟨⟨by decide +kernel, by decide +kernel⟩, List.mem_of_getElem? (i := 858) (by decide +kernel), List.mem_of_getElem? (i := 1056) (by decide +kernel), List.mem_of_getElem? (i := 1057) (by decide +kernel)⟩
theorem lw_p33 : lw_okq (⟨"TwinFinderModel", "inFamily", "(I)I"⟩, 32) := ⟨⟨by decide +kernel, by decide +kernel⟩, List.mem_of_getElem? (i := 858) (by decide +kernel), List.mem_of_getElem? (i := 1060) (by decide +kernel), List.mem_of_getElem? (i := 1061) (by decide +kernel)⟩
theorem lw_p34 : lw_okq (⟨"TwinFinderModel", "isTold", "(II)Z"⟩, 32) := ⟨⟨by decide +kernel, by decide +kernel⟩, List.mem_of_getElem? (i := 858) (by decide +kernel), List.mem_of_getElem? (i := 1084) (by decide +kernel), List.mem_of_getElem? (i := 1085) (by decide +kernel)⟩
theorem lw_p35 : lw_okq (⟨"TwinFinderModel", "isPair", "(III)Z"⟩, 32) := ⟨⟨by decide +kernel, by decide +kernel⟩, List.mem_of_getElem? (i := 858) (by decide +kernel), List.mem_of_getElem? (i := 1088) (by decide +kernel), List.mem_of_getElem? (i := 1089) (by decide +kernel)⟩
theorem lw_p36 : lw_okq (⟨"TwinFinderModel", "isNearer", "(III)Z"⟩, 32) := ⟨⟨by decide +kernel, by decide +kernel⟩, List.mem_of_getElem? (i := 858) (by decide +kernel), List.mem_of_getElem? (i := 1100) (by decide +kernel), List.mem_of_getElem? (i := 1101) (by decide +kernel)⟩
def lw_privs_3 : List (MethodName × Nat) := [(⟨"TwinFinderModel", "families", "()V"⟩, 32), (⟨"TwinFinderModel", "inFamily", "(I)I"⟩, 32), (⟨"TwinFinderModel", "isTold", "(II)Z"⟩, 32), (⟨"TwinFinderModel", "isPair", "(III)Z"⟩, 32), (⟨"TwinFinderModel", "isNearer", "(III)Z"⟩, 32)]
theorem lw_r3 : ∀ q ∈ lw_privs_3, lw_okq q := List.forall_mem_cons.mpr ⟨lw_p32, List.forall_mem_cons.mpr ⟨lw_p33, List.forall_mem_cons.mpr ⟨lw_p34, List.forall_mem_cons.mpr ⟨lw_p35, List.forall_mem_cons.mpr ⟨lw_p36, fun _ h => absurd h List.not_mem_nil⟩⟩⟩⟩⟩
def lw_privs : List (MethodName × Nat) := lw_privs_1 ++ (lw_privs_2 ++ (lw_privs_3))
def lw_tbl : List Cond := k2_sels lw_privs ++ tables_1
theorem lw_privs_ok : ∀ q ∈ lw_privs, lw_okq q := by
  show ∀ q ∈ lw_privs_1 ++ (lw_privs_2 ++ (lw_privs_3)), lw_okq q
  exact List.forall_mem_append.mpr ⟨lw_r1, List.forall_mem_append.mpr ⟨lw_r2, lw_r3⟩⟩
-- ===== end of PART A; then your names; then what follows =====
end
section
/-! ===== BEGIN words of one list among another's, by their places ===== -/
theorem goodIn_r {big : List Cond} (ws : List Cond) (ps : List Nat) (hp : ws = ps.filterMap (fun i => big[i]?)) (h : ws.all goodWord = true) : GoodIn big ws := by
  intro w hw
  have h1 := List.all_eq_true.mp h w hw
  rw [hp] at hw
  obtain ⟨i, -, hi⟩ := List.mem_filterMap.mp hw
  have hm : w ∈ big := by first | exact List.mem_of_getElem? hi | exact List.getElem?_mem hi
  exact ⟨hm, good_of_word h1⟩
theorem goodIn_app {big a b : List Cond} (ha : GoodIn big a) (hb : GoodIn big b) : GoodIn big (a ++ b) := fun w h => (List.mem_append.mp h).elim (ha w) (hb w)
theorem goodIn_ca {big a b : List Cond} {c : Cond} (ha : GoodIn big (c :: a)) (hb : GoodIn big b) : GoodIn big (c :: (a ++ b)) := fun w h => (List.mem_cons.mp h).elim (fun e => ha w (List.mem_cons.mpr (Or.inl e))) (fun h => (List.mem_append.mp h).elim (fun h => ha w (List.mem_cons.mpr (Or.inr h))) (hb w))
theorem goodIn_sub {big ws : List Cond} (hm : ∀ w ∈ ws, w ∈ big) (h : ws.all goodWord = true) : GoodIn big ws := fun w hw => ⟨hm w hw, good_of_word (List.all_eq_true.mp h w hw)⟩
/-! ===== END ===== -/

/-! ===== BEGIN exceptions that leave a method, and their catching by the caller (launches without stack traces) ===== -/
section VXA
/-! The laws vx_back, vx_callV, vx_callS, vx_callSW, vx_throw0, vx_throwS follow proofs of the library, with one case more: JvmDerived/Free/Laws.lean (Back.of_free), Shelf42/LK1.lean (callV, callS), Shelf/KitTraced.lean (throwNew0V, throwNewS). -/
/-- where a method has thrown q: the class by its name, the cell, what was written, the world -/
def vx_T (XC : String → State → State → Prop) (st : State) (q : Addr) (t : State) (mc ms : Nat) (free : Addr → Prop) : Prop :=
  ∃ (E : String) (ce : Cell) (L : List Loc), XC E st t ∧ t.heap[q]? = some ce ∧ ce.vm = .none ∧ st.vm.findClass E = some ce.cls ∧ st.WarmedH t.vm ∧ st.sameButNew ({ t with vm := st.vm } : State) L mc ms ∧ ∀ z ∈ L, free z.base
def vx_Q (Qc : Array Value → State → Outcome → State → Prop) (XC : String → State → State → Prop) (mc ms : Nat) (free : Addr → Prop) : Array Value → State → Outcome → State → Prop := fun a st o t =>
  (Qc a st o t ∧ ∃ L, FrameEnd st o t L mc ms ∧ ∀ q ∈ L, free q.base) ∨ ∃ q, o = .threw q ∧ vx_T XC st q t mc ms free
/-- a callee that returns or throws -/
def vx_Met (l : Launch) (y : MethodName) (ws : List Cond) (rm : Room) (Pc : Array Value → State → Prop) (Qc : Array Value → State → Outcome → State → Prop) (XC : String → State → State → Prop) (mc ms : Nat) (free : Addr → Prop) : Prop :=
  MetFree l y (headSpec ws rm) Pc (fun _ _ _ _ _ => True) (vx_Q Qc XC mc ms free)
def vx_Post (XC : String → State → State → Prop) (mc ms : Nat) (free : Addr → Prop) : Pt → Array Value → Addr → Pt → Prop := fun A a q B =>
  ∃ (g : JFrame) (mk : MethodId) (t : State) (L : List Loc) (E : String) (ce : Cell), B.U.heap = t.heap ∧ B.U.vm = t.vm ∧ XC E (A.U.calling g mk a) t ∧ t.heap[q]? = some ce ∧ ce.vm = .none ∧ A.U.vm.findClass E = some ce.cls ∧ B.locs = A.locs ++ L ∧ (∀ z ∈ L, free z.base) ∧ B.cells = A.cells + mc ∧ B.slots = A.slots + ms
def vx_Back (l : Launch) (R : Room) (p : Program) (e : Env) (below : List Frame) (s : State) (sargs : Array Value) (y : MethodName) (len W9 : Nat)
    (Pre : Pt → Array Value → Prop) (Post : Pt → Array Value → Option Value → Pt → Prop) (PostX : Pt → Array Value → Addr → Pt → Prop) : Prop :=
  ∀ (m : MethodId) (meth : Method) (c : Code) (A : Pt) (g : JFrame) (ig : Instr) (mk : MethodId) (a : Array Value),
    Stand p l e R s m sargs below meth c A.U A.locs A.cells A.slots → g.method = m → g.locals.size = c.maxLocals → decode c.code g.pc = .ok (ig, len) →
    2 * g.monitorRoom + (g.stack.map fun v => v.category).sum ≤ W9 → A.U.methodNamed? y = some mk → Pre A a →
    (∃ (v : Option Value) (B : Pt), Stand p l e R s m sargs below meth c B.U B.locs B.cells B.slots ∧ Post A a v B ∧
      Steps p.tables e below (doInvoke e (A.U.setTop g) [] mk a).1 (B.U.setTop { g with pc := g.pc + len, stack := v.toList ++ g.stack })) ∨
    (∃ (q : Addr) (B : Pt), Stand p l e R s m sargs below meth c B.U B.locs B.cells B.slots ∧ PostX A a q B ∧
      Steps p.tables e below (doInvoke e (A.U.setTop g) [] mk a).1 ((B.U.setTop g).pushFrame (.throwing q)))
section Payer
variable {l : Launch} {R : Room} {p : Program} {e : Env} {below : List Frame} {s : State} {sargs : Array Value} {y : MethodName} {len W9 : Nat}
theorem vx_back {ws : List Cond} {rm : Room} {Pc : Array Value → State → Prop} {Qc : Array Value → State → Outcome → State → Prop} {XC : String → State → State → Prop} {mc ms : Nat} {free : Addr → Prop} {bytes : ByteArray} {maxL : Nat} {ret : Option FieldType}
    (hM : vx_Met l y ws rm Pc Qc XC mc ms free) (hblind : FrameBlind Pc) (hrc : rm.cells = mc) (hrs : rm.slots = ms)
    (hframes : rm.frames + 1 ≤ R.frames) (hlocals : W9 + (maxL + 11) + rm.locals ≤ R.locals)
    (hws : ∀ w ∈ ws, ∀ a' U, s.WarmedH U.vm → w.before a' U = true) (hcode : Cond.code y bytes maxL ret ∈ ws) (hinit : ∀ a' U, s.WarmedH U.vm → (Cond.initialized y.cls).before a' U = true) :
    vx_Back l R p e below s sargs y len W9 (PreOf R mc ms Pc) (PostOf Qc mc ms free) (vx_Post XC mc ms free) := by
  intro m meth c A g ig mk a X hg hsize hdg hW hn hp
  have h1 : (headSpec ws rm).pre.before a A.U = true := atoms_intro fun w hw => hws w hw _ _ X.warmed
  have h2 : (Cond.code y bytes maxL ret).before a A.U = true := hws _ hcode _ _ X.warmed
  have h3 : (Cond.initialized y.cls).before a A.U = true := hinit _ _ X.warmed
  have h4 : A.cells + (headSpec ws rm).room.cells ≤ R.cells := by rw [show (headSpec ws rm).room.cells = mc from hrc]; exact hp.1
  have h5 : A.slots + (headSpec ws rm).room.slots ≤ R.slots := by rw [show (headSpec ws rm).room.slots = ms from hrs]; exact hp.2.1
  have hPc : Pc a (A.U.calling g mk a) := hblind _ _ _ _ hp.2.2
  obtain ⟨U, Ls, c0, s0⟩ := A
  dsimp only [Pt.U, Pt.locs, Pt.cells, Pt.slots] at h1 h2 h3 h4 h5 X hn hPc ⊢
  obtain ⟨methY, cY, hmY, hcY, -, hlY, -, -, -, -⟩ := Cond.code_spec hn h2
  obtain ⟨kY, hkY, -⟩ := className_of_methodNamed hn
  have hinitY : kY.init = .initialized := Cond.initialized_spec (findClass_of_methodNamed hn) hkY h3
  have h : At U g.method c below := by rw [hg]; exact X.here
  have hlocals9 : W9 + (maxL + 11) + (headSpec ws rm).room.locals ≤ R.locals := hlocals
  have happ : (headSpec ws rm).appliesLoose y e.platform (U.calling g mk a) = true :=
    Spec.appliesLoose_calling (g := g) h hdg hn hkY hinitY
      (X.room_calling (g := g) (R' := (headSpec ws rm).room) hsize hmY hcY hframes (by rw [hlY]; omega) h4 h5) h1
  obtain ⟨mid, hmid⟩ := h.above
  have hfr : (U.setTop g).frames = (.java g :: mid) ++ below := by rw [State.frames_setTop' g h.top, hmid]; rfl
  obtain ⟨o, s₂, hsteps, -, hend, hq⟩ := Steps.callFree hM p X.admits X.cas X.clock (acts := []) hfr happ hPc trivial
  have hq' : vx_Q Qc XC mc ms free a (U.calling g mk a) o s₂ := hq
  rw [State.frames_setTop' g h.top] at hend
  obtain ⟨g₀, hg0⟩ := Option.isSome_iff_exists.mp h.top
  obtain ⟨r, hr⟩ := State.topJava?_eq_some.mp hg0
  have hr' : (({ U with heap := s₂.heap, slotsUsed := s₂.slotsUsed } : State).setVm s₂.vm).frames = .java g₀ :: r := hr
  rcases hq' with ⟨hqc, L, hfe, hL⟩ | ⟨q, rfl, E, ce, L, hx, hce, hcv, hcl, hW₂, hsm, hL⟩
  · obtain ⟨⟨v, rfl⟩, hW₂, e2, q2, q3, q4, q5, q6⟩ := id hfe
    have e3 : s₂ = ({ (U.calling g mk a).setFrames s₂.frames with heap := s₂.heap, slotsUsed := s₂.slotsUsed } : State).setVm s₂.vm := by
      have : s₂ = ({ s₂ with vm := (U.calling g mk a).vm } : State).setVm s₂.vm := rfl
      rw [e2] at this
      exact this
    obtain ⟨c₂, i₂, len₂, hc₂, hd₂, hf₂⟩ := hend
    have hW' : U.WarmedH s₂.vm := hW₂
    have hcc : c₂ = c := by
      have h1 : s₂.code? g.method = U.code? g.method := by
        rw [State.code?_eq, State.code?_eq, hW'.alike.method?]
      exact Option.some.inj (hc₂.symm.trans (h1.trans h.code))
    subst hcc
    have hlen : len₂ = len := by rw [hdg] at hd₂; cases hd₂; rfl
    subst hlen
    have hs₂ : s₂ = (({ U with heap := s₂.heap, slotsUsed := s₂.slotsUsed } : State).setVm s₂.vm).setTop { g with pc := g.pc + len₂, stack := v.toList ++ g.stack } := by
      refine e3.trans ?_
      rw [hf₂, State.calling_eq h.top, State.setFrames_setFrames, State.setTop_of_frames _ hr', hr]
      rfl
    have hsame : U.sameButNew ({ U with heap := s₂.heap, slotsUsed := s₂.slotsUsed } : State) L mc ms := by
      refine ⟨?_, q2, q3, q4, q5, q6⟩
      obtain ⟨t, ht, -⟩ := State.frames_cons hr
      show ({ U with heap := s₂.heap, slotsUsed := s₂.slotsUsed } : State) = { U.setFrames U.frames with heap := s₂.heap, slotsUsed := s₂.slotsUsed }
      rw [State.setFrames_self ht]
    subst hg
    refine Or.inl ⟨v, ⟨(({ U with heap := s₂.heap, slotsUsed := s₂.slotsUsed } : State).setVm s₂.vm), Ls ++ L, c0 + mc, s0 + ms⟩,
      ⟨X.admits, X.cas, X.clock, X.frames, X.room, X.hears, X.method, X.code, (X.here.setHeapUsed s₂.heap s₂.slotsUsed).setVm hW'.alike, X.tail, State.WarmedH.trans X.warmed hW', X.limits, X.bytes, X.same.trans (hsame.setVm s.vm)⟩,
      ⟨g, mk, s₂, L, rfl, rfl, hqc, rfl, hL, rfl, rfl⟩, ?_⟩
    show Steps p.tables e below _ ((({ U with heap := s₂.heap, slotsUsed := s₂.slotsUsed } : State).setVm s₂.vm).setTop { g with pc := g.pc + len₂, stack := v.toList ++ g.stack })
    rw [← hs₂]
    exact hsteps
  · obtain ⟨e2, q2, q3, q4, q5, q6⟩ := id hsm
    have e3 : s₂ = ({ (U.calling g mk a).setFrames s₂.frames with heap := s₂.heap, slotsUsed := s₂.slotsUsed } : State).setVm s₂.vm := by
      have : s₂ = ({ s₂ with vm := (U.calling g mk a).vm } : State).setVm s₂.vm := rfl
      rw [e2] at this
      exact this
    have hf₂ : s₂.frames = .throwing q :: .java g :: U.frames.tail := hend
    have hW' : U.WarmedH s₂.vm := hW₂
    have hs₂ : s₂ = ((({ U with heap := s₂.heap, slotsUsed := s₂.slotsUsed } : State).setVm s₂.vm).setTop g).pushFrame (.throwing q) := by
      refine e3.trans ?_
      rw [hf₂, State.calling_eq h.top, State.setFrames_setFrames, State.pushFrame, State.frames_setTop _ hr', State.setTop_of_frames _ hr', State.setFrames_setFrames, hr]
      rfl
    have hsame : U.sameButNew ({ U with heap := s₂.heap, slotsUsed := s₂.slotsUsed } : State) L mc ms := by
      refine ⟨?_, q2, q3, q4, q5, q6⟩
      obtain ⟨t, ht, -⟩ := State.frames_cons hr
      show ({ U with heap := s₂.heap, slotsUsed := s₂.slotsUsed } : State) = { U.setFrames U.frames with heap := s₂.heap, slotsUsed := s₂.slotsUsed }
      rw [State.setFrames_self ht]
    subst hg
    refine Or.inr ⟨q, ⟨(({ U with heap := s₂.heap, slotsUsed := s₂.slotsUsed } : State).setVm s₂.vm), Ls ++ L, c0 + mc, s0 + ms⟩,
      ⟨X.admits, X.cas, X.clock, X.frames, X.room, X.hears, X.method, X.code, (X.here.setHeapUsed s₂.heap s₂.slotsUsed).setVm hW'.alike, X.tail, State.WarmedH.trans X.warmed hW', X.limits, X.bytes, X.same.trans (hsame.setVm s.vm)⟩,
      ⟨g, mk, s₂, L, E, ce, rfl, rfl, hx, hce, hcv, hcl, rfl, hL, rfl, rfl⟩, ?_⟩
    show Steps p.tables e below _ (((({ U with heap := s₂.heap, slotsUsed := s₂.slotsUsed } : State).setVm s₂.vm).setTop g).pushFrame (.throwing q))
    rw [← hs₂]
    exact hsteps
end Payer
section Calls
variable {p : Program} {l : Launch} {e : Env} {R : Room} {s : State} {m : MethodId} {args : Array Value} {below : List Frame} {meth : Method} {c : Code} {T : State} {locs : List Loc} {cells slots : Nat}
theorem vx_callV (X : Stand p l e R s m args below meth c T locs cells slots) (hexec : p.tables.exec = Jvm.exec) {own C : String} {index : Nat} {y : MethodName} {bytes : ByteArray} {maxL : Nat} {ret : Option FieldType}
    (hown : s.vm.findClass own = some m.cls) (hlink : (Cond.methodLink own index y).before args s = true) (hinst : (Cond.instanceMethod y).before args s = true) (hsel : (Cond.selects C y y).before args s = true)
    (hcode : (Cond.code y bytes maxL ret).before args s = true) (hy : y.cls ≠ "java/lang/invoke/MethodHandle" ∧ y.cls ≠ "java/lang/invoke/VarHandle")
    {W9 : Nat} {Pre : Pt → Array Value → Prop} {Post : Pt → Array Value → Option Value → Pt → Prop} {PostX : Pt → Array Value → Addr → Pt → Prop} (hK : vx_Back l R p e below s args y 3 W9 Pre Post PostX)
    {b : Addr} {cellB : Cell} (hcell : T.heap[b]? = some cellB) (hobj : cellB.vm.isStatics = false) (hcls : s.vm.findClass C = some cellB.cls)
    {g : JFrame} (hg : g.method = m) (hsize : g.locals.size = c.maxLocals) {argsL rest : List Value} (hlen : ∀ sig, parseMethodDescriptor y.desc = some sig → argsL.length = sig.parameters.length)
    (hstack : g.stack = argsL.reverse ++ .ref b :: rest) (hW : 2 * g.monitorRoom + (rest.map fun v => v.category).sum ≤ W9) (hdg : decode c.code g.pc = .ok (.invokevirtual index, 3))
    (hpre : ∀ vm₁, s.WarmedH vm₁ → Pre ⟨T.setVm vm₁, locs, cells, slots⟩ (Value.ref b :: argsL).toArray) :
    (∃ (v : Option Value) (vm₁ : Vm) (B : Pt), s.WarmedH vm₁ ∧ Stand p l e R s m args below meth c B.U B.locs B.cells B.slots ∧ Post ⟨T.setVm vm₁, locs, cells, slots⟩ (Value.ref b :: argsL).toArray v B ∧
      ∀ target, Steps p.tables e below (B.U.setTop { g with pc := g.pc + 3, stack := v.toList ++ rest }) target → Steps p.tables e below (T.setTop g) target) ∨
    (∃ (q : Addr) (vm₁ : Vm) (B : Pt), s.WarmedH vm₁ ∧ Stand p l e R s m args below meth c B.U B.locs B.cells B.slots ∧ PostX ⟨T.setVm vm₁, locs, cells, slots⟩ (Value.ref b :: argsL).toArray q B ∧
      Steps p.tables e below (T.setTop g) ((B.U.setTop { g with stack := rest }).pushFrame (.throwing q))) := by
  obtain ⟨mk, methM, hnamed, hmethM, hstM, habM⟩ := Cond.instanceMethod_spec hinst
  obtain ⟨methM', cM, hmethM', -, -, -, -, -, -, hsigM⟩ := Cond.code_spec hnamed hcode
  cases hmethM.symm.trans hmethM'
  obtain ⟨c2, r2, m2, q1, q2, q3, q4, kP, hkP, hkPi⟩ := Cond.selects_spec hsel
  cases hcls.symm.trans q1
  cases (State.methodFound?_of_named hnamed hy).symm.trans q2
  cases hnamed.symm.trans q3
  have hselP : selectMethod e.platform s.vm cellB.cls mk = .method mk := by rw [Launch.admits_selectMethod X.admits]; exact q4
  obtain ⟨vm₁, X₁, hstep₁⟩ := X.invokevirtual hexec hown hlink hnamed hmethM hstM hkP hkPi hy (a := b) (cell := cellB) hcell
    (fun z h => by rw [h] at hobj; cases hobj) hselP hmethM habM hkP hkPi (g := g) hg (argsL := argsL) (rest := rest) (hlen _ hsigM) hstack hdg
  rcases hK m meth c ⟨T.setVm vm₁, locs, cells, slots⟩ { g with stack := rest } (.invokevirtual index) mk (Value.ref b :: argsL).toArray X₁ hg hsize hdg hW (X₁.named hnamed) (hpre vm₁ X₁.warmed) with ⟨v, B, X', hpost, hsteps⟩ | ⟨q, B, X', hpost, hsteps⟩
  · exact Or.inl ⟨v, vm₁, B, X₁.warmed, X', hpost, fun target h => hstep₁ _ fun acts => by rw [doInvoke_state]; exact hsteps.trans h⟩
  · exact Or.inr ⟨q, vm₁, B, X₁.warmed, X', hpost, hstep₁ _ fun acts => by rw [doInvoke_state]; exact hsteps⟩
theorem vx_callS (X : Stand p l e R s m args below meth c T locs cells slots) (hexec : p.tables.exec = Jvm.exec) {own : String} {index : Nat} {y : MethodName} {bytes : ByteArray} {maxL : Nat} {ret : Option FieldType}
    (hown : s.vm.findClass own = some m.cls) (hlink : (Cond.methodLink own index y).before args s = true) (hstat : (Cond.static y).before args s = true) (hinit : (Cond.initialized y.cls).before args s = true)
    (hcode : (Cond.code y bytes maxL ret).before args s = true) (hy : y.cls ≠ "java/lang/invoke/MethodHandle" ∧ y.cls ≠ "java/lang/invoke/VarHandle")
    {W9 : Nat} {Pre : Pt → Array Value → Prop} {Post : Pt → Array Value → Option Value → Pt → Prop} {PostX : Pt → Array Value → Addr → Pt → Prop} (hK : vx_Back l R p e below s args y 3 W9 Pre Post PostX)
    {g : JFrame} (hg : g.method = m) (hsize : g.locals.size = c.maxLocals) {argsL rest : List Value} (hlen : ∀ sig, parseMethodDescriptor y.desc = some sig → argsL.length = sig.parameters.length)
    (hstack : g.stack = argsL.reverse ++ rest) (hW : 2 * g.monitorRoom + (rest.map fun v => v.category).sum ≤ W9) (hdg : decode c.code g.pc = .ok (.invokestatic index, 3))
    (hpre : ∀ vm₁, s.WarmedH vm₁ → Pre ⟨T.setVm vm₁, locs, cells, slots⟩ argsL.toArray) :
    (∃ (v : Option Value) (vm₁ : Vm) (B : Pt), s.WarmedH vm₁ ∧ Stand p l e R s m args below meth c B.U B.locs B.cells B.slots ∧ Post ⟨T.setVm vm₁, locs, cells, slots⟩ argsL.toArray v B ∧
      ∀ target, Steps p.tables e below (B.U.setTop { g with pc := g.pc + 3, stack := v.toList ++ rest }) target → Steps p.tables e below (T.setTop g) target) ∨
    (∃ (q : Addr) (vm₁ : Vm) (B : Pt), s.WarmedH vm₁ ∧ Stand p l e R s m args below meth c B.U B.locs B.cells B.slots ∧ PostX ⟨T.setVm vm₁, locs, cells, slots⟩ argsL.toArray q B ∧
      Steps p.tables e below (T.setTop g) ((B.U.setTop { g with stack := rest }).pushFrame (.throwing q))) := by
  obtain ⟨mk, hnamed⟩ := Cond.code_named hcode
  obtain ⟨methM, cM, hmethM, -, -, -, -, -, -, hsigM⟩ := Cond.code_spec hnamed hcode
  have hstatic : methM.isStatic = true := Cond.static_spec hnamed hmethM hstat
  obtain ⟨kP, hkP, -⟩ := className_of_methodNamed hnamed
  have hinitP : kP.init = .initialized := Cond.initialized_spec (findClass_of_methodNamed hnamed) hkP hinit
  obtain ⟨vm₁, X₁, hstep₁⟩ := X.invokestatic hexec hown hlink hnamed hmethM hstatic hkP hinitP hy (g := g) hg (argsL := argsL) (rest := rest) (hlen _ hsigM) hstack hdg
  rcases hK m meth c ⟨T.setVm vm₁, locs, cells, slots⟩ { g with stack := rest } (.invokestatic index) mk argsL.toArray X₁ hg hsize hdg hW (X₁.named hnamed) (hpre vm₁ X₁.warmed) with ⟨v, B, X', hpost, hsteps⟩ | ⟨q, B, X', hpost, hsteps⟩
  · exact Or.inl ⟨v, vm₁, B, X₁.warmed, X', hpost, fun target h => hstep₁ _ fun acts => by rw [doInvoke_state]; exact hsteps.trans h⟩
  · exact Or.inr ⟨q, vm₁, B, X₁.warmed, X', hpost, hstep₁ _ fun acts => by rw [doInvoke_state]; exact hsteps⟩
end Calls
theorem vx_cls {s : State} {T : State} {vm₁ : Vm} {E : String} {k : ClassId} (hW : s.WarmedH vm₁) (h : (T.setVm vm₁).vm.findClass E = some k) : s.vm.findClass E = some k := by
  have h1 : vm₁.findClass E = some k := h
  rw [hW.alike.findClass] at h1
  exact h1
/-- the method's frame g, with q thrown over it -/
def vx_W (p : Program) (l : Launch) (e : Env) (R : Room) (s : State) (m : MethodId) (args : Array Value) (below : List Frame) (meth : Method) (c : Code) (H : Heap) (locs : List Loc) (cells slots : Nat) (Q : State → Prop) (g : JFrame) (q : Addr) : Prop :=
  ∀ T : State, T.heap = H → Stand p l e R s m args below meth c T locs cells slots → ∃ t, Steps p.tables e below ((T.setTop g).pushFrame (.throwing q)) t ∧ Q t
def vx_Run (p : Program) (l : Launch) (e : Env) (R : Room) (s : State) (m : MethodId) (args : Array Value) (below : List Frame) (meth : Method) (c : Code) (H : Heap) (locs : List Loc) (cells slots mc ms : Nat) (g : JFrame) (rest : List Value) (Qa : State → Outcome → State → Prop) (XC : String → State → State → Prop) (free : Addr → Prop) : Prop :=
  ∀ T : State, T.heap = H → Stand p l e R s m args below meth c T locs cells slots →
    (∃ (v : Option Value) (st₀ t T' : State) (L : List Loc), st₀.heap = H ∧ Stand p l e R s m args below meth c T' (locs ++ L) (cells + mc) (slots + ms) ∧ (∀ q ∈ L, free q.base) ∧ T'.heap = t.heap ∧ T'.vm = t.vm ∧ Qa st₀ (.returned v) t ∧
      Goes p e below T g T' { g with pc := g.pc + 3, stack := v.toList ++ rest }) ∨
    (∃ (q : Addr) (st₀ t T' : State) (L : List Loc) (E : String) (ce : Cell), st₀.heap = H ∧ Stand p l e R s m args below meth c T' (locs ++ L) (cells + mc) (slots + ms) ∧ (∀ z ∈ L, free z.base) ∧ T'.heap = t.heap ∧ T'.vm = t.vm ∧ XC E st₀ t ∧ t.heap[q]? = some ce ∧ ce.vm = .none ∧ s.vm.findClass E = some ce.cls ∧
      Steps p.tables e below (T.setTop g) ((T'.setTop { g with stack := rest }).pushFrame (.throwing q)))
def vx_X {S : Type} (px : S → Prop) (B : String → S → State → Prop) (A : Nat → Prop) : String → State → State → Prop := fun E st t => ∃ u : S, px u ∧ B E u t ∧ va_F A st t
section Runs
variable {p : Program} {l : Launch} {e : Env} {R : Room} {s : State} {m : MethodId} {args : Array Value} {below : List Frame} {meth : Method} {c : Code} {H : Heap} {locs : List Loc} {cells slots : Nat}
variable {y : MethodName} {bytes cc : ByteArray} {maxL nL mc ms n index : Nat} {ret : Option FieldType} {ws : List Cond} {rm : Room} {Pc : Array Value → State → Prop} {Qc : Array Value → State → Outcome → State → Prop} {XC : String → State → State → Prop} {free : Addr → Prop} {Ts : List Cond} {own C : String} {b : Addr} {As rest : List Value} {g : JFrame}
theorem vx_callBack (cb : CallB R s args own index y bytes maxL ret ws rm mc ms n) (hM : vx_Met l y ws rm Pc Qc XC mc ms free) (hbl : FrameBlind Pc) : vx_Back l R p e below s args y 3 8 (PreOf R mc ms Pc) (PostOf Qc mc ms free) (vx_Post XC mc ms free) := by
  obtain ⟨hrc, hrs, hfr, hlo, hws, hcw, -, hini, -⟩ := cb
  exact vx_back (bytes := bytes) (maxL := maxL) (ret := ret) hM hbl hrc hrs hfr hlo hws hcw (fun a' U hW => word_at hW (Or.inl (by first | rfl | simp [Cond.onTables, Cond.keeps, Cond.steady])) hini)
theorem vx_runV (S : CallFix p m c cc nL s args Ts own) (hM : vx_Met l y ws rm Pc Qc XC mc ms free) (cw : CallW R s args own C index y bytes maxL ret ws rm mc ms n) (hp : PreV s H C b Pc As)
    (hg : g.method = m) (hn : As.length = n) (hsize : g.locals.size = nL) (hstack : g.stack = As.reverse ++ .ref b :: rest) (hW : 2 * g.monitorRoom + (rest.map fun v => v.category).sum ≤ 8) (hdg : decode cc g.pc = .ok (.invokevirtual index, 3)) (hf : cells + mc ≤ R.cells ∧ slots + ms ≤ R.slots) :
    vx_Run p l e R s m args below meth c H locs cells slots mc ms g rest (Qc (Value.ref b :: As).toArray) XC free := by
  have hK : vx_Back l R p e below s args y 3 8 (PreOf R mc ms Pc) (PostOf Qc mc ms free) (vx_Post XC mc ms free) := vx_callBack cw.1 hM hp.1
  obtain ⟨⟨-, -, -, -, -, -, hcode, -, hy, hlen, hl⟩, hin, hse⟩ := cw
  obtain ⟨hx, hb, hml, ho, -⟩ := S
  obtain ⟨-, ⟨cellB, hcB, hoB, hclB⟩, hPc⟩ := hp
  intro T hT X
  rcases vx_callV X hx (C := C) (bytes := bytes) (maxL := maxL) (ret := ret) ho hl hin hse hcode hy hK (by rw [hT]; exact hcB) hoB hclB hg (hsize.trans hml.symm) (argsL := As) (rest := rest) (fun sig h => hn.trans (hlen sig h)) hstack hW (by rw [hb]; exact hdg)
    (fun vm₁ hW₁ => ⟨hf.1, hf.2, hPc (T.setVm vm₁) hT hW₁⟩) with ⟨v, vm₁, ⟨U', l2, c2, s2⟩, hW₁, X', ⟨g', mk, t, L, e1, e2, hq, h1, hL, h2, h3⟩, st⟩ | ⟨q, vm₁, ⟨U', l2, c2, s2⟩, hW₁, X', ⟨g', mk, t, L, E, ce, e1, e2, hq, hce, hcv, hcl, h1, hL, h2, h3⟩, st⟩
  · dsimp only [Pt.U, Pt.locs, Pt.cells, Pt.slots] at X' e1 e2 h1 h2 h3 st
    subst h1; subst h2; subst h3
    exact Or.inl ⟨v, (T.setVm vm₁).calling g' mk (Value.ref b :: As).toArray, t, U', L, hT, X', hL, e1, e2, hq, st⟩
  · dsimp only [Pt.U, Pt.locs, Pt.cells, Pt.slots] at X' e1 e2 h1 h2 h3 st hcl
    subst h1; subst h2; subst h3
    exact Or.inr ⟨q, (T.setVm vm₁).calling g' mk (Value.ref b :: As).toArray, t, U', L, E, ce, hT, X', hL, e1, e2, hq, hce, hcv, vx_cls hW₁ hcl, st⟩
theorem vx_runS (S : CallFix p m c cc nL s args Ts own) (hM : vx_Met l y ws rm Pc Qc XC mc ms free) (cw : CallB R s args own index y bytes maxL ret ws rm mc ms n ∧ (Cond.static y).before args s = true) (hp : PreS s H Pc As)
    (hg : g.method = m) (hn : As.length = n) (hsize : g.locals.size = nL) (hstack : g.stack = As.reverse ++ rest) (hW : 2 * g.monitorRoom + (rest.map fun v => v.category).sum ≤ 8) (hdg : decode cc g.pc = .ok (.invokestatic index, 3)) (hf : cells + mc ≤ R.cells ∧ slots + ms ≤ R.slots) :
    vx_Run p l e R s m args below meth c H locs cells slots mc ms g rest (Qc As.toArray) XC free := by
  have hK : vx_Back l R p e below s args y 3 8 (PreOf R mc ms Pc) (PostOf Qc mc ms free) (vx_Post XC mc ms free) := vx_callBack cw.1 hM hp.1
  obtain ⟨⟨-, -, -, -, -, -, hcode, hini, hy, hlen, hl⟩, hstt⟩ := cw
  obtain ⟨hx, hb, hml, ho, -⟩ := S
  intro T hT X
  rcases vx_callS X hx (bytes := bytes) (maxL := maxL) (ret := ret) ho hl hstt hini hcode hy hK hg (hsize.trans hml.symm) (argsL := As) (rest := rest) (fun sig h => hn.trans (hlen sig h)) hstack hW (by rw [hb]; exact hdg)
    (fun vm₁ hW₁ => ⟨hf.1, hf.2, hp.2 (T.setVm vm₁) hT hW₁⟩) with ⟨v, vm₁, ⟨U', l2, c2, s2⟩, hW₁, X', ⟨g', mk, t, L, e1, e2, hq, h1, hL, h2, h3⟩, st⟩ | ⟨q, vm₁, ⟨U', l2, c2, s2⟩, hW₁, X', ⟨g', mk, t, L, E, ce, e1, e2, hq, hce, hcv, hcl, h1, hL, h2, h3⟩, st⟩
  · dsimp only [Pt.U, Pt.locs, Pt.cells, Pt.slots] at X' e1 e2 h1 h2 h3 st
    subst h1; subst h2; subst h3
    exact Or.inl ⟨v, (T.setVm vm₁).calling g' mk As.toArray, t, U', L, hT, X', hL, e1, e2, hq, st⟩
  · dsimp only [Pt.U, Pt.locs, Pt.cells, Pt.slots] at X' e1 e2 h1 h2 h3 st hcl
    subst h1; subst h2; subst h3
    exact Or.inr ⟨q, (T.setVm vm₁).calling g' mk As.toArray, t, U', L, E, ce, hT, X', hL, e1, e2, hq, hce, hcv, vx_cls hW₁ hcl, st⟩
end Runs
section Rows
variable {p : Program} {l : Launch} {e : Env} {R : Room} {s : State} {m : MethodId} {args : Array Value} {below : List Frame} {meth : Method} {c : Code} {H : Heap} {locs : List Loc} {cells slots : Nat} {Q : State → Prop}
variable {mc ms : Nat} {free : Addr → Prop} {A0 A1 : Nat → Prop} {H0 : Heap} {a : Array Value} {pc : Nat} {ls : Array Slot} {st0 rest : List Value}
theorem vx_keep {st₀ t T' : State} {L : List Loc} (h0 : st₀.heap = H) (e1 : T'.heap = t.heap) (hS : va_S A0 H0 H locs) (hA : ∀ q, q < H.size → A1 q → A0 q) (hf : ∀ q, free q → A0 q) (hL : ∀ q ∈ L, free q.base) (hF : va_F A1 st₀ t) :
    H.size ≤ T'.heap.size ∧ (∀ q : Nat, q < H.size → ¬ A1 q → T'.heap[q]? = H[q]?) ∧ va_S A0 H0 T'.heap (locs ++ L) := by
  obtain ⟨hz, hk⟩ := hF
  rw [h0] at hz hk
  exact ⟨by rw [e1]; exact hz, fun q h1 h2 => by rw [e1]; exact hk q h1 h2,
    ⟨Nat.le_trans hS.1 (by rw [e1]; exact hz), fun q h1 h2 => by rw [e1, hk q (Nat.lt_of_lt_of_le h1 hS.1) (fun z => h2 (hA q (Nat.lt_of_lt_of_le h1 hS.1) z))]; exact hS.2.1 q h1 h2, fun q hq => by
      rcases List.mem_append.mp hq with h | h
      · exact hS.2.2 q h
      · exact hf _ (hL q h)⟩⟩
theorem vx_calli {S SX : Type} {post : Int32 → S → Prop} {px : SX → Prop} {B : S → State → Prop} {BX : String → SX → State → Prop} {AX : Nat → Prop} (hr : vx_Run p l e R s m args below meth c H locs cells slots mc ms (F0 m pc ls st0) rest (va_Qi post B A1 a) (vx_X px BX AX) free) (hS : va_S A0 H0 H locs) (hA : ∀ q, q < H.size → A1 q → A0 q) (hf : ∀ q, free q → A0 q) (hAX : ∀ q, q < H.size → AX q → A0 q)
    (kx : ∀ (E : String) (ce : Cell) (q9 : Addr) (u : SX) (t : State) (H1 : Heap) (locs1 : List Loc), t.heap = H1 → s.vm.Alike t.vm → px u → BX E u t → H.size ≤ H1.size → (∀ q : Nat, q < H.size → ¬ AX q → H1[q]? = H[q]?) → va_S A0 H0 H1 locs1 → H1[q9]? = some ce → ce.vm = .none → s.vm.findClass E = some ce.cls → vx_W p l e R s m args below meth c H1 locs1 (cells + mc) (slots + ms) Q (F0 m pc ls rest) q9)
    (kk : ∀ (r : Int32) (u : S) (t : State) (H1 : Heap) (locs1 : List Loc), t.heap = H1 → s.vm.Alike t.vm → post r u → B u t → H.size ≤ H1.size → (∀ q : Nat, q < H.size → ¬ A1 q → H1[q]? = H[q]?) → va_S A0 H0 H1 locs1 → W p l e R s m args below meth c H1 locs1 (cells + mc) (slots + ms) Q (F0 m (pc + 3) ls (.int r :: rest))) : W p l e R s m args below meth c H locs cells slots Q (F0 m pc ls st0) := by
  intro T hT X
  rcases hr T hT X with ⟨v, st₀, t, T', L, h0, X', hL, e1, e2, ⟨⟨r, u, hv, hp, hb⟩, hF⟩, st⟩ | ⟨q, st₀, t, T', L, E, ce, h0, X', hL, e1, e2, ⟨u, hp, hb, hF⟩, hce, hcv, hcl, st⟩
  · cases hv
    obtain ⟨k1, k2, k3⟩ := vx_keep h0 e1 hS hA hf hL hF
    obtain ⟨t2, a1, b1⟩ := kk r u t T'.heap (locs ++ L) e1.symm (by rw [← e2]; exact X'.warmed.alike) hp hb k1 k2 k3 T' rfl X'
    exact ⟨t2, st t2 a1, b1⟩
  · obtain ⟨k1, k2, k3⟩ := vx_keep h0 e1 hS hAX hf hL hF
    obtain ⟨t2, a1, b1⟩ := kx E ce q u t T'.heap (locs ++ L) e1.symm (by rw [← e2]; exact X'.warmed.alike) hp hb k1 k2 k3 (by rw [e1]; exact hce) hcv hcl T' rfl X'
    exact ⟨t2, st.trans a1, b1⟩
theorem vx_calll {S SX : Type} {post : Int64 → S → Prop} {px : SX → Prop} {B : S → State → Prop} {BX : String → SX → State → Prop} {AX : Nat → Prop} (hr : vx_Run p l e R s m args below meth c H locs cells slots mc ms (F0 m pc ls st0) rest (va_Ql post B A1 a) (vx_X px BX AX) free) (hS : va_S A0 H0 H locs) (hA : ∀ q, q < H.size → A1 q → A0 q) (hf : ∀ q, free q → A0 q) (hAX : ∀ q, q < H.size → AX q → A0 q)
    (kx : ∀ (E : String) (ce : Cell) (q9 : Addr) (u : SX) (t : State) (H1 : Heap) (locs1 : List Loc), t.heap = H1 → s.vm.Alike t.vm → px u → BX E u t → H.size ≤ H1.size → (∀ q : Nat, q < H.size → ¬ AX q → H1[q]? = H[q]?) → va_S A0 H0 H1 locs1 → H1[q9]? = some ce → ce.vm = .none → s.vm.findClass E = some ce.cls → vx_W p l e R s m args below meth c H1 locs1 (cells + mc) (slots + ms) Q (F0 m pc ls rest) q9)
    (kk : ∀ (r : Int64) (u : S) (t : State) (H1 : Heap) (locs1 : List Loc), t.heap = H1 → s.vm.Alike t.vm → post r u → B u t → H.size ≤ H1.size → (∀ q : Nat, q < H.size → ¬ A1 q → H1[q]? = H[q]?) → va_S A0 H0 H1 locs1 → W p l e R s m args below meth c H1 locs1 (cells + mc) (slots + ms) Q (F0 m (pc + 3) ls (.long r :: rest))) : W p l e R s m args below meth c H locs cells slots Q (F0 m pc ls st0) := by
  intro T hT X
  rcases hr T hT X with ⟨v, st₀, t, T', L, h0, X', hL, e1, e2, ⟨⟨r, u, hv, hp, hb⟩, hF⟩, st⟩ | ⟨q, st₀, t, T', L, E, ce, h0, X', hL, e1, e2, ⟨u, hp, hb, hF⟩, hce, hcv, hcl, st⟩
  · cases hv
    obtain ⟨k1, k2, k3⟩ := vx_keep h0 e1 hS hA hf hL hF
    obtain ⟨t2, a1, b1⟩ := kk r u t T'.heap (locs ++ L) e1.symm (by rw [← e2]; exact X'.warmed.alike) hp hb k1 k2 k3 T' rfl X'
    exact ⟨t2, st t2 a1, b1⟩
  · obtain ⟨k1, k2, k3⟩ := vx_keep h0 e1 hS hAX hf hL hF
    obtain ⟨t2, a1, b1⟩ := kx E ce q u t T'.heap (locs ++ L) e1.symm (by rw [← e2]; exact X'.warmed.alike) hp hb k1 k2 k3 (by rw [e1]; exact hce) hcv hcl T' rfl X'
    exact ⟨t2, st.trans a1, b1⟩
theorem vx_callf {S SX : Type} {post : UInt32 → S → Prop} {px : SX → Prop} {B : S → State → Prop} {BX : String → SX → State → Prop} {AX : Nat → Prop} (hr : vx_Run p l e R s m args below meth c H locs cells slots mc ms (F0 m pc ls st0) rest (va_Qf post B A1 a) (vx_X px BX AX) free) (hS : va_S A0 H0 H locs) (hA : ∀ q, q < H.size → A1 q → A0 q) (hf : ∀ q, free q → A0 q) (hAX : ∀ q, q < H.size → AX q → A0 q)
    (kx : ∀ (E : String) (ce : Cell) (q9 : Addr) (u : SX) (t : State) (H1 : Heap) (locs1 : List Loc), t.heap = H1 → s.vm.Alike t.vm → px u → BX E u t → H.size ≤ H1.size → (∀ q : Nat, q < H.size → ¬ AX q → H1[q]? = H[q]?) → va_S A0 H0 H1 locs1 → H1[q9]? = some ce → ce.vm = .none → s.vm.findClass E = some ce.cls → vx_W p l e R s m args below meth c H1 locs1 (cells + mc) (slots + ms) Q (F0 m pc ls rest) q9)
    (kk : ∀ (r : UInt32) (u : S) (t : State) (H1 : Heap) (locs1 : List Loc), t.heap = H1 → s.vm.Alike t.vm → post r u → B u t → H.size ≤ H1.size → (∀ q : Nat, q < H.size → ¬ A1 q → H1[q]? = H[q]?) → va_S A0 H0 H1 locs1 → W p l e R s m args below meth c H1 locs1 (cells + mc) (slots + ms) Q (F0 m (pc + 3) ls (.float r :: rest))) : W p l e R s m args below meth c H locs cells slots Q (F0 m pc ls st0) := by
  intro T hT X
  rcases hr T hT X with ⟨v, st₀, t, T', L, h0, X', hL, e1, e2, ⟨⟨r, u, hv, hp, hb⟩, hF⟩, st⟩ | ⟨q, st₀, t, T', L, E, ce, h0, X', hL, e1, e2, ⟨u, hp, hb, hF⟩, hce, hcv, hcl, st⟩
  · cases hv
    obtain ⟨k1, k2, k3⟩ := vx_keep h0 e1 hS hA hf hL hF
    obtain ⟨t2, a1, b1⟩ := kk r u t T'.heap (locs ++ L) e1.symm (by rw [← e2]; exact X'.warmed.alike) hp hb k1 k2 k3 T' rfl X'
    exact ⟨t2, st t2 a1, b1⟩
  · obtain ⟨k1, k2, k3⟩ := vx_keep h0 e1 hS hAX hf hL hF
    obtain ⟨t2, a1, b1⟩ := kx E ce q u t T'.heap (locs ++ L) e1.symm (by rw [← e2]; exact X'.warmed.alike) hp hb k1 k2 k3 (by rw [e1]; exact hce) hcv hcl T' rfl X'
    exact ⟨t2, st.trans a1, b1⟩
theorem vx_calld {S SX : Type} {post : UInt64 → S → Prop} {px : SX → Prop} {B : S → State → Prop} {BX : String → SX → State → Prop} {AX : Nat → Prop} (hr : vx_Run p l e R s m args below meth c H locs cells slots mc ms (F0 m pc ls st0) rest (va_Qd post B A1 a) (vx_X px BX AX) free) (hS : va_S A0 H0 H locs) (hA : ∀ q, q < H.size → A1 q → A0 q) (hf : ∀ q, free q → A0 q) (hAX : ∀ q, q < H.size → AX q → A0 q)
    (kx : ∀ (E : String) (ce : Cell) (q9 : Addr) (u : SX) (t : State) (H1 : Heap) (locs1 : List Loc), t.heap = H1 → s.vm.Alike t.vm → px u → BX E u t → H.size ≤ H1.size → (∀ q : Nat, q < H.size → ¬ AX q → H1[q]? = H[q]?) → va_S A0 H0 H1 locs1 → H1[q9]? = some ce → ce.vm = .none → s.vm.findClass E = some ce.cls → vx_W p l e R s m args below meth c H1 locs1 (cells + mc) (slots + ms) Q (F0 m pc ls rest) q9)
    (kk : ∀ (r : UInt64) (u : S) (t : State) (H1 : Heap) (locs1 : List Loc), t.heap = H1 → s.vm.Alike t.vm → post r u → B u t → H.size ≤ H1.size → (∀ q : Nat, q < H.size → ¬ A1 q → H1[q]? = H[q]?) → va_S A0 H0 H1 locs1 → W p l e R s m args below meth c H1 locs1 (cells + mc) (slots + ms) Q (F0 m (pc + 3) ls (.double r :: rest))) : W p l e R s m args below meth c H locs cells slots Q (F0 m pc ls st0) := by
  intro T hT X
  rcases hr T hT X with ⟨v, st₀, t, T', L, h0, X', hL, e1, e2, ⟨⟨r, u, hv, hp, hb⟩, hF⟩, st⟩ | ⟨q, st₀, t, T', L, E, ce, h0, X', hL, e1, e2, ⟨u, hp, hb, hF⟩, hce, hcv, hcl, st⟩
  · cases hv
    obtain ⟨k1, k2, k3⟩ := vx_keep h0 e1 hS hA hf hL hF
    obtain ⟨t2, a1, b1⟩ := kk r u t T'.heap (locs ++ L) e1.symm (by rw [← e2]; exact X'.warmed.alike) hp hb k1 k2 k3 T' rfl X'
    exact ⟨t2, st t2 a1, b1⟩
  · obtain ⟨k1, k2, k3⟩ := vx_keep h0 e1 hS hAX hf hL hF
    obtain ⟨t2, a1, b1⟩ := kx E ce q u t T'.heap (locs ++ L) e1.symm (by rw [← e2]; exact X'.warmed.alike) hp hb k1 k2 k3 (by rw [e1]; exact hce) hcv hcl T' rfl X'
    exact ⟨t2, st.trans a1, b1⟩
theorem vx_callv {S SX : Type} {post : S → Prop} {px : SX → Prop} {B : S → State → Prop} {BX : String → SX → State → Prop} {AX : Nat → Prop} (hr : vx_Run p l e R s m args below meth c H locs cells slots mc ms (F0 m pc ls st0) rest (va_Qv post B A1 a) (vx_X px BX AX) free) (hS : va_S A0 H0 H locs) (hA : ∀ q, q < H.size → A1 q → A0 q) (hf : ∀ q, free q → A0 q) (hAX : ∀ q, q < H.size → AX q → A0 q)
    (kx : ∀ (E : String) (ce : Cell) (q9 : Addr) (u : SX) (t : State) (H1 : Heap) (locs1 : List Loc), t.heap = H1 → s.vm.Alike t.vm → px u → BX E u t → H.size ≤ H1.size → (∀ q : Nat, q < H.size → ¬ AX q → H1[q]? = H[q]?) → va_S A0 H0 H1 locs1 → H1[q9]? = some ce → ce.vm = .none → s.vm.findClass E = some ce.cls → vx_W p l e R s m args below meth c H1 locs1 (cells + mc) (slots + ms) Q (F0 m pc ls rest) q9)
    (kk : ∀ (u : S) (t : State) (H1 : Heap) (locs1 : List Loc), t.heap = H1 → s.vm.Alike t.vm → post u → B u t → H.size ≤ H1.size → (∀ q : Nat, q < H.size → ¬ A1 q → H1[q]? = H[q]?) → va_S A0 H0 H1 locs1 → W p l e R s m args below meth c H1 locs1 (cells + mc) (slots + ms) Q (F0 m (pc + 3) ls (rest))) : W p l e R s m args below meth c H locs cells slots Q (F0 m pc ls st0) := by
  intro T hT X
  rcases hr T hT X with ⟨v, st₀, t, T', L, h0, X', hL, e1, e2, ⟨⟨u, hv, hp, hb⟩, hF⟩, st⟩ | ⟨q, st₀, t, T', L, E, ce, h0, X', hL, e1, e2, ⟨u, hp, hb, hF⟩, hce, hcv, hcl, st⟩
  · cases hv
    obtain ⟨k1, k2, k3⟩ := vx_keep h0 e1 hS hA hf hL hF
    obtain ⟨t2, a1, b1⟩ := kk u t T'.heap (locs ++ L) e1.symm (by rw [← e2]; exact X'.warmed.alike) hp hb k1 k2 k3 T' rfl X'
    exact ⟨t2, st t2 a1, b1⟩
  · obtain ⟨k1, k2, k3⟩ := vx_keep h0 e1 hS hAX hf hL hF
    obtain ⟨t2, a1, b1⟩ := kx E ce q u t T'.heap (locs ++ L) e1.symm (by rw [← e2]; exact X'.warmed.alike) hp hb k1 k2 k3 (by rw [e1]; exact hce) hcv hcl T' rfl X'
    exact ⟨t2, st.trans a1, b1⟩
end Rows
section Ends
variable {p : Program} {l : Launch} {e : Env} {R : Room} {s : State} {m : MethodId} {args : Array Value} {below : List Frame} {meth : Method} {c : Code} {H : Heap} {locs : List Loc} {cells slots : Nat} {Q : State → Prop}
variable {mc ms : Nat} {free : Addr → Prop} {A0 A1 : Nat → Prop} {H0 : Heap} {a : Array Value} {ls : Array Slot} {st0 rest : List Value}
variable {Qc : Array Value → State → Outcome → State → Prop} {XC : String → State → State → Prop}
/-- what a body that may throw owes at its end -/
def vx_MQ (below : List Frame) (Qc : Array Value → State → Outcome → State → Prop) (XC : String → State → State → Prop) (a : Array Value) (s : State) (mc ms : Nat) (free : Addr → Prop) : State → Prop := fun t =>
  ∃ o, t.status = .running ∧ Ended t below o ∧ vx_Q Qc XC mc ms free a s o t
theorem vx_ret {g : JFrame} {mc ms : Nat} (k : W p l e R s m args below meth c H locs cells slots (MQ below Qc args s mc ms free) g) : W p l e R s m args below meth c H locs cells slots (vx_MQ below Qc XC args s mc ms free) g := by
  intro T hT X
  obtain ⟨t, a1, o, b1, b2, b3, b4⟩ := k T hT X
  exact ⟨t, a1, o, b1, b2, Or.inl ⟨b3, b4⟩⟩
/-- not caught here: it goes on to the caller -/
theorem vx_widen {g : JFrame} {q : Addr} {k n : Nat} (h1 : cells ≤ k) (h2 : slots ≤ n) (kk : vx_W p l e R s m args below meth c H locs k n Q g q) : vx_W p l e R s m args below meth c H locs cells slots Q g q := fun T hT X => kk T hT (stand_widen X h1 h2)
theorem vx_out {pc : Nat} {E : String} {ce : Cell} {q : Addr} {mc ms : Nat} (hout : ∀ x ∈ c.exceptionTable.toList, covers x pc = false) (hlocks : meth.locks = false) (hcell : H[q]? = some ce) (hv : ce.vm = .none) (hcl : s.vm.findClass E = some ce.cls)
    (hx : ∀ t : State, t.heap = H → s.vm.Alike t.vm → XC E s t) (hf : ∀ z ∈ locs, free z.base) (hc : cells ≤ mc) (hs : slots ≤ ms) :
    vx_W p l e R s m args below meth c H locs cells slots (vx_MQ below Qc XC args s mc ms free) (F0 m pc ls rest) q := by
  intro T hT X
  obtain ⟨st1, hrun, hend, hW, hsm⟩ := X.leaveThrown q (g := F0 m pc ls rest) rfl rfl rfl hout hlocks
  have hcell9 : (T.setFrames (.throwing q :: below)).heap[q]? = some ce := by
    show T.heap[q]? = some ce
    rw [hT]; exact hcell
  exact ⟨_, st1, .threw q, hrun, hend, Or.inr ⟨q, rfl, E, ce, locs, hx _ hT hW.alike, hcell9, hv, hcl, hW, hsm.mono hc hs, hf⟩⟩
theorem vx_frame {U : State} {k n : Nat} (h : s.sameButNew ({ U with vm := s.vm } : State) locs k n) : s.heap.size ≤ U.heap.size ∧ ∀ q : Nat, q < s.heap.size → (∀ z ∈ locs, z.base ≠ q) → U.heap[q]? = s.heap[q]? := by
  obtain ⟨-, h2, -, -, -, h6⟩ := h
  refine ⟨h2, fun q hq hz => ?_⟩
  obtain ⟨c9, e1, e2, e3, e4⟩ := h6 q _ (Array.getElem?_eq_getElem hq)
  have hs : c9.slots = (s.heap[q]).slots := Array.ext_getElem? fun i => e4 i fun hm => hz _ hm rfl
  have h9 : c9 = s.heap[q] := by
    rw [hs] at e2
    exact e2
  have e5 : U.heap[q]? = some c9 := e1
  rw [e5, h9, Array.getElem?_eq_getElem hq]
/-- the words of a throw but the four that speak of the heap -/
def vx_no (w : Cond) : Bool := decide (w ≠ .isRef (.static Bundle.tN "UNASSIGNED_STACK" Bundle.steD)) && decide (w ≠ .isRef (.static Bundle.tN "SUPPRESSED_SENTINEL" Bundle.listD)) && decide (w ≠ .laysStatic Bundle.tN "UNASSIGNED_STACK" Bundle.steD) && decide (w ≠ .laysStatic Bundle.tN "SUPPRESSED_SENTINEL" Bundle.listD)
def vx_at0 (own : String) (ic : Nat) (X : String) (names : List String) : List Cond := (Bundle.ownAtoms0 own ic X names).filter vx_no
def vx_atS (own : String) (ic : Nat) (X : String) (names : List String) : List Cond := (Bundle.ownAtoms own ic X names).filter vx_no
/-- a word that the tables alone decide, or a good one -/
def vx_ot (w : Cond) : Bool := w.onTables || goodWord w
theorem vx_ot_at {args a' : Array Value} {s U : State} {w : Cond} (hW : s.WarmedH U.vm) (hvm : s.vm = U.vm) (hg : vx_ot w = true) (h : w.before args s = true) : w.before a' U = true := by
  simp only [vx_ot, Bool.or_eq_true] at hg
  rcases hg with hg | hg
  · exact va_tabs hg hvm h
  · exact word_at hW (good_of_word hg) h
/-- a list's words: the good ones out of the method's own list, the others by premises of their own -/
theorem vx_hat {args : Array Value} {s : State} {L B : List Cond} (h1 : ∀ w ∈ L.filter goodWord, w.before args s = true) (h2 : ∀ w ∈ L.filter (fun w => !goodWord w), w ∈ B) (h3 : ∀ w ∈ B, w.before args s = true) : ∀ w ∈ L, w.before args s = true := by
  intro w hw
  by_cases g : goodWord w = true
  · exact h1 w (List.mem_filter.mpr ⟨hw, g⟩)
  · refine h3 w (h2 w (List.mem_filter.mpr ⟨hw, ?_⟩))
    show (!goodWord w) = true
    cases hgw : goodWord w
    · rfl
    · exact absurd hgw g
theorem vx_c {args : Array Value} {s : State} {w : Cond} {B : List Cond} (h : w.before args s = true) (t : ∀ w ∈ B, w.before args s = true) : ∀ w' ∈ w :: B, w'.before args s = true := fun w' h' => (List.mem_cons.mp h').elim (fun e => by rw [e]; exact h) (t w')
theorem vx_n {args : Array Value} {s : State} : ∀ w ∈ ([] : List Cond), w.before args s = true := fun _ h => nomatch h
theorem vx_own {args : Array Value} {s : State} {L : List Cond} (h1 : ∀ w ∈ L.filter vx_no, w.before args s = true)
    (hU : (Cond.isRef (.static Bundle.tN "UNASSIGNED_STACK" Bundle.steD)).before args s = true) (hN : (Cond.isRef (.static Bundle.tN "SUPPRESSED_SENTINEL" Bundle.listD)).before args s = true)
    (lU : (Cond.laysStatic Bundle.tN "UNASSIGNED_STACK" Bundle.steD).before args s = true) (lN : (Cond.laysStatic Bundle.tN "SUPPRESSED_SENTINEL" Bundle.listD).before args s = true) : ∀ w ∈ L, w.before args s = true := by
  intro w hw
  by_cases e1 : w = .isRef (.static Bundle.tN "UNASSIGNED_STACK" Bundle.steD)
  · rw [e1]; exact hU
  · by_cases e2 : w = .isRef (.static Bundle.tN "SUPPRESSED_SENTINEL" Bundle.listD)
    · rw [e2]; exact hN
    · by_cases e3 : w = .laysStatic Bundle.tN "UNASSIGNED_STACK" Bundle.steD
      · rw [e3]; exact lU
      · by_cases e4 : w = .laysStatic Bundle.tN "SUPPRESSED_SENTINEL" Bundle.listD
        · rw [e4]; exact lN
        · exact h1 w (List.mem_filter.mpr ⟨hw, by unfold vx_no; rw [decide_eq_true e1, decide_eq_true e2, decide_eq_true e3, decide_eq_true e4]; rfl⟩)
/-- where a static field lies, its class's statics cell in H -/
def vx_L (C n d : String) (A : Nat → Prop) (U : State) (H : Heap) : Prop := ∃ (c : ClassId) (k : Class) (i : Nat) (f : Field) (a : Nat) (cell : Cell), U.vm.findClass C = some c ∧ U.fieldFound? C n d = some (c, k, i, f) ∧ f.isStatic = true ∧ k.statics = some a ∧ H[a]? = some cell ∧ cell.vm.isStatics = true ∧ cell.cls = c ∧ f.slot < cell.slots.size ∧ k.staticTypes[f.slot]? = some f.type ∧ ¬ A a
theorem vx_L.moved {C n d : String} {A : Nat → Prop} {u U : State} {H : Heap} (hvm : u.vm.Alike U.vm) (h : vx_L C n d A u H) : vx_L C n d A U H := by
  obtain ⟨c, k, i, f, a, cell, h1, h2, h3, h4, h5, h6, h7, h8, h9, h10⟩ := h
  obtain ⟨k', hi', he⟩ := State.fieldFound?_setVm hvm h2
  exact ⟨c, k', i, f, a, cell, by rw [hvm.findClass]; exact h1, hi', h3, by rw [he]; exact h4, h5, h6, h7, h8, by rw [he]; exact h9, h10⟩
theorem vx_L.kept {C n d : String} {A : Nat → Prop} {U : State} {H H1 : Heap} (h : vx_L C n d A U H) (hq : ∀ a : Nat, a < H.size → ¬ A a → H1[a]? = H[a]?) : vx_L C n d A U H1 := by
  obtain ⟨c, k, i, f, a, cell, h1, h2, h3, h4, h5, h6, h7, h8, h9, h10⟩ := h
  exact ⟨c, k, i, f, a, cell, h1, h2, h3, h4, by rw [hq a (Array.getElem?_eq_some_iff.mp h5).1 h10]; exact h5, h6, h7, h8, h9, h10⟩
theorem vx_L.narrow {C n d : String} {A B : Nat → Prop} {U : State} {H : Heap} (h : vx_L C n d A U H) (hAB : ∀ q, B q → A q) : vx_L C n d B U H := by
  obtain ⟨c, k, i, f, a, cell, h1, h2, h3, h4, h5, h6, h7, h8, h9, h10⟩ := h
  exact ⟨c, k, i, f, a, cell, h1, h2, h3, h4, h5, h6, h7, h8, h9, fun z => h10 (hAB _ z)⟩
theorem vx_L.word {C n d : String} {A : Nat → Prop} {s : State} {args : Array Value} (h : vx_L C n d A s s.heap) : (Cond.laysStatic C n d).before args s = true := by
  obtain ⟨c, k, i, f, a, cell, h1, h2, h3, h4, h5, h6, h7, h8, h9, -⟩ := h
  show (Cond.laysStatic C n d).holds args s none s [] = true
  exact Cond.laysStatic_of h1 h2 h3 h4 h5 h6 h7 h8 h9
/-- .. and what it holds: null or some reference -/
def vx_Zq (C n d : String) (A : Nat → Prop) (U : State) (H : Heap) : Prop := va_Zq C n d A U H ∧ vx_L C n d A U H
theorem vx_Zq.moved {C n d : String} {A : Nat → Prop} {u U : State} {H : Heap} (hvm : u.vm.Alike U.vm) (h : vx_Zq C n d A u H) : vx_Zq C n d A U H := ⟨va_Zq.moved hvm h.1, vx_L.moved hvm h.2⟩
theorem vx_Zq.kept {C n d : String} {A : Nat → Prop} {U : State} {H H1 : Heap} (h : vx_Zq C n d A U H) (hq : ∀ a : Nat, a < H.size → ¬ A a → H1[a]? = H[a]?) : vx_Zq C n d A U H1 := ⟨va_Zq.kept h.1 hq, vx_L.kept h.2 hq⟩
theorem vx_Zq.narrow {C n d : String} {A B : Nat → Prop} {U : State} {H : Heap} (h : vx_Zq C n d A U H) (hAB : ∀ q, B q → A q) : vx_Zq C n d B U H := ⟨va_Zq.narrow h.1 hAB, vx_L.narrow h.2 hAB⟩
theorem vx_Zqof {args : Array Value} {s : State} {C n d : String} {A : Nat → Prop} (hl : (Cond.laysStatic C n d).before args s = true) (hini : (Cond.initialized C).before args s = true) (h : (Cond.isRef (.static C n d)).before args s = true) (hA : ∀ a : Nat, a < s.heap.size → ¬ A a) : vx_Zq C n d A s s.heap := by
  refine ⟨va_Zqof hl hini h hA, ?_⟩
  obtain ⟨c, k, i, f, a, cell, h1, h2, h3, h4, h5, h6, h7, h8, h9⟩ := Cond.laysStatic_spec hl
  exact ⟨c, k, i, f, a, cell, h1, h2, h3, h4, h5, h6, h7, h8, h9, hA a (Array.getElem?_eq_some_iff.mp h5).1⟩
theorem vx_isRef {C n d : String} {v : Value} {A : Nat → Prop} {s : State} {args : Array Value} (h : va_Z C n d v A s s.heap) (hv : v.isRef = true) : (Cond.isRef (.static C n d)).before args s = true := by
  obtain ⟨cf, kf, fi, f, a, cell, h1, h2, h3, h4, h5, h6, h7, -⟩ := h
  have he : (Term.static C n d).eval args s none [] s = some v := by
    simp [Term.eval, State.fieldNamed?, h1, h2, h4, h5, h6, h7]
  simp only [Cond.before, Cond.holds, Cond.value, he]
  cases v <;> simp_all [Value.isRef]
theorem vx_isRefq {C n d : String} {A : Nat → Prop} {s : State} {args : Array Value} (h : va_Zq C n d A s s.heap) : (Cond.isRef (.static C n d)).before args s = true := by
  rcases h with h | ⟨t, h⟩
  · exact vx_isRef h rfl
  · exact vx_isRef h rfl
/-- the same frame, seen from here: as if the method were called anew in this heap -/
theorem vx_rebase {T : State} (X : Stand p l e R s m args below meth c T locs cells slots) {R' : Room} (hf : R'.frames ≤ R.frames) (hl : R'.locals ≤ R.locals) (hc : cells + R'.cells ≤ R.cells) (hs : slots + R'.slots ≤ R.slots) :
    Stand p l e R' ((T.setVm s.vm).setFrames (.invoking m args :: below)) m args below meth c T [] 0 0 := by
  have htop : (T.setVm s.vm).topJava?.isSome := X.here.top
  have hF : ((T.setVm s.vm).setFrames (.invoking m args :: below)).frames = .invoking m args :: below := State.frames_setFrames _ (State.cur_lt_of_top htop)
  obtain ⟨g₀, hg0⟩ := Option.isSome_iff_exists.mp htop
  obtain ⟨r, hr⟩ := State.topJava?_eq_some.mp hg0
  have hl9 : e.platform.stackLimits (T.setVm s.vm).me = e.platform.stackLimits s.me := X.limits
  have hb9 : (T.setVm s.vm).me.stackBytes = s.me.stackBytes := X.bytes
  refine ⟨X.admits, X.cas, X.clock, hF, ?_, X.hears, X.method, X.code, X.here, X.tail, X.warmed, ?_, ?_, ?_⟩
  · have h := X.room
    have hU : ((T.setVm s.vm).setFrames (.invoking m args :: below)).localsInUse = s.localsInUse := by
      rw [State.localsInUse_invoking hF (meth := meth) (c := c) X.method X.code, State.localsInUse_invoking X.frames X.method X.code]
    simp only [State.hasRoom, Bool.and_eq_true, decide_eq_true_eq] at h ⊢
    obtain ⟨⟨⟨⟨h1, h2, h3, h4, h5, h6⟩, h7⟩, h8⟩, h9⟩ := h
    rw [X.frames, List.length_cons] at h2 h3
    have q1 := X.heapSize
    have q2 := X.used
    simp only [hF, hU, List.length_cons, State.stackLimits_setFrames, State.stackBytes_setFrames, hl9, hb9]
    refine ⟨⟨⟨⟨by omega, by omega, by omega, by omega, by omega, h6⟩, ?_⟩, ?_⟩, X.book⟩
    · show T.heap.size + R'.cells ≤ e.platform.maxCells
      omega
    · show T.slotsUsed + R'.slots ≤ e.platform.maxSlots
      omega
  · rw [State.stackLimits_setFrames]; rfl
  · rw [State.stackBytes_setFrames]; rfl
  · refine ⟨?_, Nat.le_refl _, Nat.le_refl _, ?_, ?_, fun a c9 h9 => ⟨c9, h9, rfl, rfl, fun _ _ => rfl⟩⟩
    · obtain ⟨t, ht, -⟩ := State.frames_cons hr
      show T.setVm s.vm = { ((T.setVm s.vm).setFrames (.invoking m args :: below)).setFrames (T.setVm s.vm).frames with heap := T.heap, slotsUsed := T.slotsUsed }
      rw [State.setFrames_setFrames, State.setFrames_self ht]
      rfl
    · show T.slotsUsed = T.slotsUsed + ((T.heap.toList.drop T.heap.size).map (·.slots.size)).sum
      rw [List.drop_eq_nil_of_le (Nat.le_of_eq Array.length_toList)]
      rfl
    · show ((T.heap.toList.drop T.heap.size).map (·.slots.size)).sum ≤ 0
      rw [List.drop_eq_nil_of_le (Nat.le_of_eq Array.length_toList)]
      exact Nat.le_refl _
/-- 'throw new E()': new; dup; invokespecial; athrow -/
theorem vx_throw0 {cc : ByteArray} {pc : Nat} (hexec : p.tables.exec = Jvm.exec) (hb : c.code = cc) (hl : l.stackTraces = false) {own cls : String} {names : List String} {ik ic mc ms : Nat} {A : Nat → Prop}
    (hown : s.vm.findClass own = some m.cls) (hcls : Bundle.fit cls = true) (hnames : ∀ n ∈ names, Bundle.fit n = true)
    (hk : (Cond.classLink own ik cls).before args s = true) (hini : (Cond.initialized cls).before args s = true) (hat : ∀ w ∈ vx_at0 own ic cls names, w.before args s = true)
    (hgood : ∀ w ∈ Cond.classLink own ik cls :: Cond.initialized cls :: vx_at0 own ic cls names, vx_ot w = true)
    (hU : vx_Zq Bundle.tN "UNASSIGNED_STACK" Bundle.steD A s s.heap) (hN : vx_Zq Bundle.tN "SUPPRESSED_SENTINEL" Bundle.listD A s s.heap) (hS : va_S A s.heap H locs) (hsize : ls.size = c.maxLocals)
    (d0 : decode cc pc = .ok (.new ik, 3)) (d3 : decode cc (pc + 3) = .ok (.dup, 1)) (d4 : decode cc (pc + 4) = .ok (.invokespecial ic, 3)) (d7 : decode cc (pc + 7) = .ok (.athrow, 1))
    (hout : ∀ x ∈ c.exceptionTable.toList, covers x (pc + 7) = false)
    (hRframes : names.length + 3 < R.frames) (hRlocals : (rest.map fun v => v.category).sum + (13 * (names.length + 1) + 42) ≤ R.locals) (hRcells : cells + 1 ≤ R.cells) (hRslots : slots + 6 ≤ R.slots) (hlocks : meth.locks = false)
    (hx : ∀ t : State, s.vm.Alike t.vm → H.size ≤ t.heap.size → (∀ q : Nat, q < H.size → t.heap[q]? = H[q]?) → XC cls s t)
    (hf : ∀ z ∈ locs, free z.base) (hc : cells + 1 ≤ mc) (hs : slots + 6 ≤ ms) :
    W p l e R s m args below meth c H locs cells slots (vx_MQ below Qc XC args s mc ms free) (F0 m pc ls rest) := by
  intro T hT X
  have htr : e.platform.stackTraces = false := (show e.platform.stackTraces = l.stackTraces by rw [X.admits.platform]).trans hl
  have Y := vx_rebase X (R' := { frames := R.frames, locals := R.locals, cells := 1, slots := 6 }) (Nat.le_refl _) (Nat.le_refl _) hRcells hRslots
  obtain ⟨s', hA⟩ : ∃ z, z = (T.setVm s.vm).setFrames (.invoking m args :: below) := ⟨_, rfl⟩
  rw [← hA] at Y
  have hvm : s'.vm = s.vm := by rw [hA]; rfl
  have hhp : s'.heap = H := by rw [hA]; exact hT
  have hW0 : s.WarmedH s'.vm := by rw [hvm]; exact State.WarmedH.refl s
  have hat' : ∀ w ∈ vx_at0 own ic cls names, w.before args s' = true := fun w hw => vx_ot_at hW0 hvm.symm (hgood w (List.mem_cons_of_mem _ (List.mem_cons_of_mem _ hw))) (hat w hw)
  have hk' : (Cond.classLink own ik cls).before args s' = true := vx_ot_at hW0 hvm.symm (hgood _ List.mem_cons_self) hk
  have hini' : (Cond.initialized cls).before args s' = true := vx_ot_at hW0 hvm.symm (hgood _ (List.mem_cons_of_mem _ List.mem_cons_self)) hini
  have hU' : vx_Zq Bundle.tN "UNASSIGNED_STACK" Bundle.steD A s' s'.heap := by rw [hhp]; exact vx_Zq.moved hW0.alike (hU.kept hS.2.1)
  have hN' : vx_Zq Bundle.tN "SUPPRESSED_SENTINEL" Bundle.listD A s' s'.heap := by rw [hhp]; exact vx_Zq.moved hW0.alike (hN.kept hS.2.1)
  have h : ∀ w ∈ Bundle.ownAtoms0 own ic cls names, w.before args s' = true := vx_own hat' (vx_isRefq hU'.1) (vx_isRefq hN'.1) hU'.2.word hN'.2.word
  have hown' : s'.vm.findClass own = some m.cls := by rw [hvm]; exact hown
  have hins : (Cond.instantiable cls 6).before args s' = true := h _ (by simp [Bundle.ownAtoms0])
  obtain ⟨vm₁, cX, kX, hfX, hkX, -, -, X₁, st1⟩ := Y.newCold hexec (own := own) (C := cls) (index := ik) (n := 6) hown' hk' hins hini'
    (g := F0 m pc ls rest) rfl (by rw [hb]; exact d0) (Nat.le_refl _) (Nat.le_refl _)
  generalize hT1 : (T.setVm vm₁).pushCell { cls := cX, slots := kX.instanceTypes.map defaultValue, vm := .none } = T1 at X₁ st1
  have hcat : (Value.ref T.heap.size).category = 1 := rfl
  have hcellA : T1.heap[T.heap.size]? = some (freshCell cX kX) := by rw [← hT1]; exact State.heap_pushCell_size _ _
  have d3' : decode c.code (pc + 3) = .ok (.dup, 1) := by rw [hb]; exact d3
  obtain ⟨U, hsteps, hrun, hend, hW, hsame, ce, hce, hO⟩ := X₁.ctorThrow0 hexec htr (own := own) (cls := cls) (names := names) (ic := ic) hown' hcls hnames h (fun x hx => nomatch hx) hfX hkX hcellA (by rw [hhp, hT]; exact Nat.le_refl _)
    (g := { method := m, pc := pc + 4, locals := ls, stack := .ref T.heap.size :: .ref T.heap.size :: rest, locked := none }) rfl hsize rfl rfl (rest := rest) rfl
    (by rw [hb]; exact d4) (by rw [hb]; exact d7) hout hRframes (by simp only [List.map_cons, List.sum_cons, hcat]; omega) hlocks
  obtain ⟨f1, f2⟩ := vx_frame hsame
  rw [hhp] at f1 f2
  have hWs : s.WarmedH U.vm := State.WarmedH.trans hW0 hW
  have hcl : s.vm.findClass cls = some ce.cls := by
    have h9 := hO.cls
    rw [hvm] at h9
    exact h9
  have hall : s.sameButNew ({ U with vm := s.vm } : State) locs mc ms := by
    subst hA
    obtain ⟨e1, e2⟩ := hsame
    rw [State.setFrames_setFrames] at e1
    have h2 : (T.setVm s.vm).sameButNew ({ U with vm := s.vm } : State) [] (0 + 1) (0 + 6) := ⟨e1, e2⟩
    have h3 := X.same.trans h2
    rw [List.append_nil] at h3
    exact h3.mono hc hs
  refine ⟨U, ?_, .threw T.heap.size, hrun, hend, Or.inr ⟨T.heap.size, rfl, cls, ce, locs, hx U hWs.alike f1 (fun q hq => f2 q hq (fun z hz => nomatch hz)), hce, hO.vm, hcl, hWs, hall, hf⟩⟩
  refine st1 _ ?_
  show Steps p.tables e below (T1.setTop { method := m, pc := pc + 3, locals := ls, stack := .ref T.heap.size :: rest, locked := none }) _
  jvm_step X₁.here [X₁.here.top, hexec, d3', Value.category]
  exact hsteps
/-- 'throw new E("text")': new; dup; ldc; invokespecial; athrow -/
theorem vx_throwS {cc : ByteArray} {pc : Nat} (hexec : p.tables.exec = Jvm.exec) (hb : c.code = cc) (hl : l.stackTraces = false) {own cls text : String} {names : List String} {ik is ic mc ms sa : Nat} {A : Nat → Prop}
    (hown : s.vm.findClass own = some m.cls) (hcls : Bundle.fit cls = true) (hnames : ∀ n ∈ names, Bundle.fit n = true)
    (hk : (Cond.classLink own ik cls).before args s = true) (hini : (Cond.initialized cls).before args s = true) (hstr : vk_R own is text sa s) (hat : ∀ w ∈ vx_atS own ic cls names, w.before args s = true)
    (hgood : ∀ w ∈ Cond.classLink own ik cls :: Cond.initialized cls :: vx_atS own ic cls names, vx_ot w = true)
    (hU : vx_Zq Bundle.tN "UNASSIGNED_STACK" Bundle.steD A s s.heap) (hN : vx_Zq Bundle.tN "SUPPRESSED_SENTINEL" Bundle.listD A s s.heap) (hS : va_S A s.heap H locs) (hsize : ls.size = c.maxLocals)
    (d0 : decode cc pc = .ok (.new ik, 3)) (d3 : decode cc (pc + 3) = .ok (.dup, 1)) (d4 : decode cc (pc + 4) = .ok (.ldc is, 2)) (d6 : decode cc (pc + 6) = .ok (.invokespecial ic, 3)) (d9 : decode cc (pc + 9) = .ok (.athrow, 1))
    (hout : ∀ x ∈ c.exceptionTable.toList, covers x (pc + 9) = false)
    (hRframes : names.length + 3 < R.frames) (hRlocals : (rest.map fun v => v.category).sum + (13 * (names.length + 1) + 43) ≤ R.locals) (hRcells : cells + 1 ≤ R.cells) (hRslots : slots + 6 ≤ R.slots) (hlocks : meth.locks = false)
    (hx : ∀ t : State, s.vm.Alike t.vm → H.size ≤ t.heap.size → (∀ q : Nat, q < H.size → t.heap[q]? = H[q]?) → XC cls s t)
    (hf : ∀ z ∈ locs, free z.base) (hc : cells + 1 ≤ mc) (hs : slots + 6 ≤ ms) :
    W p l e R s m args below meth c H locs cells slots (vx_MQ below Qc XC args s mc ms free) (F0 m pc ls rest) := by
  intro T hT X
  have htr : e.platform.stackTraces = false := (show e.platform.stackTraces = l.stackTraces by rw [X.admits.platform]).trans hl
  have Y := vx_rebase X (R' := { frames := R.frames, locals := R.locals, cells := 1, slots := 6 }) (Nat.le_refl _) (Nat.le_refl _) hRcells hRslots
  obtain ⟨s', hA⟩ : ∃ z, z = (T.setVm s.vm).setFrames (.invoking m args :: below) := ⟨_, rfl⟩
  rw [← hA] at Y
  have hvm : s'.vm = s.vm := by rw [hA]; rfl
  have hhp : s'.heap = H := by rw [hA]; exact hT
  have hW0 : s.WarmedH s'.vm := by rw [hvm]; exact State.WarmedH.refl s
  have hat' : ∀ w ∈ vx_atS own ic cls names, w.before args s' = true := fun w hw => vx_ot_at hW0 hvm.symm (hgood w (List.mem_cons_of_mem _ (List.mem_cons_of_mem _ hw))) (hat w hw)
  have hk' : (Cond.classLink own ik cls).before args s' = true := vx_ot_at hW0 hvm.symm (hgood _ List.mem_cons_self) hk
  have hini' : (Cond.initialized cls).before args s' = true := vx_ot_at hW0 hvm.symm (hgood _ (List.mem_cons_of_mem _ List.mem_cons_self)) hini
  have hU' : vx_Zq Bundle.tN "UNASSIGNED_STACK" Bundle.steD A s' s'.heap := by rw [hhp]; exact vx_Zq.moved hW0.alike (hU.kept hS.2.1)
  have hN' : vx_Zq Bundle.tN "SUPPRESSED_SENTINEL" Bundle.listD A s' s'.heap := by rw [hhp]; exact vx_Zq.moved hW0.alike (hN.kept hS.2.1)
  have h : ∀ w ∈ Bundle.ownAtoms own ic cls names, w.before args s' = true := vx_own hat' (vx_isRefq hU'.1) (vx_isRefq hN'.1) hU'.2.word hN'.2.word
  have hown' : s'.vm.findClass own = some m.cls := by rw [hvm]; exact hown
  have hins : (Cond.instantiable cls 6).before args s' = true := h _ (by simp [Bundle.ownAtoms])
  obtain ⟨vm₁, cX, kX, hfX, hkX, -, -, X₁, st1⟩ := Y.newCold hexec (own := own) (C := cls) (index := ik) (n := 6) hown' hk' hins hini'
    (g := F0 m pc ls rest) rfl (by rw [hb]; exact d0) (Nat.le_refl _) (Nat.le_refl _)
  generalize hT1 : (T.setVm vm₁).pushCell { cls := cX, slots := kX.instanceTypes.map defaultValue, vm := .none } = T1 at X₁ st1
  have hcat : (Value.ref T.heap.size).category = 1 := rfl
  have hcellA : T1.heap[T.heap.size]? = some (freshCell cX kX) := by rw [← hT1]; exact State.heap_pushCell_size _ _
  have d3' : decode c.code (pc + 3) = .ok (.dup, 1) := by rw [hb]; exact d3
  have d4' : decode c.code (pc + 4) = .ok (.ldc is, 2) := by rw [hb]; exact d4
  have hstr' : vk_R own is text sa s' := vk_R.warm hW0 hstr
  obtain ⟨U, hsteps, hrun, hend, hW, hsame, ce, hce, hO⟩ := X₁.ctorThrowS hexec htr (own := own) (cls := cls) (names := names) (ic := ic) hown' hcls hnames h (fun x hx => nomatch hx) hfX hkX hcellA (by rw [hhp, hT]; exact Nat.le_refl _) (msg := .ref sa) rfl
    (g := { method := m, pc := pc + 6, locals := ls, stack := .ref sa :: .ref T.heap.size :: .ref T.heap.size :: rest, locked := none }) rfl hsize rfl rfl (rest := rest) rfl
    (by rw [hb]; exact d6) (by rw [hb]; exact d9) hout hRframes (by simp only [List.map_cons, List.sum_cons, hcat]; omega) hlocks
  obtain ⟨f1, f2⟩ := vx_frame hsame
  rw [hhp] at f1 f2
  have hWs : s.WarmedH U.vm := State.WarmedH.trans hW0 hW
  have hcl : s.vm.findClass cls = some ce.cls := by
    have h9 := hO.cls
    rw [hvm] at h9
    exact h9
  have hall : s.sameButNew ({ U with vm := s.vm } : State) locs mc ms := by
    subst hA
    obtain ⟨e1, e2⟩ := hsame
    rw [State.setFrames_setFrames] at e1
    have h2 : (T.setVm s.vm).sameButNew ({ U with vm := s.vm } : State) [] (0 + 1) (0 + 6) := ⟨e1, e2⟩
    have h3 := X.same.trans h2
    rw [List.append_nil] at h3
    exact h3.mono hc hs
  refine ⟨U, ?_, .threw T.heap.size, hrun, hend, Or.inr ⟨T.heap.size, rfl, cls, ce, locs, hx U hWs.alike f1 (fun q hq => f2 q hq (fun z hz => nomatch hz)), hce, hO.vm, hcl, hWs, hall, hf⟩⟩
  refine st1 _ ?_
  show Steps p.tables e below (T1.setTop { method := m, pc := pc + 3, locals := ls, stack := .ref T.heap.size :: rest, locked := none }) _
  jvm_step X₁.here [X₁.here.top, hexec, d3', Value.category]
  exact X₁.ldcString hexec (own := own) (text := text) (index := is) (a := sa) hown' hstr'.1 hstr'.2
    (g := { method := m, pc := pc + 4, locals := ls, stack := .ref T.heap.size :: .ref T.heap.size :: rest, locked := none }) rfl d4' _ hsteps
/-- 'throw new E("text")', the text by a wide index -/
theorem vx_throwSW {cc : ByteArray} {pc : Nat} (hexec : p.tables.exec = Jvm.exec) (hb : c.code = cc) (hl : l.stackTraces = false) {own cls text : String} {names : List String} {ik is ic mc ms sa : Nat} {A : Nat → Prop}
    (hown : s.vm.findClass own = some m.cls) (hcls : Bundle.fit cls = true) (hnames : ∀ n ∈ names, Bundle.fit n = true)
    (hk : (Cond.classLink own ik cls).before args s = true) (hini : (Cond.initialized cls).before args s = true) (hstr : vk_R own is text sa s) (hat : ∀ w ∈ vx_atS own ic cls names, w.before args s = true)
    (hgood : ∀ w ∈ Cond.classLink own ik cls :: Cond.initialized cls :: vx_atS own ic cls names, vx_ot w = true)
    (hU : vx_Zq Bundle.tN "UNASSIGNED_STACK" Bundle.steD A s s.heap) (hN : vx_Zq Bundle.tN "SUPPRESSED_SENTINEL" Bundle.listD A s s.heap) (hS : va_S A s.heap H locs) (hsize : ls.size = c.maxLocals)
    (d0 : decode cc pc = .ok (.new ik, 3)) (d3 : decode cc (pc + 3) = .ok (.dup, 1)) (d4 : decode cc (pc + 4) = .ok (.ldc_w is, 3)) (d7 : decode cc (pc + 7) = .ok (.invokespecial ic, 3)) (d10 : decode cc (pc + 10) = .ok (.athrow, 1))
    (hout : ∀ x ∈ c.exceptionTable.toList, covers x (pc + 10) = false)
    (hRframes : names.length + 3 < R.frames) (hRlocals : (rest.map fun v => v.category).sum + (13 * (names.length + 1) + 43) ≤ R.locals) (hRcells : cells + 1 ≤ R.cells) (hRslots : slots + 6 ≤ R.slots) (hlocks : meth.locks = false)
    (hx : ∀ t : State, s.vm.Alike t.vm → H.size ≤ t.heap.size → (∀ q : Nat, q < H.size → t.heap[q]? = H[q]?) → XC cls s t)
    (hf : ∀ z ∈ locs, free z.base) (hc : cells + 1 ≤ mc) (hs : slots + 6 ≤ ms) :
    W p l e R s m args below meth c H locs cells slots (vx_MQ below Qc XC args s mc ms free) (F0 m pc ls rest) := by
  intro T hT X
  have htr : e.platform.stackTraces = false := (show e.platform.stackTraces = l.stackTraces by rw [X.admits.platform]).trans hl
  have Y := vx_rebase X (R' := { frames := R.frames, locals := R.locals, cells := 1, slots := 6 }) (Nat.le_refl _) (Nat.le_refl _) hRcells hRslots
  obtain ⟨s', hA⟩ : ∃ z, z = (T.setVm s.vm).setFrames (.invoking m args :: below) := ⟨_, rfl⟩
  rw [← hA] at Y
  have hvm : s'.vm = s.vm := by rw [hA]; rfl
  have hhp : s'.heap = H := by rw [hA]; exact hT
  have hW0 : s.WarmedH s'.vm := by rw [hvm]; exact State.WarmedH.refl s
  have hat' : ∀ w ∈ vx_atS own ic cls names, w.before args s' = true := fun w hw => vx_ot_at hW0 hvm.symm (hgood w (List.mem_cons_of_mem _ (List.mem_cons_of_mem _ hw))) (hat w hw)
  have hk' : (Cond.classLink own ik cls).before args s' = true := vx_ot_at hW0 hvm.symm (hgood _ List.mem_cons_self) hk
  have hini' : (Cond.initialized cls).before args s' = true := vx_ot_at hW0 hvm.symm (hgood _ (List.mem_cons_of_mem _ List.mem_cons_self)) hini
  have hU' : vx_Zq Bundle.tN "UNASSIGNED_STACK" Bundle.steD A s' s'.heap := by rw [hhp]; exact vx_Zq.moved hW0.alike (hU.kept hS.2.1)
  have hN' : vx_Zq Bundle.tN "SUPPRESSED_SENTINEL" Bundle.listD A s' s'.heap := by rw [hhp]; exact vx_Zq.moved hW0.alike (hN.kept hS.2.1)
  have h : ∀ w ∈ Bundle.ownAtoms own ic cls names, w.before args s' = true := vx_own hat' (vx_isRefq hU'.1) (vx_isRefq hN'.1) hU'.2.word hN'.2.word
  have hown' : s'.vm.findClass own = some m.cls := by rw [hvm]; exact hown
  have hins : (Cond.instantiable cls 6).before args s' = true := h _ (by simp [Bundle.ownAtoms])
  obtain ⟨vm₁, cX, kX, hfX, hkX, -, -, X₁, st1⟩ := Y.newCold hexec (own := own) (C := cls) (index := ik) (n := 6) hown' hk' hins hini'
    (g := F0 m pc ls rest) rfl (by rw [hb]; exact d0) (Nat.le_refl _) (Nat.le_refl _)
  generalize hT1 : (T.setVm vm₁).pushCell { cls := cX, slots := kX.instanceTypes.map defaultValue, vm := .none } = T1 at X₁ st1
  have hcat : (Value.ref T.heap.size).category = 1 := rfl
  have hcellA : T1.heap[T.heap.size]? = some (freshCell cX kX) := by rw [← hT1]; exact State.heap_pushCell_size _ _
  have d3' : decode c.code (pc + 3) = .ok (.dup, 1) := by rw [hb]; exact d3
  have d4' : decode c.code (pc + 4) = .ok (.ldc_w is, 3) := by rw [hb]; exact d4
  have hstr' : vk_R own is text sa s' := vk_R.warm hW0 hstr
  obtain ⟨U, hsteps, hrun, hend, hW, hsame, ce, hce, hO⟩ := X₁.ctorThrowS hexec htr (own := own) (cls := cls) (names := names) (ic := ic) hown' hcls hnames h (fun x hx => nomatch hx) hfX hkX hcellA (by rw [hhp, hT]; exact Nat.le_refl _) (msg := .ref sa) rfl
    (g := { method := m, pc := pc + 7, locals := ls, stack := .ref sa :: .ref T.heap.size :: .ref T.heap.size :: rest, locked := none }) rfl hsize rfl rfl (rest := rest) rfl
    (by rw [hb]; exact d7) (by rw [hb]; exact d10) hout hRframes (by simp only [List.map_cons, List.sum_cons, hcat]; omega) hlocks
  obtain ⟨f1, f2⟩ := vx_frame hsame
  rw [hhp] at f1 f2
  have hWs : s.WarmedH U.vm := State.WarmedH.trans hW0 hW
  have hcl : s.vm.findClass cls = some ce.cls := by
    have h9 := hO.cls
    rw [hvm] at h9
    exact h9
  have hall : s.sameButNew ({ U with vm := s.vm } : State) locs mc ms := by
    subst hA
    obtain ⟨e1, e2⟩ := hsame
    rw [State.setFrames_setFrames] at e1
    have h2 : (T.setVm s.vm).sameButNew ({ U with vm := s.vm } : State) [] (0 + 1) (0 + 6) := ⟨e1, e2⟩
    have h3 := X.same.trans h2
    rw [List.append_nil] at h3
    exact h3.mono hc hs
  refine ⟨U, ?_, .threw T.heap.size, hrun, hend, Or.inr ⟨T.heap.size, rfl, cls, ce, locs, hx U hWs.alike f1 (fun q hq => f2 q hq (fun z hz => nomatch hz)), hce, hO.vm, hcl, hWs, hall, hf⟩⟩
  refine st1 _ ?_
  show Steps p.tables e below (T1.setTop { method := m, pc := pc + 3, locals := ls, stack := .ref T.heap.size :: rest, locked := none }) _
  jvm_step X₁.here [X₁.here.top, hexec, d3', Value.category]
  exact X₁.ldcStringW hexec (own := own) (text := text) (index := is) (a := sa) hown' hstr'.1 hstr'.2
    (g := { method := m, pc := pc + 4, locals := ls, stack := .ref T.heap.size :: .ref T.heap.size :: rest, locked := none }) rfl d4' _ hsteps
end Ends
section Bodies
variable {l : Launch}
theorem vx_ofW {y : MethodName} {ws ws' : List Cond} {rm : Room} {Pc : Array Value → State → Prop} {Qc : Array Value → State → Outcome → State → Prop} {XC : String → State → State → Prop} {mc ms : Nat} {free : Addr → Prop} {cc : ByteArray} {maxL : Nat} {ret : Option FieldType}
    (hy : plainName y.cls = true) (hw : ws = Cond.code y cc maxL ret :: ws')
    (body : ∀ p e s m args below meth c s₁, BodyLoose p l y (headSpec ws rm) cc maxL ret e s m args below meth c s₁ → c.maxLocals = maxL → (∀ x ∈ c.exceptionTable.toList, False) → Pc args s →
      W p l e (headSpec ws rm).room s m args below meth c s.heap [] 0 0 (vx_MQ below Qc XC args s mc ms free) (entryFrame m args maxL)) : vx_Met l y ws rm Pc Qc XC mc ms free := by
  refine MetFree.of_bodyS (code := cc) (maxLocals := maxL) (ret := ret) hy ?_ ?_
  · intro args s m h hn
    obtain ⟨meth, c, h1, h2, h3, h4, h5, h6, -, -⟩ := Cond.code_spec hn (atoms_spec (ws := ws) h _ (by rw [hw]; exact List.mem_cons_self))
    exact ⟨meth, c, h1, h2, h3, h4, h5, h6⟩
  · intro p e s m args below meth c s₁ B hml hP _
    have hh0 : s₁.heap = s.heap := by rw [B.state]; rfl
    have ht : ∀ x ∈ c.exceptionTable.toList, False := by
      obtain ⟨meth9, c9, h1, h2, -, -, -, -, h7, -⟩ := Cond.code_spec B.named (atoms_spec (ws := ws) B.pre _ (by rw [hw]; exact List.mem_cons_self))
      cases Option.some.inj (h1.symm.trans B.method)
      cases Option.some.inj (h2.symm.trans (Stand.of_body B).code)
      intro x hx
      rw [Array.isEmpty_iff.mp h7] at hx
      cases hx
    obtain ⟨t, a1, o, b1, b2, b3⟩ := body p e s m args below meth c s₁ B hml ht hP s₁ hh0 (Stand.of_body B)
    exact ⟨t, o, a1, b1, b2, b3⟩
/-- the table of a body with handlers -/
theorem vx_table {p : Program} {x y : MethodName} {S : Spec} {cc bytes : ByteArray} {maxL maxL' : Nat} {ret ret' : Option FieldType} {e : Env} {s s₁ : State} {m : MethodId} {args : Array Value} {below : List Frame} {meth : Method} {c : Code} {hh : List (Nat × Nat × Nat × Nat)}
    (B : BodyLoose p l y S cc maxL ret e s m args below meth c s₁) (h : (Cond.codeWith y bytes maxL' ret' hh).before args s = true) : c.exceptionTable.toList = tableOf hh := by
  obtain ⟨m9, meth9, c9, hn9, h1, h2, -, -, h6, -⟩ := Cond.codeWith_spec h
  cases Option.some.inj (hn9.symm.trans B.named)
  cases Option.some.inj (h1.symm.trans B.method)
  cases Option.some.inj (h2.symm.trans (Stand.of_body B).code)
  rw [← h6, table_eq]
end Bodies
end VXA
/-! ===== END ===== -/
/-! ===== BEGIN a static call of a method with an exception table ===== -/
section VXS
variable {p : Program} {l : Launch} {e : Env} {R : Room} {s : State} {m : MethodId} {args : Array Value} {below : List Frame} {meth : Method} {c : Code} {T : State} {H : Heap} {locs : List Loc} {cells slots : Nat}
abbrev vx_CSW (R : Room) (s : State) (args : Array Value) (own : String) (index : Nat) (y : MethodName) (bytes : ByteArray) (maxL : Nat) (ret : Option FieldType) (hh : List (Nat × Nat × Nat × Nat)) (ws : List Cond) (rm : Room) (mc ms n : Nat) : Prop :=
  (rm.cells = mc ∧ rm.slots = ms ∧ rm.frames + 1 ≤ R.frames ∧ 8 + (maxL + 11) + rm.locals ≤ R.locals ∧ (∀ w ∈ ws, ∀ (a' : Array Value) (U : State), s.WarmedH U.vm → w.before a' U = true) ∧ Cond.codeWith y bytes maxL ret hh ∈ ws) ∧
  (Cond.codeWith y bytes maxL ret hh).before args s = true ∧ (Cond.initialized y.cls).before args s = true ∧ (y.cls ≠ "java/lang/invoke/MethodHandle" ∧ y.cls ≠ "java/lang/invoke/VarHandle") ∧
  (∀ sig, parseMethodDescriptor y.desc = some sig → n = sig.parameters.length) ∧ (Cond.methodLink own index y).before args s = true ∧ (Cond.static y).before args s = true
theorem vx_cwSW {own : String} {index maxL mc ms : Nat} {y : MethodName} {bytes : ByteArray} {ret : Option FieldType} {hh : List (Nat × Nat × Nat × Nat)} {Ts ws ws' : List Cond} {rm : Room} (n : Nat) (ht : ∀ w ∈ Ts, w.before args s = true) (hT : GoodIn Ts (va_wsS own index y ws)) (hw : ws = Cond.codeWith y bytes maxL ret hh :: ws') (hrc : rm.cells = mc) (hrs : rm.slots = ms)
    (hd : y.cls ≠ "java/lang/invoke/MethodHandle" ∧ y.cls ≠ "java/lang/invoke/VarHandle" ∧ (parseMethodDescriptor y.desc).map (fun d => d.parameters.length) = some n) (hR : rm.frames + 1 ≤ R.frames ∧ 8 + (maxL + 11) + rm.locals ≤ R.locals) :
    vx_CSW R s args own index y bytes maxL ret hh ws rm mc ms n := by
  have ok : ∀ w ∈ va_wsS own index y ws, w.before args s = true := fun w h => ht w (hT w h).1
  have hG : GoodIn Ts ws := fun w h => hT w (by unfold va_wsS; exact List.mem_append_right _ h)
  have hc : Cond.codeWith y bytes maxL ret hh ∈ ws := by rw [hw]; exact List.mem_cons_self
  refine ⟨⟨hrc, hrs, hR.1, hR.2, pay_in ht hG, hc⟩, ht _ (hG _ hc).1, ok _ (by simp [va_wsS]), ⟨hd.1, hd.2.1⟩, fun sig h => ?_, ok _ (by simp [va_wsS]), ok _ (by simp [va_wsS])⟩
  have h2 := hd.2.2
  rw [h] at h2
  exact (Option.some.inj h2).symm
theorem vx_callSW (X : Stand p l e R s m args below meth c T locs cells slots) (hexec : p.tables.exec = Jvm.exec) {own : String} {index : Nat} {y : MethodName} {bytes : ByteArray} {maxL : Nat} {ret : Option FieldType} {hh : List (Nat × Nat × Nat × Nat)}
    (hown : s.vm.findClass own = some m.cls) (hlink : (Cond.methodLink own index y).before args s = true) (hstat : (Cond.static y).before args s = true) (hinit : (Cond.initialized y.cls).before args s = true)
    (hcode : (Cond.codeWith y bytes maxL ret hh).before args s = true) (hy : y.cls ≠ "java/lang/invoke/MethodHandle" ∧ y.cls ≠ "java/lang/invoke/VarHandle")
    {W9 : Nat} {Pre : Pt → Array Value → Prop} {Post : Pt → Array Value → Option Value → Pt → Prop} (hK : Back l R p e below s args y 3 W9 Pre Post)
    {g : JFrame} (hg : g.method = m) (hsize : g.locals.size = c.maxLocals) {argsL rest : List Value} (hlen : ∀ sig, parseMethodDescriptor y.desc = some sig → argsL.length = sig.parameters.length)
    (hstack : g.stack = argsL.reverse ++ rest) (hW : 2 * g.monitorRoom + (rest.map fun v => v.category).sum ≤ W9) (hdg : decode c.code g.pc = .ok (.invokestatic index, 3))
    (hpre : ∀ vm₁, s.WarmedH vm₁ → Pre ⟨T.setVm vm₁, locs, cells, slots⟩ argsL.toArray) :
    ∃ (v : Option Value) (vm₁ : Vm) (B : Pt), s.WarmedH vm₁ ∧ Stand p l e R s m args below meth c B.U B.locs B.cells B.slots ∧ Post ⟨T.setVm vm₁, locs, cells, slots⟩ argsL.toArray v B ∧
      ∀ target, Steps p.tables e below (B.U.setTop { g with pc := g.pc + 3, stack := v.toList ++ rest }) target → Steps p.tables e below (T.setTop g) target := by
  obtain ⟨mk, methM, cM, hnamed, hmethM, -, -, -, -, -, -, hsigM⟩ := Cond.codeWith_spec hcode
  have hstatic : methM.isStatic = true := Cond.static_spec hnamed hmethM hstat
  obtain ⟨kP, hkP, -⟩ := className_of_methodNamed hnamed
  have hinitP : kP.init = .initialized := Cond.initialized_spec (findClass_of_methodNamed hnamed) hkP hinit
  obtain ⟨vm₁, X₁, hstep₁⟩ := X.invokestatic hexec hown hlink hnamed hmethM hstatic hkP hinitP hy (g := g) hg (argsL := argsL) (rest := rest) (hlen _ hsigM) hstack hdg
  obtain ⟨v, B, X', hpost, hsteps⟩ := hK m meth c ⟨T.setVm vm₁, locs, cells, slots⟩ { g with stack := rest } (.invokestatic index) mk argsL.toArray X₁ hg hsize hdg hW (X₁.named hnamed) (hpre vm₁ X₁.warmed)
  exact ⟨v, vm₁, B, X₁.warmed, X', hpost, fun target h => hstep₁ _ fun acts => by rw [doInvoke_state]; exact hsteps.trans h⟩
theorem vx_runSW {y : MethodName} {bytes cc : ByteArray} {maxL nL mc ms n index : Nat} {ret : Option FieldType} {hh : List (Nat × Nat × Nat × Nat)} {ws : List Cond} {rm : Room} {Pc : Array Value → State → Prop} {Qc : Array Value → State → Outcome → State → Prop} {free : Addr → Prop} {Ts : List Cond} {own : String} {As rest : List Value} {g : JFrame}
    (S : CallFix p m c cc nL s args Ts own) (hM : Met l y ws rm Pc Qc mc ms free) (cw : vx_CSW R s args own index y bytes maxL ret hh ws rm mc ms n) (hp : PreS s H Pc As)
    (hg : g.method = m) (hn : As.length = n) (hsize : g.locals.size = nL) (hstack : g.stack = As.reverse ++ rest) (hW : 2 * g.monitorRoom + (rest.map fun v => v.category).sum ≤ 8) (hdg : decode cc g.pc = .ok (.invokestatic index, 3)) (hf : cells + mc ≤ R.cells ∧ slots + ms ≤ R.slots) :
    va_Run p l e R s m args below meth c H locs cells slots mc ms g rest (Qc As.toArray) (free) := by
  obtain ⟨⟨hrc, hrs, hfr, hlo, hws, hcw⟩, hcode, hini, hy, hlen, hl, hstt⟩ := cw
  have hK : Back l R p e below s args y 3 8 (PreOf R mc ms Pc) (PostOf Qc mc ms free) := va_backW (hh := hh) (bytes := bytes) (maxL := maxL) (ret := ret) hM hp.1 hrc hrs hfr hlo hws hcw (fun a' U hW => word_at hW (Or.inl (by first | rfl | simp [Cond.onTables, Cond.keeps, Cond.steady])) hini)
  obtain ⟨hx, hb, hml, ho, -⟩ := S
  intro T hT X
  obtain ⟨v, vm₁, ⟨U', l2, c2, s2⟩, hW₁, X', ⟨g', mk, t, L, e1, e2, hq, h1, hL, h2, h3⟩, st⟩ := vx_callSW X hx (hh := hh) (bytes := bytes) (maxL := maxL) (ret := ret) ho hl hstt hini hcode hy hK hg (hsize.trans hml.symm) (argsL := As) (rest := rest) (fun sig h => hn.trans (hlen sig h)) hstack hW (by rw [hb]; exact hdg)
    (fun vm₁ hW₁ => ⟨hf.1, hf.2, hp.2 (T.setVm vm₁) hT hW₁⟩)
  dsimp only [Pt.U, Pt.locs, Pt.cells, Pt.slots] at X' e1 e2 h1 h2 h3 st
  subst h1; subst h2; subst h3
  exact ⟨v, (T.setVm vm₁).calling g' mk As.toArray, t, U', L, hT, X', hL, e1, e2, hq, st⟩
/-- a thing of a world lies in the heap -/
theorem vx_lt {D : va_G} {cl : List vw_C} {ws : va_W} {H1 : Heap} (h : va_P D cl ws H1) {k : Nat} {q : Nat × va_E} (hk : ws[k]? = some q) : q.1 < H1.size := (h k q hk).lt
end VXS
/-! ===== END ===== -/
/-! ===== BEGIN methods with a table of their own: called by a name, returning or throwing ===== -/
section VXH
/-! vx_backW, vx_callVX, vx_callSX, vx_callVW, vx_runVW, vx_runVX, vx_runSX, vx_ofWH follow the same proofs as their sisters above (Free/Laws.lean, Shelf42/LK1.lean); vx_outP calls Shelf42/NT130.lean (outThrough). -/
section
variable {l : Launch} {R : Room} {p : Program} {e : Env} {below : List Frame} {s : State} {sargs : Array Value} {y : MethodName} {len W9 : Nat}
theorem vx_backW {ws : List Cond} {rm : Room} {Pc : Array Value → State → Prop} {Qc : Array Value → State → Outcome → State → Prop} {XC : String → State → State → Prop} {mc ms : Nat} {free : Addr → Prop} {bytes : ByteArray} {maxL : Nat} {ret : Option FieldType} {hh : List (Nat × Nat × Nat × Nat)}
    (hM : vx_Met l y ws rm Pc Qc XC mc ms free) (hblind : FrameBlind Pc) (hrc : rm.cells = mc) (hrs : rm.slots = ms)
    (hframes : rm.frames + 1 ≤ R.frames) (hlocals : W9 + (maxL + 11) + rm.locals ≤ R.locals)
    (hws : ∀ w ∈ ws, ∀ a' U, s.WarmedH U.vm → w.before a' U = true) (hcode : Cond.codeWith y bytes maxL ret hh ∈ ws) (hinit : ∀ a' U, s.WarmedH U.vm → (Cond.initialized y.cls).before a' U = true) :
    vx_Back l R p e below s sargs y len W9 (PreOf R mc ms Pc) (PostOf Qc mc ms free) (vx_Post XC mc ms free) := by
  intro m meth c A g ig mk a X hg hsize hdg hW hn hp
  have h1 : (headSpec ws rm).pre.before a A.U = true := atoms_intro fun w hw => hws w hw _ _ X.warmed
  have h2 : (Cond.codeWith y bytes maxL ret hh).before a A.U = true := hws _ hcode _ _ X.warmed
  have h3 : (Cond.initialized y.cls).before a A.U = true := hinit _ _ X.warmed
  have h4 : A.cells + (headSpec ws rm).room.cells ≤ R.cells := by rw [show (headSpec ws rm).room.cells = mc from hrc]; exact hp.1
  have h5 : A.slots + (headSpec ws rm).room.slots ≤ R.slots := by rw [show (headSpec ws rm).room.slots = ms from hrs]; exact hp.2.1
  have hPc : Pc a (A.U.calling g mk a) := hblind _ _ _ _ hp.2.2
  obtain ⟨U, Ls, c0, s0⟩ := A
  dsimp only [Pt.U, Pt.locs, Pt.cells, Pt.slots] at h1 h2 h3 h4 h5 X hn hPc ⊢
  obtain ⟨m9, methY, cY, hn9, hmY, hcY, -, hlY, -⟩ := Cond.codeWith_spec h2
  cases Option.some.inj (hn9.symm.trans hn)
  obtain ⟨kY, hkY, -⟩ := className_of_methodNamed hn
  have hinitY : kY.init = .initialized := Cond.initialized_spec (findClass_of_methodNamed hn) hkY h3
  have h : At U g.method c below := by rw [hg]; exact X.here
  have hlocals9 : W9 + (maxL + 11) + (headSpec ws rm).room.locals ≤ R.locals := hlocals
  have happ : (headSpec ws rm).appliesLoose y e.platform (U.calling g mk a) = true :=
    Spec.appliesLoose_calling (g := g) h hdg hn hkY hinitY
      (X.room_calling (g := g) (R' := (headSpec ws rm).room) hsize hmY hcY hframes (by rw [hlY]; omega) h4 h5) h1
  obtain ⟨mid, hmid⟩ := h.above
  have hfr : (U.setTop g).frames = (.java g :: mid) ++ below := by rw [State.frames_setTop' g h.top, hmid]; rfl
  obtain ⟨o, s₂, hsteps, -, hend, hq⟩ := Steps.callFree hM p X.admits X.cas X.clock (acts := []) hfr happ hPc trivial
  have hq' : vx_Q Qc XC mc ms free a (U.calling g mk a) o s₂ := hq
  rw [State.frames_setTop' g h.top] at hend
  obtain ⟨g₀, hg0⟩ := Option.isSome_iff_exists.mp h.top
  obtain ⟨r, hr⟩ := State.topJava?_eq_some.mp hg0
  have hr' : (({ U with heap := s₂.heap, slotsUsed := s₂.slotsUsed } : State).setVm s₂.vm).frames = .java g₀ :: r := hr
  rcases hq' with ⟨hqc, L, hfe, hL⟩ | ⟨q, rfl, E, ce, L, hx, hce, hcv, hcl, hW₂, hsm, hL⟩
  · obtain ⟨⟨v, rfl⟩, hW₂, e2, q2, q3, q4, q5, q6⟩ := id hfe
    have e3 : s₂ = ({ (U.calling g mk a).setFrames s₂.frames with heap := s₂.heap, slotsUsed := s₂.slotsUsed } : State).setVm s₂.vm := by
      have : s₂ = ({ s₂ with vm := (U.calling g mk a).vm } : State).setVm s₂.vm := rfl
      rw [e2] at this
      exact this
    obtain ⟨c₂, i₂, len₂, hc₂, hd₂, hf₂⟩ := hend
    have hW' : U.WarmedH s₂.vm := hW₂
    have hcc : c₂ = c := by
      have h1 : s₂.code? g.method = U.code? g.method := by
        rw [State.code?_eq, State.code?_eq, hW'.alike.method?]
      exact Option.some.inj (hc₂.symm.trans (h1.trans h.code))
    subst hcc
    have hlen : len₂ = len := by rw [hdg] at hd₂; cases hd₂; rfl
    subst hlen
    have hs₂ : s₂ = (({ U with heap := s₂.heap, slotsUsed := s₂.slotsUsed } : State).setVm s₂.vm).setTop { g with pc := g.pc + len₂, stack := v.toList ++ g.stack } := by
      refine e3.trans ?_
      rw [hf₂, State.calling_eq h.top, State.setFrames_setFrames, State.setTop_of_frames _ hr', hr]
      rfl
    have hsame : U.sameButNew ({ U with heap := s₂.heap, slotsUsed := s₂.slotsUsed } : State) L mc ms := by
      refine ⟨?_, q2, q3, q4, q5, q6⟩
      obtain ⟨t, ht, -⟩ := State.frames_cons hr
      show ({ U with heap := s₂.heap, slotsUsed := s₂.slotsUsed } : State) = { U.setFrames U.frames with heap := s₂.heap, slotsUsed := s₂.slotsUsed }
      rw [State.setFrames_self ht]
    subst hg
    refine Or.inl ⟨v, ⟨(({ U with heap := s₂.heap, slotsUsed := s₂.slotsUsed } : State).setVm s₂.vm), Ls ++ L, c0 + mc, s0 + ms⟩,
      ⟨X.admits, X.cas, X.clock, X.frames, X.room, X.hears, X.method, X.code, (X.here.setHeapUsed s₂.heap s₂.slotsUsed).setVm hW'.alike, X.tail, State.WarmedH.trans X.warmed hW', X.limits, X.bytes, X.same.trans (hsame.setVm s.vm)⟩,
      ⟨g, mk, s₂, L, rfl, rfl, hqc, rfl, hL, rfl, rfl⟩, ?_⟩
    show Steps p.tables e below _ ((({ U with heap := s₂.heap, slotsUsed := s₂.slotsUsed } : State).setVm s₂.vm).setTop { g with pc := g.pc + len₂, stack := v.toList ++ g.stack })
    rw [← hs₂]
    exact hsteps
  · obtain ⟨e2, q2, q3, q4, q5, q6⟩ := id hsm
    have e3 : s₂ = ({ (U.calling g mk a).setFrames s₂.frames with heap := s₂.heap, slotsUsed := s₂.slotsUsed } : State).setVm s₂.vm := by
      have : s₂ = ({ s₂ with vm := (U.calling g mk a).vm } : State).setVm s₂.vm := rfl
      rw [e2] at this
      exact this
    have hf₂ : s₂.frames = .throwing q :: .java g :: U.frames.tail := hend
    have hW' : U.WarmedH s₂.vm := hW₂
    have hs₂ : s₂ = ((({ U with heap := s₂.heap, slotsUsed := s₂.slotsUsed } : State).setVm s₂.vm).setTop g).pushFrame (.throwing q) := by
      refine e3.trans ?_
      rw [hf₂, State.calling_eq h.top, State.setFrames_setFrames, State.pushFrame, State.frames_setTop _ hr', State.setTop_of_frames _ hr', State.setFrames_setFrames, hr]
      rfl
    have hsame : U.sameButNew ({ U with heap := s₂.heap, slotsUsed := s₂.slotsUsed } : State) L mc ms := by
      refine ⟨?_, q2, q3, q4, q5, q6⟩
      obtain ⟨t, ht, -⟩ := State.frames_cons hr
      show ({ U with heap := s₂.heap, slotsUsed := s₂.slotsUsed } : State) = { U.setFrames U.frames with heap := s₂.heap, slotsUsed := s₂.slotsUsed }
      rw [State.setFrames_self ht]
    subst hg
    refine Or.inr ⟨q, ⟨(({ U with heap := s₂.heap, slotsUsed := s₂.slotsUsed } : State).setVm s₂.vm), Ls ++ L, c0 + mc, s0 + ms⟩,
      ⟨X.admits, X.cas, X.clock, X.frames, X.room, X.hears, X.method, X.code, (X.here.setHeapUsed s₂.heap s₂.slotsUsed).setVm hW'.alike, X.tail, State.WarmedH.trans X.warmed hW', X.limits, X.bytes, X.same.trans (hsame.setVm s.vm)⟩,
      ⟨g, mk, s₂, L, E, ce, rfl, rfl, hx, hce, hcv, hcl, rfl, hL, rfl, rfl⟩, ?_⟩
    show Steps p.tables e below _ (((({ U with heap := s₂.heap, slotsUsed := s₂.slotsUsed } : State).setVm s₂.vm).setTop g).pushFrame (.throwing q))
    rw [← hs₂]
    exact hsteps
end
variable {p : Program} {l : Launch} {e : Env} {R : Room} {s : State} {m : MethodId} {args : Array Value} {below : List Frame} {meth : Method} {c : Code} {T : State} {H : Heap} {locs : List Loc} {cells slots : Nat}
theorem vx_callVX (X : Stand p l e R s m args below meth c T locs cells slots) (hexec : p.tables.exec = Jvm.exec) {own C : String} {index : Nat} {y : MethodName} {bytes : ByteArray} {maxL : Nat} {ret : Option FieldType} {hh : List (Nat × Nat × Nat × Nat)}
    (hown : s.vm.findClass own = some m.cls) (hlink : (Cond.methodLink own index y).before args s = true) (hinst : (Cond.instanceMethod y).before args s = true) (hsel : (Cond.selects C y y).before args s = true)
    (hcode : (Cond.codeWith y bytes maxL ret hh).before args s = true) (hy : y.cls ≠ "java/lang/invoke/MethodHandle" ∧ y.cls ≠ "java/lang/invoke/VarHandle")
    {W9 : Nat} {Pre : Pt → Array Value → Prop} {Post : Pt → Array Value → Option Value → Pt → Prop} {PostX : Pt → Array Value → Addr → Pt → Prop} (hK : vx_Back l R p e below s args y 3 W9 Pre Post PostX)
    {b : Addr} {cellB : Cell} (hcell : T.heap[b]? = some cellB) (hobj : cellB.vm.isStatics = false) (hcls : s.vm.findClass C = some cellB.cls)
    {g : JFrame} (hg : g.method = m) (hsize : g.locals.size = c.maxLocals) {argsL rest : List Value} (hlen : ∀ sig, parseMethodDescriptor y.desc = some sig → argsL.length = sig.parameters.length)
    (hstack : g.stack = argsL.reverse ++ .ref b :: rest) (hW : 2 * g.monitorRoom + (rest.map fun v => v.category).sum ≤ W9) (hdg : decode c.code g.pc = .ok (.invokevirtual index, 3))
    (hpre : ∀ vm₁, s.WarmedH vm₁ → Pre ⟨T.setVm vm₁, locs, cells, slots⟩ (Value.ref b :: argsL).toArray) :
    (∃ (v : Option Value) (vm₁ : Vm) (B : Pt), s.WarmedH vm₁ ∧ Stand p l e R s m args below meth c B.U B.locs B.cells B.slots ∧ Post ⟨T.setVm vm₁, locs, cells, slots⟩ (Value.ref b :: argsL).toArray v B ∧
      ∀ target, Steps p.tables e below (B.U.setTop { g with pc := g.pc + 3, stack := v.toList ++ rest }) target → Steps p.tables e below (T.setTop g) target) ∨
    (∃ (q : Addr) (vm₁ : Vm) (B : Pt), s.WarmedH vm₁ ∧ Stand p l e R s m args below meth c B.U B.locs B.cells B.slots ∧ PostX ⟨T.setVm vm₁, locs, cells, slots⟩ (Value.ref b :: argsL).toArray q B ∧
      Steps p.tables e below (T.setTop g) ((B.U.setTop { g with stack := rest }).pushFrame (.throwing q))) := by
  obtain ⟨mk, methM, hnamed, hmethM, hstM, habM⟩ := Cond.instanceMethod_spec hinst
  obtain ⟨m8, methM', cM, hn8, hmethM', -, -, -, -, -, -, hsigM⟩ := Cond.codeWith_spec hcode
  cases Option.some.inj (hn8.symm.trans hnamed)
  cases hmethM.symm.trans hmethM'
  obtain ⟨c2, r2, m2, q1, q2, q3, q4, kP, hkP, hkPi⟩ := Cond.selects_spec hsel
  cases hcls.symm.trans q1
  cases (State.methodFound?_of_named hnamed hy).symm.trans q2
  cases hnamed.symm.trans q3
  have hselP : selectMethod e.platform s.vm cellB.cls mk = .method mk := by rw [Launch.admits_selectMethod X.admits]; exact q4
  obtain ⟨vm₁, X₁, hstep₁⟩ := X.invokevirtual hexec hown hlink hnamed hmethM hstM hkP hkPi hy (a := b) (cell := cellB) hcell
    (fun z h => by rw [h] at hobj; cases hobj) hselP hmethM habM hkP hkPi (g := g) hg (argsL := argsL) (rest := rest) (hlen _ hsigM) hstack hdg
  rcases hK m meth c ⟨T.setVm vm₁, locs, cells, slots⟩ { g with stack := rest } (.invokevirtual index) mk (Value.ref b :: argsL).toArray X₁ hg hsize hdg hW (X₁.named hnamed) (hpre vm₁ X₁.warmed) with ⟨v, B, X', hpost, hsteps⟩ | ⟨q, B, X', hpost, hsteps⟩
  · exact Or.inl ⟨v, vm₁, B, X₁.warmed, X', hpost, fun target h => hstep₁ _ fun acts => by rw [doInvoke_state]; exact hsteps.trans h⟩
  · exact Or.inr ⟨q, vm₁, B, X₁.warmed, X', hpost, hstep₁ _ fun acts => by rw [doInvoke_state]; exact hsteps⟩
theorem vx_callSX (X : Stand p l e R s m args below meth c T locs cells slots) (hexec : p.tables.exec = Jvm.exec) {own : String} {index : Nat} {y : MethodName} {bytes : ByteArray} {maxL : Nat} {ret : Option FieldType} {hh : List (Nat × Nat × Nat × Nat)}
    (hown : s.vm.findClass own = some m.cls) (hlink : (Cond.methodLink own index y).before args s = true) (hstat : (Cond.static y).before args s = true) (hinit : (Cond.initialized y.cls).before args s = true)
    (hcode : (Cond.codeWith y bytes maxL ret hh).before args s = true) (hy : y.cls ≠ "java/lang/invoke/MethodHandle" ∧ y.cls ≠ "java/lang/invoke/VarHandle")
    {W9 : Nat} {Pre : Pt → Array Value → Prop} {Post : Pt → Array Value → Option Value → Pt → Prop} {PostX : Pt → Array Value → Addr → Pt → Prop} (hK : vx_Back l R p e below s args y 3 W9 Pre Post PostX)
    {g : JFrame} (hg : g.method = m) (hsize : g.locals.size = c.maxLocals) {argsL rest : List Value} (hlen : ∀ sig, parseMethodDescriptor y.desc = some sig → argsL.length = sig.parameters.length)
    (hstack : g.stack = argsL.reverse ++ rest) (hW : 2 * g.monitorRoom + (rest.map fun v => v.category).sum ≤ W9) (hdg : decode c.code g.pc = .ok (.invokestatic index, 3))
    (hpre : ∀ vm₁, s.WarmedH vm₁ → Pre ⟨T.setVm vm₁, locs, cells, slots⟩ argsL.toArray) :
    (∃ (v : Option Value) (vm₁ : Vm) (B : Pt), s.WarmedH vm₁ ∧ Stand p l e R s m args below meth c B.U B.locs B.cells B.slots ∧ Post ⟨T.setVm vm₁, locs, cells, slots⟩ argsL.toArray v B ∧
      ∀ target, Steps p.tables e below (B.U.setTop { g with pc := g.pc + 3, stack := v.toList ++ rest }) target → Steps p.tables e below (T.setTop g) target) ∨
    (∃ (q : Addr) (vm₁ : Vm) (B : Pt), s.WarmedH vm₁ ∧ Stand p l e R s m args below meth c B.U B.locs B.cells B.slots ∧ PostX ⟨T.setVm vm₁, locs, cells, slots⟩ argsL.toArray q B ∧
      Steps p.tables e below (T.setTop g) ((B.U.setTop { g with stack := rest }).pushFrame (.throwing q))) := by
  obtain ⟨mk, methM, cM, hnamed, hmethM, -, -, -, -, -, -, hsigM⟩ := Cond.codeWith_spec hcode
  have hstatic : methM.isStatic = true := Cond.static_spec hnamed hmethM hstat
  obtain ⟨kP, hkP, -⟩ := className_of_methodNamed hnamed
  have hinitP : kP.init = .initialized := Cond.initialized_spec (findClass_of_methodNamed hnamed) hkP hinit
  obtain ⟨vm₁, X₁, hstep₁⟩ := X.invokestatic hexec hown hlink hnamed hmethM hstatic hkP hinitP hy (g := g) hg (argsL := argsL) (rest := rest) (hlen _ hsigM) hstack hdg
  rcases hK m meth c ⟨T.setVm vm₁, locs, cells, slots⟩ { g with stack := rest } (.invokestatic index) mk argsL.toArray X₁ hg hsize hdg hW (X₁.named hnamed) (hpre vm₁ X₁.warmed) with ⟨v, B, X', hpost, hsteps⟩ | ⟨q, B, X', hpost, hsteps⟩
  · exact Or.inl ⟨v, vm₁, B, X₁.warmed, X', hpost, fun target h => hstep₁ _ fun acts => by rw [doInvoke_state]; exact hsteps.trans h⟩
  · exact Or.inr ⟨q, vm₁, B, X₁.warmed, X', hpost, hstep₁ _ fun acts => by rw [doInvoke_state]; exact hsteps⟩
theorem vx_callVW (X : Stand p l e R s m args below meth c T locs cells slots) (hexec : p.tables.exec = Jvm.exec) {own C : String} {index : Nat} {y : MethodName} {bytes : ByteArray} {maxL : Nat} {ret : Option FieldType} {hh : List (Nat × Nat × Nat × Nat)}
    (hown : s.vm.findClass own = some m.cls) (hlink : (Cond.methodLink own index y).before args s = true) (hinst : (Cond.instanceMethod y).before args s = true) (hsel : (Cond.selects C y y).before args s = true)
    (hcode : (Cond.codeWith y bytes maxL ret hh).before args s = true) (hy : y.cls ≠ "java/lang/invoke/MethodHandle" ∧ y.cls ≠ "java/lang/invoke/VarHandle")
    {W9 : Nat} {Pre : Pt → Array Value → Prop} {Post : Pt → Array Value → Option Value → Pt → Prop} (hK : Back l R p e below s args y 3 W9 Pre Post)
    {b : Addr} {cellB : Cell} (hcell : T.heap[b]? = some cellB) (hobj : cellB.vm.isStatics = false) (hcls : s.vm.findClass C = some cellB.cls)
    {g : JFrame} (hg : g.method = m) (hsize : g.locals.size = c.maxLocals) {argsL rest : List Value} (hlen : ∀ sig, parseMethodDescriptor y.desc = some sig → argsL.length = sig.parameters.length)
    (hstack : g.stack = argsL.reverse ++ .ref b :: rest) (hW : 2 * g.monitorRoom + (rest.map fun v => v.category).sum ≤ W9) (hdg : decode c.code g.pc = .ok (.invokevirtual index, 3))
    (hpre : ∀ vm₁, s.WarmedH vm₁ → Pre ⟨T.setVm vm₁, locs, cells, slots⟩ (Value.ref b :: argsL).toArray) :
    ∃ (v : Option Value) (vm₁ : Vm) (B : Pt), s.WarmedH vm₁ ∧ Stand p l e R s m args below meth c B.U B.locs B.cells B.slots ∧ Post ⟨T.setVm vm₁, locs, cells, slots⟩ (Value.ref b :: argsL).toArray v B ∧
      ∀ target, Steps p.tables e below (B.U.setTop { g with pc := g.pc + 3, stack := v.toList ++ rest }) target → Steps p.tables e below (T.setTop g) target := by
  obtain ⟨mk, methM, hnamed, hmethM, hstM, habM⟩ := Cond.instanceMethod_spec hinst
  obtain ⟨m8, methM', cM, hn8, hmethM', -, -, -, -, -, -, hsigM⟩ := Cond.codeWith_spec hcode
  cases Option.some.inj (hn8.symm.trans hnamed)
  cases hmethM.symm.trans hmethM'
  obtain ⟨c2, r2, m2, q1, q2, q3, q4, kP, hkP, hkPi⟩ := Cond.selects_spec hsel
  cases hcls.symm.trans q1
  cases (State.methodFound?_of_named hnamed hy).symm.trans q2
  cases hnamed.symm.trans q3
  have hselP : selectMethod e.platform s.vm cellB.cls mk = .method mk := by rw [Launch.admits_selectMethod X.admits]; exact q4
  obtain ⟨vm₁, X₁, hstep₁⟩ := X.invokevirtual hexec hown hlink hnamed hmethM hstM hkP hkPi hy (a := b) (cell := cellB) hcell
    (fun z h => by rw [h] at hobj; cases hobj) hselP hmethM habM hkP hkPi (g := g) hg (argsL := argsL) (rest := rest) (hlen _ hsigM) hstack hdg
  obtain ⟨v, B, X', hpost, hsteps⟩ := hK m meth c ⟨T.setVm vm₁, locs, cells, slots⟩ { g with stack := rest } (.invokevirtual index) mk (Value.ref b :: argsL).toArray X₁ hg hsize hdg hW (X₁.named hnamed) (hpre vm₁ X₁.warmed)
  exact ⟨v, vm₁, B, X₁.warmed, X', hpost, fun target h => hstep₁ _ fun acts => by rw [doInvoke_state]; exact hsteps.trans h⟩
abbrev vx_CVW (R : Room) (s : State) (args : Array Value) (own C : String) (index : Nat) (y : MethodName) (bytes : ByteArray) (maxL : Nat) (ret : Option FieldType) (hh : List (Nat × Nat × Nat × Nat)) (ws : List Cond) (rm : Room) (mc ms n : Nat) : Prop :=
  (rm.cells = mc ∧ rm.slots = ms ∧ rm.frames + 1 ≤ R.frames ∧ 8 + (maxL + 11) + rm.locals ≤ R.locals ∧ (∀ w ∈ ws, ∀ (a' : Array Value) (U : State), s.WarmedH U.vm → w.before a' U = true) ∧ Cond.codeWith y bytes maxL ret hh ∈ ws) ∧
  (Cond.codeWith y bytes maxL ret hh).before args s = true ∧ (Cond.initialized y.cls).before args s = true ∧ (y.cls ≠ "java/lang/invoke/MethodHandle" ∧ y.cls ≠ "java/lang/invoke/VarHandle") ∧
  (∀ sig, parseMethodDescriptor y.desc = some sig → n = sig.parameters.length) ∧ (Cond.methodLink own index y).before args s = true ∧ (Cond.instanceMethod y).before args s = true ∧ (Cond.selects C y y).before args s = true
theorem vx_cwVW {own C : String} {index maxL mc ms : Nat} {y : MethodName} {bytes : ByteArray} {ret : Option FieldType} {hh : List (Nat × Nat × Nat × Nat)} {Ts ws ws' : List Cond} {rm : Room} (n : Nat) (ht : ∀ w ∈ Ts, w.before args s = true) (hT : GoodIn Ts (wsV own index C y ws)) (hw : ws = Cond.codeWith y bytes maxL ret hh :: ws') (hrc : rm.cells = mc) (hrs : rm.slots = ms)
    (hd : y.cls = C ∧ y.cls ≠ "java/lang/invoke/MethodHandle" ∧ y.cls ≠ "java/lang/invoke/VarHandle" ∧ (parseMethodDescriptor y.desc).map (fun d => d.parameters.length) = some n) (hR : rm.frames + 1 ≤ R.frames ∧ 8 + (maxL + 11) + rm.locals ≤ R.locals) :
    vx_CVW R s args own C index y bytes maxL ret hh ws rm mc ms n := by
  obtain ⟨hC, hd⟩ := hd
  subst hC
  have ok : ∀ w ∈ wsV own index y.cls y ws, w.before args s = true := fun w h => ht w (hT w h).1
  have hG : GoodIn Ts ws := fun w h => hT w (by unfold wsV; exact List.mem_append_right _ h)
  have hc : Cond.codeWith y bytes maxL ret hh ∈ ws := by rw [hw]; exact List.mem_cons_self
  refine ⟨⟨hrc, hrs, hR.1, hR.2, pay_in ht hG, hc⟩, ht _ (hG _ hc).1, ok _ (by simp [wsV]), ⟨hd.1, hd.2.1⟩, fun sig h => ?_, ok _ (by simp [wsV]), ok _ (by simp [wsV]), ok _ (by simp [wsV])⟩
  have h2 := hd.2.2
  rw [h] at h2
  exact (Option.some.inj h2).symm
theorem vx_runVW {y : MethodName} {bytes cc : ByteArray} {maxL nL mc ms n index : Nat} {ret : Option FieldType} {hh : List (Nat × Nat × Nat × Nat)} {ws : List Cond} {rm : Room} {Pc : Array Value → State → Prop} {Qc : Array Value → State → Outcome → State → Prop} {free : Addr → Prop} {Ts : List Cond} {own C : String} {b : Addr} {As rest : List Value} {g : JFrame}
    (S : CallFix p m c cc nL s args Ts own) (hM : Met l y ws rm Pc Qc mc ms free) (cw : vx_CVW R s args own C index y bytes maxL ret hh ws rm mc ms n) (hp : PreV s H C b Pc As)
    (hg : g.method = m) (hn : As.length = n) (hsize : g.locals.size = nL) (hstack : g.stack = As.reverse ++ .ref b :: rest) (hW : 2 * g.monitorRoom + (rest.map fun v => v.category).sum ≤ 8) (hdg : decode cc g.pc = .ok (.invokevirtual index, 3)) (hf : cells + mc ≤ R.cells ∧ slots + ms ≤ R.slots) :
    va_Run p l e R s m args below meth c H locs cells slots mc ms g rest (Qc (Value.ref b :: As).toArray) free := by
  obtain ⟨⟨hrc, hrs, hfr, hlo, hws, hcw⟩, hcode, hini, hy, hlen, hl, hin, hse⟩ := cw
  have hK : Back l R p e below s args y 3 8 (PreOf R mc ms Pc) (PostOf Qc mc ms free) := va_backW (hh := hh) (bytes := bytes) (maxL := maxL) (ret := ret) hM hp.1 hrc hrs hfr hlo hws hcw (fun a' U hW => word_at hW (Or.inl (by first | rfl | simp [Cond.onTables, Cond.keeps, Cond.steady])) hini)
  obtain ⟨hx, hb, hml, ho, -⟩ := S
  obtain ⟨-, ⟨cellB, hcB, hoB, hclB⟩, hPc⟩ := hp
  intro T hT X
  obtain ⟨v, vm₁, ⟨U', l2, c2, s2⟩, hW₁, X', ⟨g', mk, t, L, e1, e2, hq, h1, hL, h2, h3⟩, st⟩ := vx_callVW X hx (C := C) (hh := hh) (bytes := bytes) (maxL := maxL) (ret := ret) ho hl hin hse hcode hy hK (by rw [hT]; exact hcB) hoB hclB hg (hsize.trans hml.symm) (argsL := As) (rest := rest) (fun sig h => hn.trans (hlen sig h)) hstack hW (by rw [hb]; exact hdg)
    (fun vm₁ hW₁ => ⟨hf.1, hf.2, hPc (T.setVm vm₁) hT hW₁⟩)
  dsimp only [Pt.U, Pt.locs, Pt.cells, Pt.slots] at X' e1 e2 h1 h2 h3 st
  subst h1; subst h2; subst h3
  exact ⟨v, (T.setVm vm₁).calling g' mk (Value.ref b :: As).toArray, t, U', L, hT, X', hL, e1, e2, hq, st⟩
section
variable {y : MethodName} {bytes cc : ByteArray} {maxL nL mc ms n index : Nat} {ret : Option FieldType} {ws : List Cond} {rm : Room} {Pc : Array Value → State → Prop} {Qc : Array Value → State → Outcome → State → Prop} {XC : String → State → State → Prop} {free : Addr → Prop} {Ts : List Cond} {own C : String} {b : Addr} {As rest : List Value} {g : JFrame}
theorem vx_runVX {hh : List (Nat × Nat × Nat × Nat)} (S : CallFix p m c cc nL s args Ts own) (hM : vx_Met l y ws rm Pc Qc XC mc ms free) (cw : vx_CVW R s args own C index y bytes maxL ret hh ws rm mc ms n) (hp : PreV s H C b Pc As)
    (hg : g.method = m) (hn : As.length = n) (hsize : g.locals.size = nL) (hstack : g.stack = As.reverse ++ .ref b :: rest) (hW : 2 * g.monitorRoom + (rest.map fun v => v.category).sum ≤ 8) (hdg : decode cc g.pc = .ok (.invokevirtual index, 3)) (hf : cells + mc ≤ R.cells ∧ slots + ms ≤ R.slots) :
    vx_Run p l e R s m args below meth c H locs cells slots mc ms g rest (Qc (Value.ref b :: As).toArray) XC free := by
  obtain ⟨⟨hrc, hrs, hfr, hlo, hws, hcw⟩, hcode, hini, hy, hlen, hl, hin, hse⟩ := cw
  have hK : vx_Back l R p e below s args y 3 8 (PreOf R mc ms Pc) (PostOf Qc mc ms free) (vx_Post XC mc ms free) := vx_backW (hh := hh) (bytes := bytes) (maxL := maxL) (ret := ret) hM hp.1 hrc hrs hfr hlo hws hcw (fun a' U hW => word_at hW (Or.inl (by first | rfl | simp [Cond.onTables, Cond.keeps, Cond.steady])) hini)
  obtain ⟨hx, hb, hml, ho, -⟩ := S
  obtain ⟨-, ⟨cellB, hcB, hoB, hclB⟩, hPc⟩ := hp
  intro T hT X
  rcases vx_callVX X hx (C := C) (hh := hh) (bytes := bytes) (maxL := maxL) (ret := ret) ho hl hin hse hcode hy hK (by rw [hT]; exact hcB) hoB hclB hg (hsize.trans hml.symm) (argsL := As) (rest := rest) (fun sig h => hn.trans (hlen sig h)) hstack hW (by rw [hb]; exact hdg)
    (fun vm₁ hW₁ => ⟨hf.1, hf.2, hPc (T.setVm vm₁) hT hW₁⟩) with ⟨v, vm₁, ⟨U', l2, c2, s2⟩, hW₁, X', ⟨g', mk, t, L, e1, e2, hq, h1, hL, h2, h3⟩, st⟩ | ⟨q, vm₁, ⟨U', l2, c2, s2⟩, hW₁, X', ⟨g', mk, t, L, E, ce, e1, e2, hq, hce, hcv, hcl, h1, hL, h2, h3⟩, st⟩
  · dsimp only [Pt.U, Pt.locs, Pt.cells, Pt.slots] at X' e1 e2 h1 h2 h3 st
    subst h1; subst h2; subst h3
    exact Or.inl ⟨v, (T.setVm vm₁).calling g' mk (Value.ref b :: As).toArray, t, U', L, hT, X', hL, e1, e2, hq, st⟩
  · dsimp only [Pt.U, Pt.locs, Pt.cells, Pt.slots] at X' e1 e2 h1 h2 h3 st hcl
    subst h1; subst h2; subst h3
    exact Or.inr ⟨q, (T.setVm vm₁).calling g' mk (Value.ref b :: As).toArray, t, U', L, E, ce, hT, X', hL, e1, e2, hq, hce, hcv, vx_cls hW₁ hcl, st⟩
theorem vx_runSX {hh : List (Nat × Nat × Nat × Nat)} (S : CallFix p m c cc nL s args Ts own) (hM : vx_Met l y ws rm Pc Qc XC mc ms free) (cw : vx_CSW R s args own index y bytes maxL ret hh ws rm mc ms n) (hp : PreS s H Pc As)
    (hg : g.method = m) (hn : As.length = n) (hsize : g.locals.size = nL) (hstack : g.stack = As.reverse ++ rest) (hW : 2 * g.monitorRoom + (rest.map fun v => v.category).sum ≤ 8) (hdg : decode cc g.pc = .ok (.invokestatic index, 3)) (hf : cells + mc ≤ R.cells ∧ slots + ms ≤ R.slots) :
    vx_Run p l e R s m args below meth c H locs cells slots mc ms g rest (Qc As.toArray) XC free := by
  obtain ⟨⟨hrc, hrs, hfr, hlo, hws, hcw⟩, hcode, hini, hy, hlen, hl, hstt⟩ := cw
  have hK : vx_Back l R p e below s args y 3 8 (PreOf R mc ms Pc) (PostOf Qc mc ms free) (vx_Post XC mc ms free) := vx_backW (hh := hh) (bytes := bytes) (maxL := maxL) (ret := ret) hM hp.1 hrc hrs hfr hlo hws hcw (fun a' U hW => word_at hW (Or.inl (by first | rfl | simp [Cond.onTables, Cond.keeps, Cond.steady])) hini)
  obtain ⟨hx, hb, hml, ho, -⟩ := S
  intro T hT X
  rcases vx_callSX X hx (hh := hh) (bytes := bytes) (maxL := maxL) (ret := ret) ho hl hstt hini hcode hy hK hg (hsize.trans hml.symm) (argsL := As) (rest := rest) (fun sig h => hn.trans (hlen sig h)) hstack hW (by rw [hb]; exact hdg)
    (fun vm₁ hW₁ => ⟨hf.1, hf.2, hp.2 (T.setVm vm₁) hT hW₁⟩) with ⟨v, vm₁, ⟨U', l2, c2, s2⟩, hW₁, X', ⟨g', mk, t, L, e1, e2, hq, h1, hL, h2, h3⟩, st⟩ | ⟨q, vm₁, ⟨U', l2, c2, s2⟩, hW₁, X', ⟨g', mk, t, L, E, ce, e1, e2, hq, hce, hcv, hcl, h1, hL, h2, h3⟩, st⟩
  · dsimp only [Pt.U, Pt.locs, Pt.cells, Pt.slots] at X' e1 e2 h1 h2 h3 st
    subst h1; subst h2; subst h3
    exact Or.inl ⟨v, (T.setVm vm₁).calling g' mk As.toArray, t, U', L, hT, X', hL, e1, e2, hq, st⟩
  · dsimp only [Pt.U, Pt.locs, Pt.cells, Pt.slots] at X' e1 e2 h1 h2 h3 st hcl
    subst h1; subst h2; subst h3
    exact Or.inr ⟨q, (T.setVm vm₁).calling g' mk As.toArray, t, U', L, E, ce, hT, X', hL, e1, e2, hq, hce, hcv, vx_cls hW₁ hcl, st⟩
end
end VXH
theorem vx_ofWH {l : Launch} {y : MethodName} {ws ws' : List Cond} {rm : Room} {Pc : Array Value → State → Prop} {Qc : Array Value → State → Outcome → State → Prop} {XC : String → State → State → Prop} {mc ms : Nat} {free : Addr → Prop} {cc : ByteArray} {maxL : Nat} {ret : Option FieldType} {hh : List (Nat × Nat × Nat × Nat)}
    (hy : plainName y.cls = true) (hw : ws = Cond.codeWith y cc maxL ret hh :: ws')
    (body : ∀ p e s m args below meth c s₁, BodyLoose p l y (headSpec ws rm) cc maxL ret e s m args below meth c s₁ → c.maxLocals = maxL → Pc args s →
      W p l e (headSpec ws rm).room s m args below meth c s.heap [] 0 0 (vx_MQ below Qc XC args s mc ms free) (entryFrame m args maxL)) : vx_Met l y ws rm Pc Qc XC mc ms free := by
  refine MetFree.of_bodyS (code := cc) (maxLocals := maxL) (ret := ret) hy ?_ ?_
  · intro args s m h hn
    obtain ⟨m9, meth, c, hn9, h1, h2, h3, h4, -, h5, h6, -⟩ := Cond.codeWith_spec (atoms_spec (ws := ws) h _ (by rw [hw]; exact List.mem_cons_self))
    cases hn.symm.trans hn9
    exact ⟨meth, c, h1, h2, h3, h4, h5, h6⟩
  · intro p e s m args below meth c s₁ B hml hP _
    have hh0 : s₁.heap = s.heap := by rw [B.state]; rfl
    obtain ⟨t, a1, o, b1, b2, b3⟩ := body p e s m args below meth c s₁ B hml hP s₁ hh0 (Stand.of_body B)
    exact ⟨t, o, a1, b1, b2, b3⟩
/-! ===== END ===== -/
end
section
/-! ===== BEGIN printed: names, fields, word lists, decode rows ===== -/
def RX0 : String := "TwinFinder$Document"
def TX0 : u_T := fun k => match k with
  | 0 => ("TwinFinder$Document", "slot", "I", true)
  | 1 => ("TwinFinder$Document", "set", "[J", true)
  | 2 => ("TwinFinder$Document", "numbers", "[I", true)
  | 3 => ("TwinFinder$Document", "least", "[I", true)
  | 4 => ("TwinFinder$Document", "shared", "[I", true)
  | 5 => ("TwinFinder$Document", "number", "I", false)
  | _ => ("TwinFinder$Document", "size", "I", false)
def tyX0 : Nat → FieldType := fun k => match k with
  | 0 => .int
  | 1 => .array .long
  | 2 => .array .int
  | 3 => .array .int
  | 4 => .array .int
  | 5 => .int
  | _ => .int
abbrev wsX00 : List Cond := u_ws RX0 TX0 7
theorem nmX0 : ∀ a, a < 7 → ∀ b, b < 7 → a ≠ b → (TX0 a).2.1 ≠ (TX0 b).2.1 := by decide +kernel
theorem tyX0_ok : ∀ k, k < 7 → parseFieldDescriptor (TX0 k).2.2.1 = some (tyX0 k) := by decide +kernel
abbrev cX0_init : ByteArray := prog_2_method_1_code
def yX0_init : MethodName := ⟨RX0, "<init>", "(I)V"⟩
abbrev cX0_fillWith : ByteArray := prog_2_method_2_code
def yX0_fillWith : MethodName := ⟨RX0, "fillWith", "([III)V"⟩
abbrev cX0_countShared : ByteArray := prog_2_method_3_code
def yX0_countShared : MethodName := ⟨RX0, "countShared", "(LTwinFinder$Document;)I"⟩
def RX1 : String := "TwinFinder$Kin"
def TX1 : u_T := fun k => match k with
  | 0 => ("TwinFinder$Kin", "candidates", "LTwinFinder$PairRow;", true)
  | 1 => ("TwinFinder$Kin", "twins", "LTwinFinder$PairRow;", true)
  | 2 => ("TwinFinder$Kin", "number", "[I", true)
  | 3 => ("TwinFinder$Kin", "twinCount", "[I", true)
  | 4 => ("TwinFinder$Kin", "leader", "[I", true)
  | 5 => ("TwinFinder$Kin", "members", "[I", true)
  | 6 => ("TwinFinder$Kin", "places", "I", false)
  | _ => ("TwinFinder$Kin", "known", "Z", false)
def tyX1 : Nat → FieldType := fun k => match k with
  | 0 => .object "TwinFinder$PairRow"
  | 1 => .object "TwinFinder$PairRow"
  | 2 => .array .int
  | 3 => .array .int
  | 4 => .array .int
  | 5 => .array .int
  | 6 => .int
  | _ => .boolean
abbrev wsX10 : List Cond := u_ws RX1 TX1 8
theorem nmX1 : ∀ a, a < 8 → ∀ b, b < 8 → a ≠ b → (TX1 a).2.1 ≠ (TX1 b).2.1 := by decide +kernel
theorem tyX1_ok : ∀ k, k < 8 → parseFieldDescriptor (TX1 k).2.2.1 = some (tyX1 k) := by decide +kernel
abbrev cX1_init : ByteArray := prog_3_method_1_code
def yX1_init : MethodName := ⟨RX1, "<init>", "()V"⟩
abbrev cX1_learn : ByteArray := prog_3_method_2_code
def yX1_learn : MethodName := ⟨RX1, "learn", "(Ljava/util/ArrayList;LTwinFinder$Measure;)V"⟩
abbrev cX1_begin : ByteArray := prog_3_method_3_code
def yX1_begin : MethodName := ⟨RX1, "begin", "(Ljava/util/ArrayList;)V"⟩
abbrev cX1_compare : ByteArray := prog_3_method_4_code
def yX1_compare : MethodName := ⟨RX1, "compare", "(ILTwinFinder$Document;ILTwinFinder$Document;LTwinFinder$Measure;)V"⟩
abbrev cX1_join : ByteArray := prog_3_method_5_code
def yX1_join : MethodName := ⟨RX1, "join", "(II)V"⟩
abbrev cX1_familyOf : ByteArray := prog_3_method_6_code
def yX1_familyOf : MethodName := ⟨RX1, "familyOf", "(I)I"⟩
abbrev cX1_membersWith : ByteArray := prog_3_method_7_code
def yX1_membersWith : MethodName := ⟨RX1, "membersWith", "(I)I"⟩
abbrev cX1_twinsOf : ByteArray := prog_3_method_8_code
def yX1_twinsOf : MethodName := ⟨RX1, "twinsOf", "(I)I"⟩
abbrev cX1_families : ByteArray := prog_3_method_9_code
def yX1_families : MethodName := ⟨RX1, "families", "(I)I"⟩
abbrev cX1_familyAt : ByteArray := prog_3_method_10_code
def yX1_familyAt : MethodName := ⟨RX1, "familyAt", "(II)I"⟩
def RX2 : String := "TwinFinder$Measure"
def TX2 : u_T := fun k => match k with
  | 0 => ("TwinFinder$Measure", "bandCount", "I", false)
  | 1 => ("TwinFinder$Measure", "rowCount", "I", false)
  | 2 => ("TwinFinder$Measure", "p", "I", false)
  | _ => ("TwinFinder$Measure", "q", "I", false)
def tyX2 : Nat → FieldType := fun k => match k with
  | 0 => .int
  | 1 => .int
  | 2 => .int
  | _ => .int
abbrev wsX20 : List Cond := u_ws RX2 TX2 4
theorem nmX2 : ∀ a, a < 4 → ∀ b, b < 4 → a ≠ b → (TX2 a).2.1 ≠ (TX2 b).2.1 := by decide +kernel
theorem tyX2_ok : ∀ k, k < 4 → parseFieldDescriptor (TX2 k).2.2.1 = some (tyX2 k) := by decide +kernel
abbrev cX2_init : ByteArray := prog_4_method_1_code
def yX2_init : MethodName := ⟨RX2, "<init>", "()V"⟩
abbrev cX2_takeBands : ByteArray := prog_4_method_2_code
def yX2_takeBands : MethodName := ⟨RX2, "takeBands", "(II)Z"⟩
abbrev cX2_takeThreshold : ByteArray := prog_4_method_3_code
def yX2_takeThreshold : MethodName := ⟨RX2, "takeThreshold", "(II)Z"⟩
abbrev cX2_common : ByteArray := prog_4_method_4_code
def yX2_common : MethodName := ⟨RX2, "common", "(LTwinFinder$Document;LTwinFinder$Document;)I"⟩
abbrev cX2_all : ByteArray := prog_4_method_5_code
def yX2_all : MethodName := ⟨RX2, "all", "(LTwinFinder$Document;LTwinFinder$Document;)I"⟩
abbrev cX2_sameImages : ByteArray := prog_4_method_6_code
def yX2_sameImages : MethodName := ⟨RX2, "sameImages", "(LTwinFinder$Document;LTwinFinder$Document;)I"⟩
abbrev cX2_firstBand : ByteArray := prog_4_method_7_code
def yX2_firstBand : MethodName := ⟨RX2, "firstBand", "(LTwinFinder$Document;LTwinFinder$Document;)I"⟩
abbrev cX2_agree : ByteArray := prog_4_method_8_code
def yX2_agree : MethodName := ⟨RX2, "agree", "(LTwinFinder$Document;LTwinFinder$Document;I)Z"⟩
abbrev cX2_areTwins : ByteArray := prog_4_method_9_code
def yX2_areTwins : MethodName := ⟨RX2, "areTwins", "(LTwinFinder$Document;LTwinFinder$Document;)Z"⟩
abbrev cX2_areNear : ByteArray := prog_4_method_10_code
def yX2_areNear : MethodName := ⟨RX2, "areNear", "(LTwinFinder$Document;LTwinFinder$Document;)Z"⟩
abbrev cX2_isNearer : ByteArray := prog_4_method_11_code
def yX2_isNearer : MethodName := ⟨RX2, "isNearer", "(LTwinFinder$Document;LTwinFinder$Document;LTwinFinder$Document;)Z"⟩
def RX3 : String := "TwinFinder$PairRow"
def TX3 : u_T := fun k => match k with
  | 0 => ("TwinFinder$PairRow", "first", "[I", true)
  | 1 => ("TwinFinder$PairRow", "second", "[I", true)
  | _ => ("TwinFinder$PairRow", "size", "I", false)
def tyX3 : Nat → FieldType := fun k => match k with
  | 0 => .array .int
  | 1 => .array .int
  | _ => .int
abbrev wsX30 : List Cond := u_ws RX3 TX3 3
theorem nmX3 : ∀ a, a < 3 → ∀ b, b < 3 → a ≠ b → (TX3 a).2.1 ≠ (TX3 b).2.1 := by decide +kernel
theorem tyX3_ok : ∀ k, k < 3 → parseFieldDescriptor (TX3 k).2.2.1 = some (tyX3 k) := by decide +kernel
abbrev cX3_init : ByteArray := prog_5_method_1_code
def yX3_init : MethodName := ⟨RX3, "<init>", "()V"⟩
abbrev cX3_put : ByteArray := prog_5_method_2_code
def yX3_put : MethodName := ⟨RX3, "put", "(II)V"⟩
abbrev cX3_side : ByteArray := prog_5_method_3_code
def yX3_side : MethodName := ⟨RX3, "side", "(II)I"⟩
def RX4 : String := "TwinFinder$Permutations"
def TX4 : u_T := fun k => match k with
  | 0 => ("TwinFinder$Permutations", "factor", "[I", true)
  | 1 => ("TwinFinder$Permutations", "summand", "[I", true)
  | 2 => ("TwinFinder$Permutations", "exchanges", "[I", true)
  | 3 => ("TwinFinder$Permutations", "movedKey", "[I", true)
  | 4 => ("TwinFinder$Permutations", "movedImage", "[I", true)
  | 5 => ("TwinFinder$Permutations", "moved", "I", false)
  | _ => ("TwinFinder$Permutations", "kept", "I", false)
def tyX4 : Nat → FieldType := fun k => match k with
  | 0 => .array .int
  | 1 => .array .int
  | 2 => .array .int
  | 3 => .array .int
  | 4 => .array .int
  | 5 => .int
  | _ => .int
abbrev wsX40 : List Cond := u_ws RX4 TX4 7
theorem nmX4 : ∀ a, a < 7 → ∀ b, b < 7 → a ≠ b → (TX4 a).2.1 ≠ (TX4 b).2.1 := by decide +kernel
theorem tyX4_ok : ∀ k, k < 7 → parseFieldDescriptor (TX4 k).2.2.1 = some (tyX4 k) := by decide +kernel
abbrev cX4_init : ByteArray := prog_6_method_1_code
def yX4_init : MethodName := ⟨RX4, "<init>", "()V"⟩
abbrev cX4_isOne : ByteArray := prog_6_method_2_code
def yX4_isOne : MethodName := ⟨RX4, "isOne", "(I)Z"⟩
abbrev cX4_isNumber : ByteArray := prog_6_method_3_code
def yX4_isNumber : MethodName := ⟨RX4, "isNumber", "(I)Z"⟩
abbrev cX4_become : ByteArray := prog_6_method_4_code
def yX4_become : MethodName := ⟨RX4, "become", "(III)Z"⟩
abbrev cX4_swap : ByteArray := prog_6_method_5_code
def yX4_swap : MethodName := ⟨RX4, "swap", "(III)Z"⟩
abbrev cX4_imageOf : ByteArray := prog_6_method_6_code
def yX4_imageOf : MethodName := ⟨RX4, "imageOf", "(II)I"⟩
abbrev cX4_leastOf : ByteArray := prog_6_method_7_code
def yX4_leastOf : MethodName := ⟨RX4, "leastOf", "(LTwinFinder$Document;I)I"⟩
abbrev cX4_keyOf : ByteArray := prog_6_method_8_code
def yX4_keyOf : MethodName := ⟨RX4, "keyOf", "(II)I"⟩
abbrev cX4_placeFor : ByteArray := prog_6_method_9_code
def yX4_placeFor : MethodName := ⟨RX4, "placeFor", "(I)I"⟩
abbrev cX4_move : ByteArray := prog_6_method_10_code
def yX4_move : MethodName := ⟨RX4, "move", "(II)V"⟩
abbrev cX4_dropMoved : ByteArray := prog_6_method_11_code
def yX4_dropMoved : MethodName := ⟨RX4, "dropMoved", "(I)V"⟩
def RX5 : String := "TwinFinder$Shelf"
def TX5 : u_T := fun k => match k with
  | 0 => ("TwinFinder$Shelf", "here", "Ljava/util/ArrayList;", true)
  | 1 => ("TwinFinder$Shelf", "spare", "Ljava/util/ArrayList;", true)
  | 2 => ("TwinFinder$Shelf", "ranked", "Ljava/util/ArrayList;", true)
  | _ => ("TwinFinder$Shelf", "came", "I", false)
def tyX5 : Nat → FieldType := fun k => match k with
  | 0 => .object "java/util/ArrayList"
  | 1 => .object "java/util/ArrayList"
  | 2 => .object "java/util/ArrayList"
  | _ => .int
abbrev wsX50 : List Cond := u_ws RX5 TX5 4
theorem nmX5 : ∀ a, a < 4 → ∀ b, b < 4 → a ≠ b → (TX5 a).2.1 ≠ (TX5 b).2.1 := by decide +kernel
theorem tyX5_ok : ∀ k, k < 4 → parseFieldDescriptor (TX5 k).2.2.1 = some (tyX5 k) := by decide +kernel
abbrev cX5_init : ByteArray := prog_7_method_1_code
def yX5_init : MethodName := ⟨RX5, "<init>", "()V"⟩
abbrev cX5_isFull : ByteArray := prog_7_method_2_code
def yX5_isFull : MethodName := ⟨RX5, "isFull", "()Z"⟩
abbrev cX5_placeOf : ByteArray := prog_7_method_3_code
def yX5_placeOf : MethodName := ⟨RX5, "placeOf", "(I)I"⟩
abbrev cX5_takeNext : ByteArray := prog_7_method_4_code
def yX5_takeNext : MethodName := ⟨RX5, "takeNext", "()LTwinFinder$Document;"⟩
abbrev cX5_shareWithAll : ByteArray := prog_7_method_5_code
def yX5_shareWithAll : MethodName := ⟨RX5, "shareWithAll", "(LTwinFinder$Document;)V"⟩
abbrev cX5_putAway : ByteArray := prog_7_method_6_code
def yX5_putAway : MethodName := ⟨RX5, "putAway", "(I)Z"⟩
abbrev cX5_putAllAway : ByteArray := prog_7_method_7_code
def yX5_putAllAway : MethodName := ⟨RX5, "putAllAway", "()I"⟩
abbrev cX5_othersByNearness : ByteArray := prog_7_method_8_code
def yX5_othersByNearness : MethodName := ⟨RX5, "othersByNearness", "(LTwinFinder$Document;LTwinFinder$Measure;)Ljava/util/ArrayList;"⟩
abbrev cX5_rankOf : ByteArray := prog_7_method_9_code
def yX5_rankOf : MethodName := ⟨RX5, "rankOf", "(LTwinFinder$Document;LTwinFinder$Document;LTwinFinder$Measure;)I"⟩
def RX6 : String := "TwinFinder$Store"
def TX6 : u_T := fun k => match k with
  | 0 => ("TwinFinder$Store", "letters", "[B", true)
  | 1 => ("TwinFinder$Store", "begin", "[I", true)
  | 2 => ("TwinFinder$Store", "seatOf", "[I", true)
  | 3 => ("TwinFinder$Store", "seats", "[I", true)
  | _ => ("TwinFinder$Store", "given", "I", false)
def tyX6 : Nat → FieldType := fun k => match k with
  | 0 => .array .byte
  | 1 => .array .int
  | 2 => .array .int
  | 3 => .array .int
  | _ => .int
abbrev wsX60 : List Cond := u_ws RX6 TX6 5
theorem nmX6 : ∀ a, a < 5 → ∀ b, b < 5 → a ≠ b → (TX6 a).2.1 ≠ (TX6 b).2.1 := by decide +kernel
theorem tyX6_ok : ∀ k, k < 5 → parseFieldDescriptor (TX6 k).2.2.1 = some (tyX6 k) := by decide +kernel
abbrev cX6_init : ByteArray := prog_8_method_1_code
def yX6_init : MethodName := ⟨RX6, "<init>", "()V"⟩
abbrev cX6_bytesUsed : ByteArray := prog_8_method_2_code
def yX6_bytesUsed : MethodName := ⟨RX6, "bytesUsed", "()I"⟩
abbrev cX6_byteOf : ByteArray := prog_8_method_3_code
def yX6_byteOf : MethodName := ⟨RX6, "byteOf", "(II)I"⟩
abbrev cX6_numberOf : ByteArray := prog_8_method_4_code
def yX6_numberOf : MethodName := ⟨RX6, "numberOf", "([BII)I"⟩
abbrev cX6_firstSeat : ByteArray := prog_8_method_5_code
def yX6_firstSeat : MethodName := ⟨RX6, "firstSeat", "([BII)I"⟩
abbrev cX6_isThere : ByteArray := prog_8_method_6_code
def yX6_isThere : MethodName := ⟨RX6, "isThere", "(I[BII)Z"⟩
abbrev cX6_enter : ByteArray := prog_8_method_7_code
def yX6_enter : MethodName := ⟨RX6, "enter", "([BIII)I"⟩
abbrev cX6_forgetFrom : ByteArray := prog_8_method_8_code
def yX6_forgetFrom : MethodName := ⟨RX6, "forgetFrom", "(I)V"⟩
def RX7 : String := "TwinFinder$Tape"
def TX7 : u_T := fun k => match k with
  | 0 => ("TwinFinder$Tape", "bytes", "[B", true)
  | 1 => ("TwinFinder$Tape", "plain", "[B", true)
  | 2 => ("TwinFinder$Tape", "start", "[I", true)
  | 3 => ("TwinFinder$Tape", "length", "I", false)
  | 4 => ("TwinFinder$Tape", "plainLength", "I", false)
  | 5 => ("TwinFinder$Tape", "pieces", "I", false)
  | _ => ("TwinFinder$Tape", "gap", "I", false)
def tyX7 : Nat → FieldType := fun k => match k with
  | 0 => .array .byte
  | 1 => .array .byte
  | 2 => .array .int
  | 3 => .int
  | 4 => .int
  | 5 => .int
  | _ => .int
abbrev wsX70 : List Cond := u_ws RX7 TX7 7
theorem nmX7 : ∀ a, a < 7 → ∀ b, b < 7 → a ≠ b → (TX7 a).2.1 ≠ (TX7 b).2.1 := by decide +kernel
theorem tyX7_ok : ∀ k, k < 7 → parseFieldDescriptor (TX7 k).2.2.1 = some (tyX7 k) := by decide +kernel
abbrev cX7_init : ByteArray := prog_9_method_1_code
def yX7_init : MethodName := ⟨RX7, "<init>", "()V"⟩
abbrev cX7_putFour : ByteArray := prog_9_method_2_code
def yX7_putFour : MethodName := ⟨RX7, "putFour", "(I)V"⟩
abbrev cX7_cutTo : ByteArray := prog_9_method_3_code
def yX7_cutTo : MethodName := ⟨RX7, "cutTo", "(I)Z"⟩
abbrev cX7_makePlain : ByteArray := prog_9_method_4_code
def yX7_makePlain : MethodName := ⟨RX7, "makePlain", "()I"⟩
abbrev cX7_putPlain : ByteArray := prog_9_method_5_code
def yX7_putPlain : MethodName := ⟨RX7, "putPlain", "(I)V"⟩
abbrev cX7_plainSign : ByteArray := prog_9_method_6_code
def yX7_plainSign : MethodName := ⟨RX7, "plainSign", "(I)I"⟩
abbrev cX7_markPieces : ByteArray := prog_9_method_7_code
def yX7_markPieces : MethodName := ⟨RX7, "markPieces", "(Z)V"⟩
def RX8 : String := "TwinFinder"
def TX8 : u_T := fun k => match k with
  | 0 => ("TwinFinder", "tape", "LTwinFinder$Tape;", true)
  | 1 => ("TwinFinder", "store", "LTwinFinder$Store;", true)
  | 2 => ("TwinFinder", "permutations", "LTwinFinder$Permutations;", true)
  | 3 => ("TwinFinder", "shelf", "LTwinFinder$Shelf;", true)
  | 4 => ("TwinFinder", "measure", "LTwinFinder$Measure;", true)
  | 5 => ("TwinFinder", "kin", "LTwinFinder$Kin;", true)
  | 6 => ("TwinFinder", "along", "[I", true)
  | 7 => ("TwinFinder", "sortAtHand", "I", false)
  | _ => ("TwinFinder", "rowAtHand", "I", false)
def tyX8 : Nat → FieldType := fun k => match k with
  | 0 => .object "TwinFinder$Tape"
  | 1 => .object "TwinFinder$Store"
  | 2 => .object "TwinFinder$Permutations"
  | 3 => .object "TwinFinder$Shelf"
  | 4 => .object "TwinFinder$Measure"
  | 5 => .object "TwinFinder$Kin"
  | 6 => .array .int
  | 7 => .int
  | _ => .int
abbrev wsX80 : List Cond := u_ws RX8 TX8 9
theorem nmX8 : ∀ a, a < 9 → ∀ b, b < 9 → a ≠ b → (TX8 a).2.1 ≠ (TX8 b).2.1 := by decide +kernel
theorem tyX8_ok : ∀ k, k < 9 → parseFieldDescriptor (TX8 k).2.2.1 = some (tyX8 k) := by decide +kernel
abbrev cX8_init : ByteArray := prog_1_method_1_code
def yX8_init : MethodName := ⟨RX8, "<init>", "()V"⟩
abbrev cX8_feed : ByteArray := prog_1_method_2_code
def yX8_feed : MethodName := ⟨RX8, "feed", "(IIIII)I"⟩
abbrev cX8_end : ByteArray := prog_1_method_3_code
def yX8_end : MethodName := ⟨RX8, "end", "(I)Z"⟩
abbrev cX8_add : ByteArray := prog_1_method_4_code
def yX8_add : MethodName := ⟨RX8, "add", "()I"⟩
abbrev cX8_remove : ByteArray := prog_1_method_5_code
def yX8_remove : MethodName := ⟨RX8, "remove", "(I)Z"⟩
abbrev cX8_mode : ByteArray := prog_1_method_6_code
def yX8_mode : MethodName := ⟨RX8, "mode", "(II)I"⟩
abbrev cX8_tell : ByteArray := prog_1_method_7_code
def yX8_tell : MethodName := ⟨RX8, "tell", "(III)Z"⟩
abbrev cX8_exchange : ByteArray := prog_1_method_8_code
def yX8_exchange : MethodName := ⟨RX8, "exchange", "(III)I"⟩
abbrev cX8_image : ByteArray := prog_1_method_9_code
def yX8_image : MethodName := ⟨RX8, "image", "(II)I"⟩
abbrev cX8_bands : ByteArray := prog_1_method_10_code
def yX8_bands : MethodName := ⟨RX8, "bands", "(II)Z"⟩
abbrev cX8_threshold : ByteArray := prog_1_method_11_code
def yX8_threshold : MethodName := ⟨RX8, "threshold", "(II)Z"⟩
abbrev cX8_document : ByteArray := prog_1_method_12_code
def yX8_document : MethodName := ⟨RX8, "document", "(II)I"⟩
abbrev cX8_shingle : ByteArray := prog_1_method_13_code
def yX8_shingle : MethodName := ⟨RX8, "shingle", "(II)I"⟩
abbrev cX8_letter : ByteArray := prog_1_method_14_code
def yX8_letter : MethodName := ⟨RX8, "letter", "(II)I"⟩
abbrev cX8_signature : ByteArray := prog_1_method_15_code
def yX8_signature : MethodName := ⟨RX8, "signature", "(II)I"⟩
abbrev cX8_both : ByteArray := prog_1_method_16_code
def yX8_both : MethodName := ⟨RX8, "both", "(III)I"⟩
abbrev cX8_pairs : ByteArray := prog_1_method_17_code
def yX8_pairs : MethodName := ⟨RX8, "pairs", "(I)I"⟩
abbrev cX8_pair : ByteArray := prog_1_method_18_code
def yX8_pair : MethodName := ⟨RX8, "pair", "(III)I"⟩
abbrev cX8_nearest : ByteArray := prog_1_method_19_code
def yX8_nearest : MethodName := ⟨RX8, "nearest", "(II)I"⟩
abbrev cX8_count : ByteArray := prog_1_method_20_code
def yX8_count : MethodName := ⟨RX8, "count", "(I)I"⟩
abbrev cX8_documentThere : ByteArray := prog_1_method_21_code
def yX8_documentThere : MethodName := ⟨RX8, "documentThere", "(I)LTwinFinder$Document;"⟩
abbrev cX8_numberAlongText : ByteArray := prog_1_method_22_code
def yX8_numberAlongText : MethodName := ⟨RX8, "numberAlongText", "()I"⟩
abbrev cX8_renewImages : ByteArray := prog_1_method_23_code
def yX8_renewImages : MethodName := ⟨RX8, "renewImages", "(I)V"⟩
def RX9 : String := "TwinFinderModel"
def TX9 : u_T := fun k => match k with
  | 0 => ("TwinFinderModel", "thrown", "I", false)
  | 1 => ("TwinFinderModel", "tape", "[B", true)
  | 2 => ("TwinFinderModel", "plain", "[B", true)
  | 3 => ("TwinFinderModel", "length", "I", false)
  | 4 => ("TwinFinderModel", "plainSize", "I", false)
  | 5 => ("TwinFinderModel", "letters", "[B", true)
  | 6 => ("TwinFinderModel", "from", "[I", true)
  | 7 => ("TwinFinderModel", "size", "[I", true)
  | 8 => ("TwinFinderModel", "numbers", "I", false)
  | 9 => ("TwinFinderModel", "bytes", "I", false)
  | 10 => ("TwinFinderModel", "sort", "I", false)
  | 11 => ("TwinFinderModel", "wide", "I", false)
  | 12 => ("TwinFinderModel", "fresh", "[I", true)
  | 13 => ("TwinFinderModel", "freshMany", "I", false)
  | 14 => ("TwinFinderModel", "number", "[I", true)
  | 15 => ("TwinFinderModel", "many", "[I", true)
  | 16 => ("TwinFinderModel", "set", "[I", true)
  | 17 => ("TwinFinderModel", "documents", "I", false)
  | 18 => ("TwinFinderModel", "came", "I", false)
  | 19 => ("TwinFinderModel", "stale", "Z", false)
  | 20 => ("TwinFinderModel", "times", "[I", true)
  | 21 => ("TwinFinderModel", "more", "[I", true)
  | 22 => ("TwinFinderModel", "whose", "[I", true)
  | 23 => ("TwinFinderModel", "one", "[I", true)
  | 24 => ("TwinFinderModel", "other", "[I", true)
  | 25 => ("TwinFinderModel", "exchanges", "I", false)
  | 26 => ("TwinFinderModel", "least", "[I", true)
  | 27 => ("TwinFinderModel", "bands", "I", false)
  | 28 => ("TwinFinderModel", "rows", "I", false)
  | 29 => ("TwinFinderModel", "p", "I", false)
  | 30 => ("TwinFinderModel", "q", "I", false)
  | _ => ("TwinFinderModel", "family", "[I", true)
def tyX9 : Nat → FieldType := fun k => match k with
  | 0 => .int
  | 1 => .array .byte
  | 2 => .array .byte
  | 3 => .int
  | 4 => .int
  | 5 => .array .byte
  | 6 => .array .int
  | 7 => .array .int
  | 8 => .int
  | 9 => .int
  | 10 => .int
  | 11 => .int
  | 12 => .array .int
  | 13 => .int
  | 14 => .array .int
  | 15 => .array .int
  | 16 => .array .int
  | 17 => .int
  | 18 => .int
  | 19 => .boolean
  | 20 => .array .int
  | 21 => .array .int
  | 22 => .array .int
  | 23 => .array .int
  | 24 => .array .int
  | 25 => .int
  | 26 => .array .int
  | 27 => .int
  | 28 => .int
  | 29 => .int
  | 30 => .int
  | _ => .array .int
abbrev wsX90 : List Cond := u_ws RX9 TX9 32
theorem nmX9 : ∀ a, a < 32 → ∀ b, b < 32 → a ≠ b → (TX9 a).2.1 ≠ (TX9 b).2.1 := by decide +kernel
theorem tyX9_ok : ∀ k, k < 32 → parseFieldDescriptor (TX9 k).2.2.1 = some (tyX9 k) := by decide +kernel
abbrev cX9_thrown : ByteArray := prog_11_method_1_code
def yX9_thrown : MethodName := ⟨RX9, "thrown", "()I"⟩
abbrev cX9_throwsIf : ByteArray := prog_11_method_2_code
def yX9_throwsIf : MethodName := ⟨RX9, "throwsIf", "(Z)Z"⟩
abbrev cX9_feed : ByteArray := prog_11_method_3_code
def yX9_feed : MethodName := ⟨RX9, "feed", "(IIIII)I"⟩
abbrev cX9_four : ByteArray := prog_11_method_4_code
def yX9_four : MethodName := ⟨RX9, "four", "(I)V"⟩
abbrev cX9_end : ByteArray := prog_11_method_5_code
def yX9_end : MethodName := ⟨RX9, "end", "(I)Z"⟩
abbrev cX9_makePlain : ByteArray := prog_11_method_6_code
def yX9_makePlain : MethodName := ⟨RX9, "makePlain", "()V"⟩
abbrev cX9_numberOf : ByteArray := prog_11_method_7_code
def yX9_numberOf : MethodName := ⟨RX9, "numberOf", "(II)I"⟩
abbrev cX9_comes : ByteArray := prog_11_method_8_code
def yX9_comes : MethodName := ⟨RX9, "comes", "(II)Z"⟩
abbrev cX9_all : ByteArray := prog_11_method_9_code
def yX9_all : MethodName := ⟨RX9, "all", "()Z"⟩
abbrev cX9_add : ByteArray := prog_11_method_10_code
def yX9_add : MethodName := ⟨RX9, "add", "()I"⟩
abbrev cX9_slot : ByteArray := prog_11_method_11_code
def yX9_slot : MethodName := ⟨RX9, "slot", "(I)I"⟩
abbrev cX9_remove : ByteArray := prog_11_method_12_code
def yX9_remove : MethodName := ⟨RX9, "remove", "(I)Z"⟩
abbrev cX9_mode : ByteArray := prog_11_method_13_code
def yX9_mode : MethodName := ⟨RX9, "mode", "(II)I"⟩
abbrev cX9_init : ByteArray := prog_11_method_14_code
def yX9_init : MethodName := ⟨RX9, "<init>", "()V"⟩
abbrev cX9_isNone : ByteArray := prog_11_method_15_code
def yX9_isNone : MethodName := ⟨RX9, "isNone", "(III)Z"⟩
abbrev cX9_tell : ByteArray := prog_11_method_16_code
def yX9_tell : MethodName := ⟨RX9, "tell", "(III)Z"⟩
abbrev cX9_exchange : ByteArray := prog_11_method_17_code
def yX9_exchange : MethodName := ⟨RX9, "exchange", "(III)I"⟩
abbrev cX9_imageOf : ByteArray := prog_11_method_18_code
def yX9_imageOf : MethodName := ⟨RX9, "imageOf", "(II)I"⟩
abbrev cX9_image : ByteArray := prog_11_method_19_code
def yX9_image : MethodName := ⟨RX9, "image", "(II)I"⟩
abbrev cX9_sign : ByteArray := prog_11_method_20_code
def yX9_sign : MethodName := ⟨RX9, "sign", "()V"⟩
abbrev cX9_bands : ByteArray := prog_11_method_21_code
def yX9_bands : MethodName := ⟨RX9, "bands", "(II)Z"⟩
abbrev cX9_threshold : ByteArray := prog_11_method_22_code
def yX9_threshold : MethodName := ⟨RX9, "threshold", "(II)Z"⟩
abbrev cX9_common : ByteArray := prog_11_method_23_code
def yX9_common : MethodName := ⟨RX9, "common", "(II)I"⟩
abbrev cX9_band : ByteArray := prog_11_method_24_code
def yX9_band : MethodName := ⟨RX9, "band", "(II)I"⟩
abbrev cX9_areTwins : ByteArray := prog_11_method_25_code
def yX9_areTwins : MethodName := ⟨RX9, "areTwins", "(II)Z"⟩
abbrev cX9_families : ByteArray := prog_11_method_26_code
def yX9_families : MethodName := ⟨RX9, "families", "()V"⟩
abbrev cX9_inFamily : ByteArray := prog_11_method_27_code
def yX9_inFamily : MethodName := ⟨RX9, "inFamily", "(I)I"⟩
abbrev cX9_document : ByteArray := prog_11_method_28_code
def yX9_document : MethodName := ⟨RX9, "document", "(II)I"⟩
abbrev cX9_shingle : ByteArray := prog_11_method_29_code
def yX9_shingle : MethodName := ⟨RX9, "shingle", "(II)I"⟩
abbrev cX9_letter : ByteArray := prog_11_method_30_code
def yX9_letter : MethodName := ⟨RX9, "letter", "(II)I"⟩
abbrev cX9_signature : ByteArray := prog_11_method_31_code
def yX9_signature : MethodName := ⟨RX9, "signature", "(II)I"⟩
abbrev cX9_both : ByteArray := prog_11_method_32_code
def yX9_both : MethodName := ⟨RX9, "both", "(III)I"⟩
abbrev cX9_isPair : ByteArray := prog_11_method_33_code
def yX9_isPair : MethodName := ⟨RX9, "isPair", "(III)Z"⟩
abbrev cX9_isTold : ByteArray := prog_11_method_34_code
def yX9_isTold : MethodName := ⟨RX9, "isTold", "(II)Z"⟩
abbrev cX9_pairs : ByteArray := prog_11_method_35_code
def yX9_pairs : MethodName := ⟨RX9, "pairs", "(I)I"⟩
abbrev cX9_pair : ByteArray := prog_11_method_36_code
def yX9_pair : MethodName := ⟨RX9, "pair", "(III)I"⟩
abbrev cX9_isNearer : ByteArray := prog_11_method_37_code
def yX9_isNearer : MethodName := ⟨RX9, "isNearer", "(III)Z"⟩
abbrev cX9_nearest : ByteArray := prog_11_method_38_code
def yX9_nearest : MethodName := ⟨RX9, "nearest", "(II)I"⟩
abbrev cX9_count : ByteArray := prog_11_method_39_code
def yX9_count : MethodName := ⟨RX9, "count", "(I)I"⟩
def RJx145de : String := "java/io/Serializable"
def TJx145de : u_T := fun k => match k with
  | _ => ("", "", "", false)
def tyJx145de : Nat → FieldType := fun k => match k with
  | _ => .int
abbrev wsJx145de0 : List Cond := u_ws RJx145de TJx145de 0
theorem nmJx145de : ∀ a, a < 0 → ∀ b, b < 0 → a ≠ b → (TJx145de a).2.1 ≠ (TJx145de b).2.1 := by decide +kernel
theorem tyJx145de_ok : ∀ k, k < 0 → parseFieldDescriptor (TJx145de k).2.2.1 = some (tyJx145de k) := by decide +kernel
def RJx8e188 : String := "java/lang/Cloneable"
def TJx8e188 : u_T := fun k => match k with
  | _ => ("", "", "", false)
def tyJx8e188 : Nat → FieldType := fun k => match k with
  | _ => .int
abbrev wsJx8e1880 : List Cond := u_ws RJx8e188 TJx8e188 0
theorem nmJx8e188 : ∀ a, a < 0 → ∀ b, b < 0 → a ≠ b → (TJx8e188 a).2.1 ≠ (TJx8e188 b).2.1 := by decide +kernel
theorem tyJx8e188_ok : ∀ k, k < 0 → parseFieldDescriptor (TJx8e188 k).2.2.1 = some (tyJx8e188 k) := by decide +kernel
def RJxab1ab : String := "java/lang/Iterable"
def TJxab1ab : u_T := fun k => match k with
  | _ => ("", "", "", false)
def tyJxab1ab : Nat → FieldType := fun k => match k with
  | _ => .int
abbrev wsJxab1ab0 : List Cond := u_ws RJxab1ab TJxab1ab 0
theorem nmJxab1ab : ∀ a, a < 0 → ∀ b, b < 0 → a ≠ b → (TJxab1ab a).2.1 ≠ (TJxab1ab b).2.1 := by decide +kernel
theorem tyJxab1ab_ok : ∀ k, k < 0 → parseFieldDescriptor (TJxab1ab k).2.2.1 = some (tyJxab1ab k) := by decide +kernel
def RJ13 : String := "java/lang/Long"
def TJ13 : u_T := fun k => match k with
  | _ => ("", "", "", false)
def tyJ13 : Nat → FieldType := fun k => match k with
  | _ => .int
abbrev wsJ130 : List Cond := u_ws RJ13 TJ13 0
theorem nmJ13 : ∀ a, a < 0 → ∀ b, b < 0 → a ≠ b → (TJ13 a).2.1 ≠ (TJ13 b).2.1 := by decide +kernel
theorem tyJ13_ok : ∀ k, k < 0 → parseFieldDescriptor (TJ13 k).2.2.1 = some (tyJ13 k) := by decide +kernel
abbrev cJ13_bitCount_95d88 : ByteArray := prog_17_method_50_code
def yJ13_bitCount_95d88 : MethodName := ⟨RJ13, "bitCount", "(J)I"⟩
def RJ9 : String := "java/lang/Math"
def TJ9 : u_T := fun k => match k with
  | _ => ("", "", "", false)
def tyJ9 : Nat → FieldType := fun k => match k with
  | _ => .int
abbrev wsJ90 : List Cond := u_ws RJ9 TJ9 0
theorem nmJ9 : ∀ a, a < 0 → ∀ b, b < 0 → a ≠ b → (TJ9 a).2.1 ≠ (TJ9 b).2.1 := by decide +kernel
theorem tyJ9_ok : ∀ k, k < 0 → parseFieldDescriptor (TJ9 k).2.2.1 = some (tyJ9 k) := by decide +kernel
abbrev cJ9_max_7cf53 : ByteArray := prog_18_method_65_code
def yJ9_max_7cf53 : MethodName := ⟨RJ9, "max", "(II)I"⟩
abbrev cJ9_min_7cf53 : ByteArray := prog_18_method_69_code
def yJ9_min_7cf53 : MethodName := ⟨RJ9, "min", "(II)I"⟩
def RJ0 : String := "java/lang/String"
def TJ0 : u_T := fun k => match k with
  | _ => ("", "", "", false)
def tyJ0 : Nat → FieldType := fun k => match k with
  | _ => .int
abbrev wsJ00 : List Cond := u_ws RJ0 TJ0 0
theorem nmJ0 : ∀ a, a < 0 → ∀ b, b < 0 → a ≠ b → (TJ0 a).2.1 ≠ (TJ0 b).2.1 := by decide +kernel
theorem tyJ0_ok : ∀ k, k < 0 → parseFieldDescriptor (TJ0 k).2.2.1 = some (tyJ0 k) := by decide +kernel
def RJ10 : String := "java/lang/System"
def TJ10 : u_T := fun k => match k with
  | _ => ("", "", "", false)
def tyJ10 : Nat → FieldType := fun k => match k with
  | _ => .int
abbrev wsJ100 : List Cond := u_ws RJ10 TJ10 0
theorem nmJ10 : ∀ a, a < 0 → ∀ b, b < 0 → a ≠ b → (TJ10 a).2.1 ≠ (TJ10 b).2.1 := by decide +kernel
theorem tyJ10_ok : ∀ k, k < 0 → parseFieldDescriptor (TJ10 k).2.2.1 = some (tyJ10 k) := by decide +kernel
def RJxa1e45 : String := "java/util/AbstractCollection"
def TJxa1e45 : u_T := fun k => match k with
  | _ => ("", "", "", false)
def tyJxa1e45 : Nat → FieldType := fun k => match k with
  | _ => .int
abbrev wsJxa1e450 : List Cond := u_ws RJxa1e45 TJxa1e45 0
theorem nmJxa1e45 : ∀ a, a < 0 → ∀ b, b < 0 → a ≠ b → (TJxa1e45 a).2.1 ≠ (TJxa1e45 b).2.1 := by decide +kernel
theorem tyJxa1e45_ok : ∀ k, k < 0 → parseFieldDescriptor (TJxa1e45 k).2.2.1 = some (tyJxa1e45 k) := by decide +kernel
abbrev cJxa1e45_init_da8c8 : ByteArray := prog_23_method_1_code
def yJxa1e45_init_da8c8 : MethodName := ⟨RJxa1e45, "<init>", "()V"⟩
def RJxc12de : String := "java/util/AbstractList"
def TJxc12de : u_T := fun k => match k with
  | _ => ("", "", "", false)
def tyJxc12de : Nat → FieldType := fun k => match k with
  | _ => .int
abbrev wsJxc12de0 : List Cond := u_ws RJxc12de TJxc12de 0
theorem nmJxc12de : ∀ a, a < 0 → ∀ b, b < 0 → a ≠ b → (TJxc12de a).2.1 ≠ (TJxc12de b).2.1 := by decide +kernel
theorem tyJxc12de_ok : ∀ k, k < 0 → parseFieldDescriptor (TJxc12de k).2.2.1 = some (tyJxc12de k) := by decide +kernel
abbrev cJxc12de_init_da8c8 : ByteArray := prog_24_method_1_code
def yJxc12de_init_da8c8 : MethodName := ⟨RJxc12de, "<init>", "()V"⟩
def RJx4a65c : String := "java/util/ArrayList"
def TJx4a65c : u_T := fun k => match k with
  | 0 => ("java/util/AbstractList", "modCount", "I", false)
  | 1 => ("java/util/ArrayList", "elementData", "[Ljava/lang/Object;", false)
  | _ => ("java/util/ArrayList", "size", "I", false)
def tyJx4a65c : Nat → FieldType := fun k => match k with
  | 0 => .int
  | 1 => .array (.object "java/lang/Object")
  | _ => .int
abbrev wsJx4a65c0 : List Cond := u_ws RJx4a65c TJx4a65c 3
theorem nmJx4a65c : ∀ a, a < 3 → ∀ b, b < 3 → a ≠ b → (TJx4a65c a).2.1 ≠ (TJx4a65c b).2.1 := by decide +kernel
theorem tyJx4a65c_ok : ∀ k, k < 3 → parseFieldDescriptor (TJx4a65c k).2.2.1 = some (tyJx4a65c k) := by decide +kernel
abbrev cJx4a65c_init_da8c8 : ByteArray := prog_25_method_2_code
def yJx4a65c_init_da8c8 : MethodName := ⟨RJx4a65c, "<init>", "()V"⟩
abbrev cJx4a65c_grow_92f84 : ByteArray := prog_25_method_6_code
def yJx4a65c_grow_92f84 : MethodName := ⟨RJx4a65c, "grow", "(I)[Ljava/lang/Object;"⟩
abbrev cJx4a65c_grow_d5877 : ByteArray := prog_25_method_7_code
def yJx4a65c_grow_d5877 : MethodName := ⟨RJx4a65c, "grow", "()[Ljava/lang/Object;"⟩
abbrev cJx4a65c_size_8abf5 : ByteArray := prog_25_method_8_code
def yJx4a65c_size_8abf5 : MethodName := ⟨RJx4a65c, "size", "()I"⟩
abbrev cJx4a65c_isEmpty_aae02 : ByteArray := prog_25_method_9_code
def yJx4a65c_isEmpty_aae02 : MethodName := ⟨RJx4a65c, "isEmpty", "()Z"⟩
abbrev cJx4a65c_elementData_915e3 : ByteArray := prog_25_method_18_code
def yJx4a65c_elementData_915e3 : MethodName := ⟨RJx4a65c, "elementData", "(I)Ljava/lang/Object;"⟩
abbrev cJx4a65c_get_915e3 : ByteArray := prog_25_method_20_code
def yJx4a65c_get_915e3 : MethodName := ⟨RJx4a65c, "get", "(I)Ljava/lang/Object;"⟩
abbrev cJx4a65c_add_72be8 : ByteArray := prog_25_method_24_code
def yJx4a65c_add_72be8 : MethodName := ⟨RJx4a65c, "add", "(Ljava/lang/Object;[Ljava/lang/Object;I)V"⟩
abbrev cJx4a65c_add_9ea2d : ByteArray := prog_25_method_25_code
def yJx4a65c_add_9ea2d : MethodName := ⟨RJx4a65c, "add", "(Ljava/lang/Object;)Z"⟩
abbrev cJx4a65c_add_7a177 : ByteArray := prog_25_method_26_code
def yJx4a65c_add_7a177 : MethodName := ⟨RJx4a65c, "add", "(ILjava/lang/Object;)V"⟩
abbrev cJx4a65c_remove_915e3 : ByteArray := prog_25_method_29_code
def yJx4a65c_remove_915e3 : MethodName := ⟨RJx4a65c, "remove", "(I)Ljava/lang/Object;"⟩
abbrev cJx4a65c_fastRemove_b59b0 : ByteArray := prog_25_method_39_code
def yJx4a65c_fastRemove_b59b0 : MethodName := ⟨RJx4a65c, "fastRemove", "([Ljava/lang/Object;I)V"⟩
abbrev cJx4a65c_clear_da8c8 : ByteArray := prog_25_method_40_code
def yJx4a65c_clear_da8c8 : MethodName := ⟨RJx4a65c, "clear", "()V"⟩
abbrev cJx4a65c_rangeCheckForAdd_d00df : ByteArray := prog_25_method_45_code
def yJx4a65c_rangeCheckForAdd_d00df : MethodName := ⟨RJx4a65c, "rangeCheckForAdd", "(I)V"⟩
def RJ7 : String := "java/util/Arrays"
def TJ7 : u_T := fun k => match k with
  | _ => ("", "", "", false)
def tyJ7 : Nat → FieldType := fun k => match k with
  | _ => .int
abbrev wsJ70 : List Cond := u_ws RJ7 TJ7 0
theorem nmJ7 : ∀ a, a < 0 → ∀ b, b < 0 → a ≠ b → (TJ7 a).2.1 ≠ (TJ7 b).2.1 := by decide +kernel
theorem tyJ7_ok : ∀ k, k < 0 → parseFieldDescriptor (TJ7 k).2.2.1 = some (tyJ7 k) := by decide +kernel
abbrev cJ7_copyOf_1904c : ByteArray := prog_26_method_119_code
def yJ7_copyOf_1904c : MethodName := ⟨RJ7, "copyOf", "([Ljava/lang/Object;I)[Ljava/lang/Object;"⟩
abbrev cJ7_copyOf_6403c : ByteArray := prog_26_method_120_code
def yJ7_copyOf_6403c : MethodName := ⟨RJ7, "copyOf", "([Ljava/lang/Object;ILjava/lang/Class;)[Ljava/lang/Object;"⟩
def RJx5ef63 : String := "java/util/Collection"
def TJx5ef63 : u_T := fun k => match k with
  | _ => ("", "", "", false)
def tyJx5ef63 : Nat → FieldType := fun k => match k with
  | _ => .int
abbrev wsJx5ef630 : List Cond := u_ws RJx5ef63 TJx5ef63 0
theorem nmJx5ef63 : ∀ a, a < 0 → ∀ b, b < 0 → a ≠ b → (TJx5ef63 a).2.1 ≠ (TJx5ef63 b).2.1 := by decide +kernel
theorem tyJx5ef63_ok : ∀ k, k < 0 → parseFieldDescriptor (TJx5ef63 k).2.2.1 = some (tyJx5ef63 k) := by decide +kernel
def RJxbd725 : String := "java/util/List"
def TJxbd725 : u_T := fun k => match k with
  | _ => ("", "", "", false)
def tyJxbd725 : Nat → FieldType := fun k => match k with
  | _ => .int
abbrev wsJxbd7250 : List Cond := u_ws RJxbd725 TJxbd725 0
theorem nmJxbd725 : ∀ a, a < 0 → ∀ b, b < 0 → a ≠ b → (TJxbd725 a).2.1 ≠ (TJxbd725 b).2.1 := by decide +kernel
theorem tyJxbd725_ok : ∀ k, k < 0 → parseFieldDescriptor (TJxbd725 k).2.2.1 = some (tyJxbd725 k) := by decide +kernel
def RJ15 : String := "java/util/Objects"
def TJ15 : u_T := fun k => match k with
  | _ => ("", "", "", false)
def tyJ15 : Nat → FieldType := fun k => match k with
  | _ => .int
abbrev wsJ150 : List Cond := u_ws RJ15 TJ15 0
theorem nmJ15 : ∀ a, a < 0 → ∀ b, b < 0 → a ≠ b → (TJ15 a).2.1 ≠ (TJ15 b).2.1 := by decide +kernel
theorem tyJ15_ok : ∀ k, k < 0 → parseFieldDescriptor (TJ15 k).2.2.1 = some (tyJ15 k) := by decide +kernel
abbrev cJ15_checkIndex_7cf53 : ByteArray := prog_30_method_17_code
def yJ15_checkIndex_7cf53 : MethodName := ⟨RJ15, "checkIndex", "(II)I"⟩
def RJxf0a74 : String := "java/util/RandomAccess"
def TJxf0a74 : u_T := fun k => match k with
  | _ => ("", "", "", false)
def tyJxf0a74 : Nat → FieldType := fun k => match k with
  | _ => .int
abbrev wsJxf0a740 : List Cond := u_ws RJxf0a74 TJxf0a74 0
theorem nmJxf0a74 : ∀ a, a < 0 → ∀ b, b < 0 → a ≠ b → (TJxf0a74 a).2.1 ≠ (TJxf0a74 b).2.1 := by decide +kernel
theorem tyJxf0a74_ok : ∀ k, k < 0 → parseFieldDescriptor (TJxf0a74 k).2.2.1 = some (tyJxf0a74 k) := by decide +kernel
def RJxa66e6 : String := "java/util/SequencedCollection"
def TJxa66e6 : u_T := fun k => match k with
  | _ => ("", "", "", false)
def tyJxa66e6 : Nat → FieldType := fun k => match k with
  | _ => .int
abbrev wsJxa66e60 : List Cond := u_ws RJxa66e6 TJxa66e6 0
theorem nmJxa66e6 : ∀ a, a < 0 → ∀ b, b < 0 → a ≠ b → (TJxa66e6 a).2.1 ≠ (TJxa66e6 b).2.1 := by decide +kernel
theorem tyJxa66e6_ok : ∀ k, k < 0 → parseFieldDescriptor (TJxa66e6 k).2.2.1 = some (tyJxa66e6 k) := by decide +kernel
def RJ8 : String := "jdk/internal/util/ArraysSupport"
def TJ8 : u_T := fun k => match k with
  | _ => ("", "", "", false)
def tyJ8 : Nat → FieldType := fun k => match k with
  | _ => .int
abbrev wsJ80 : List Cond := u_ws RJ8 TJ8 0
theorem nmJ8 : ∀ a, a < 0 → ∀ b, b < 0 → a ≠ b → (TJ8 a).2.1 ≠ (TJ8 b).2.1 := by decide +kernel
theorem tyJ8_ok : ∀ k, k < 0 → parseFieldDescriptor (TJ8 k).2.2.1 = some (tyJ8 k) := by decide +kernel
abbrev cJ8_newLength_cabcc : ByteArray := prog_33_method_27_code
def yJ8_newLength_cabcc : MethodName := ⟨RJ8, "newLength", "(III)I"⟩
abbrev cJ8_hugeLength_7cf53 : ByteArray := prog_33_method_28_code
def yJ8_hugeLength_7cf53 : MethodName := ⟨RJ8, "hugeLength", "(II)I"⟩
def RJ3 : String := "jdk/internal/util/Preconditions"
def TJ3 : u_T := fun k => match k with
  | _ => ("", "", "", false)
def tyJ3 : Nat → FieldType := fun k => match k with
  | _ => .int
abbrev wsJ30 : List Cond := u_ws RJ3 TJ3 0
theorem nmJ3 : ∀ a, a < 0 → ∀ b, b < 0 → a ≠ b → (TJ3 a).2.1 ≠ (TJ3 b).2.1 := by decide +kernel
theorem tyJ3_ok : ∀ k, k < 0 → parseFieldDescriptor (TJ3 k).2.2.1 = some (tyJ3 k) := by decide +kernel
abbrev cJ3_checkIndex_8e157 : ByteArray := prog_34_method_11_code
def yJ3_checkIndex_8e157 : MethodName := ⟨RJ3, "checkIndex", "(IILjava/util/function/BiFunction;)I"⟩
def RL : String := "TwinFinderLaw"
abbrev cL_mode : ByteArray := method_3_code
def yL_mode : MethodName := ⟨RL, "mode", "(LTwinFinder;II[J)I"⟩
abbrev cL_document : ByteArray := method_4_code
def yL_document : MethodName := ⟨RL, "document", "(LTwinFinder;II[J)I"⟩
abbrev cL_shingle : ByteArray := method_5_code
def yL_shingle : MethodName := ⟨RL, "shingle", "(LTwinFinder;II[J)I"⟩
abbrev cL_signature : ByteArray := method_6_code
def yL_signature : MethodName := ⟨RL, "signature", "(LTwinFinder;II[J)I"⟩
abbrev cL_both : ByteArray := method_7_code
def yL_both : MethodName := ⟨RL, "both", "(LTwinFinder;III[J)I"⟩
abbrev cL_nearest : ByteArray := method_8_code
def yL_nearest : MethodName := ⟨RL, "nearest", "(LTwinFinder;II[J)I"⟩
abbrev cL_law : ByteArray := code
def yL_law : MethodName := ⟨RL, "law", "([I)Z"⟩
def wsX0_init : List Cond := .code yX0_init cX0_init 2 none :: ([.methodLink RX0 3 objectInit, .instanceMethod objectInit, .code objectInit ⟨#[0xb1]⟩ 1 none, .arrayClass .long, .fieldLink RX0 9 "TwinFinder$Document" "set" "[J", .arrayClass .int, .fieldLink RX0 15 "TwinFinder$Document" "numbers" "[I", .fieldLink RX0 19 "TwinFinder$Document" "least" "[I", .fieldLink RX0 22 "TwinFinder$Document" "shared" "[I", .fieldLink RX0 25 "TwinFinder$Document" "slot" "I"] ++ wsX00)
def wsX0_fillWith : List Cond := .code yX0_fillWith cX0_fillWith 5 none :: ([.fieldLink RX0 9 "TwinFinder$Document" "set" "[J", .fieldLink RX0 29 "TwinFinder$Document" "size" "I", .fieldLink RX0 15 "TwinFinder$Document" "numbers" "[I"] ++ wsX00)
def wsJ13_bitCount_95d88 : List Cond := .code yJ13_bitCount_95d88 cJ13_bitCount_95d88 2 (some .int) :: ([.constantLong RJ13 314 (6148914691236517205), .constantLong RJ13 316 (3689348814741910323), .constantLong RJ13 318 (1085102592571150095)])
def wsX0_countShared : List Cond := .code yX0_countShared cX0_countShared 4 (some .int) :: ([.fieldLink RX0 9 "TwinFinder$Document" "set" "[J", .methodLink RX0 32 yJ13_bitCount_95d88, .static yJ13_bitCount_95d88, .initialized RJ13, .code yJ13_bitCount_95d88 cJ13_bitCount_95d88 2 (some .int), .constantLong RJ13 314 (6148914691236517205), .constantLong RJ13 316 (3689348814741910323), .constantLong RJ13 318 (1085102592571150095)] ++ wsX00)
def wsX3_init : List Cond := .code yX3_init cX3_init 1 none :: ([.methodLink RX3 3 objectInit, .instanceMethod objectInit, .code objectInit ⟨#[0xb1]⟩ 1 none, .arrayClass .int, .fieldLink RX3 9 "TwinFinder$PairRow" "first" "[I", .fieldLink RX3 15 "TwinFinder$PairRow" "second" "[I"] ++ wsX30)
def wsX1_init : List Cond := .code yX1_init cX1_init 1 none :: ([.methodLink RX1 3 objectInit, .instanceMethod objectInit, .code objectInit ⟨#[0xb1]⟩ 1 none, .classLink RX1 9 RX3, .instantiable RX3 3, .initialized RX3, .fieldLink RX1 12 "TwinFinder$Kin" "candidates" "LTwinFinder$PairRow;", .fieldLink RX1 18 "TwinFinder$Kin" "twins" "LTwinFinder$PairRow;", .arrayClass .int, .fieldLink RX1 21 "TwinFinder$Kin" "number" "[I", .fieldLink RX1 25 "TwinFinder$Kin" "twinCount" "[I", .fieldLink RX1 28 "TwinFinder$Kin" "leader" "[I", .fieldLink RX1 31 "TwinFinder$Kin" "members" "[I", .instanceMethod yX3_init, .code yX3_init cX3_init 1 none, .methodLink RX3 3 objectInit, .fieldLink RX3 9 "TwinFinder$PairRow" "first" "[I", .fieldLink RX3 15 "TwinFinder$PairRow" "second" "[I"] ++ wsX30 ++ wsX10)
def wsJx4a65c_size_8abf5 : List Cond := .code yJx4a65c_size_8abf5 cJx4a65c_size_8abf5 1 (some .int) :: ([.fieldLink RJx4a65c 48 "java/util/ArrayList" "size" "I"] ++ wsJx4a65c0)
def wsJ3_checkIndex_8e157 : List Cond := .code yJ3_checkIndex_8e157 cJ3_checkIndex_8e157 3 (some .int) :: ([])
def wsJ15_checkIndex_7cf53 : List Cond := .code yJ15_checkIndex_7cf53 cJ15_checkIndex_7cf53 2 (some .int) :: ([.methodLink RJ15 105 yJ3_checkIndex_8e157, .static yJ3_checkIndex_8e157, .initialized RJ3, .code yJ3_checkIndex_8e157 cJ3_checkIndex_8e157 3 (some .int)])
def wsJx4a65c_elementData_915e3 : List Cond := .code yJx4a65c_elementData_915e3 cJx4a65c_elementData_915e3 2 (some (.object "java/lang/Object")) :: ([.fieldLink RJx4a65c 9 "java/util/ArrayList" "elementData" "[Ljava/lang/Object;"] ++ wsJx4a65c0)
def wsJx4a65c_get_915e3 : List Cond := .code yJx4a65c_get_915e3 cJx4a65c_get_915e3 2 (some (.object "java/lang/Object")) :: ([.fieldLink RJx4a65c 48 "java/util/ArrayList" "size" "I", .methodLink RJx4a65c 118 yJ15_checkIndex_7cf53, .static yJ15_checkIndex_7cf53, .initialized RJ15, .code yJ15_checkIndex_7cf53 cJ15_checkIndex_7cf53 2 (some .int), .methodLink RJ15 105 yJ3_checkIndex_8e157, .static yJ3_checkIndex_8e157, .initialized RJ3, .code yJ3_checkIndex_8e157 cJ3_checkIndex_8e157 3 (some .int), .methodLink RJx4a65c 123 yJx4a65c_elementData_915e3, .instanceMethod yJx4a65c_elementData_915e3, .selects RJx4a65c yJx4a65c_elementData_915e3 yJx4a65c_elementData_915e3, .initialized RJx4a65c, .code yJx4a65c_elementData_915e3 cJx4a65c_elementData_915e3 2 (some (.object "java/lang/Object")), .fieldLink RJx4a65c 9 "java/util/ArrayList" "elementData" "[Ljava/lang/Object;"] ++ wsJx4a65c0)
def wsX1_begin_r1 : List Cond := [Cond.methodLink RX1 62 Lib.Math.min.name, Cond.static Lib.Math.min.name, Cond.initialized "java/lang/Math", Cond.code Lib.Math.min.name Lib.Math.min.code 2 (some .int), Cond.fieldLink RX1 42 "TwinFinder$Kin" "places" "I", Cond.fieldLink RX1 12 "TwinFinder$Kin" "candidates" "LTwinFinder$PairRow;", Cond.fieldLink RX1 68 "TwinFinder$PairRow" "size" "I", Cond.fieldLink RX1 18 "TwinFinder$Kin" "twins" "LTwinFinder$PairRow;", Cond.fieldLink RX1 21 "TwinFinder$Kin" "number" "[I", Cond.classLink RX1 52 "TwinFinder$Document", Cond.fieldLink RX1 70 "TwinFinder$Document" "number" "I", Cond.fieldLink RX1 25 "TwinFinder$Kin" "twinCount" "[I", Cond.fieldLink RX1 28 "TwinFinder$Kin" "leader" "[I", Cond.fieldLink RX1 31 "TwinFinder$Kin" "members" "[I", Cond.methodLink RX1 58 yJx4a65c_size_8abf5, Cond.instanceMethod yJx4a65c_size_8abf5, Cond.selects RJx4a65c yJx4a65c_size_8abf5 yJx4a65c_size_8abf5, Cond.initialized RJx4a65c, Cond.code yJx4a65c_size_8abf5 cJx4a65c_size_8abf5 1 (some .int), Cond.fieldLink RJx4a65c 48 "java/util/ArrayList" "size" "I", Cond.methodLink RX1 46 yJx4a65c_get_915e3, Cond.instanceMethod yJx4a65c_get_915e3, Cond.selects RJx4a65c yJx4a65c_get_915e3 yJx4a65c_get_915e3, Cond.code yJx4a65c_get_915e3 cJx4a65c_get_915e3 2 (some (.object "java/lang/Object"))]
def wsX1_begin_r2 : List Cond := [Cond.methodLink RJx4a65c 118 yJ15_checkIndex_7cf53, Cond.static yJ15_checkIndex_7cf53, Cond.initialized RJ15, Cond.code yJ15_checkIndex_7cf53 cJ15_checkIndex_7cf53 2 (some .int), Cond.methodLink RJ15 105 yJ3_checkIndex_8e157, Cond.static yJ3_checkIndex_8e157, Cond.initialized RJ3, Cond.code yJ3_checkIndex_8e157 cJ3_checkIndex_8e157 3 (some .int), Cond.methodLink RJx4a65c 123 yJx4a65c_elementData_915e3, Cond.instanceMethod yJx4a65c_elementData_915e3, Cond.selects RJx4a65c yJx4a65c_elementData_915e3 yJx4a65c_elementData_915e3, Cond.code yJx4a65c_elementData_915e3 cJx4a65c_elementData_915e3 2 (some (.object "java/lang/Object")), Cond.fieldLink RJx4a65c 9 "java/util/ArrayList" "elementData" "[Ljava/lang/Object;"]
def wsX1_begin : List Cond := .code yX1_begin cX1_begin 3 none :: ((wsX1_begin_r1 ++ wsX1_begin_r2) ++ wsX10 ++ wsX30 ++ wsX00 ++ wsJx4a65c0)
def wsX2_agree : List Cond := .code yX2_agree cX2_agree 5 (some .boolean) :: ([.fieldLink RX2 15 "TwinFinder$Measure" "rowCount" "I", .fieldLink RX2 40 "TwinFinder$Document" "least" "[I"] ++ wsX20 ++ wsX00)
def wsX2_firstBand : List Cond := .code yX2_firstBand cX2_firstBand 4 (some .int) :: ([.fieldLink RX2 33 "TwinFinder$Document" "size" "I", .fieldLink RX2 9 "TwinFinder$Measure" "bandCount" "I", .fieldLink RX2 15 "TwinFinder$Measure" "rowCount" "I", .methodLink RX2 43 yX2_agree, .instanceMethod yX2_agree, .selects RX2 yX2_agree yX2_agree, .initialized RX2, .code yX2_agree cX2_agree 5 (some .boolean), .fieldLink RX2 40 "TwinFinder$Document" "least" "[I"] ++ wsX00 ++ wsX20)
def wsX3_put : List Cond := .code yX3_put cX3_put 3 none :: ([.fieldLink RX3 18 "TwinFinder$PairRow" "size" "I", .fieldLink RX3 9 "TwinFinder$PairRow" "first" "[I", .fieldLink RX3 15 "TwinFinder$PairRow" "second" "[I"] ++ wsX30)
def wsX2_common : List Cond := .code yX2_common cX2_common 3 (some .int) :: ([.fieldLink RX2 24 "TwinFinder$Document" "shared" "[I", .fieldLink RX2 30 "TwinFinder$Document" "slot" "I"] ++ wsX00)
def wsX2_all : List Cond := .code yX2_all cX2_all 3 (some .int) :: ([.fieldLink RX2 33 "TwinFinder$Document" "size" "I", .methodLink RX2 36 yX2_common, .instanceMethod yX2_common, .selects RX2 yX2_common yX2_common, .initialized RX2, .code yX2_common cX2_common 3 (some .int), .fieldLink RX2 24 "TwinFinder$Document" "shared" "[I", .fieldLink RX2 30 "TwinFinder$Document" "slot" "I"] ++ wsX00)
def wsX2_areNear : List Cond := .code yX2_areNear cX2_areNear 3 (some .boolean) :: ([.fieldLink RX2 21 "TwinFinder$Measure" "q" "I", .fieldLink RX2 18 "TwinFinder$Measure" "p" "I", .methodLink RX2 36 yX2_common, .instanceMethod yX2_common, .selects RX2 yX2_common yX2_common, .initialized RX2, .code yX2_common cX2_common 3 (some .int), .fieldLink RX2 24 "TwinFinder$Document" "shared" "[I", .fieldLink RX2 30 "TwinFinder$Document" "slot" "I", .methodLink RX2 54 yX2_all, .instanceMethod yX2_all, .selects RX2 yX2_all yX2_all, .code yX2_all cX2_all 3 (some .int), .fieldLink RX2 33 "TwinFinder$Document" "size" "I"] ++ wsX20 ++ wsX00)
def wsX1_join : List Cond := .code yX1_join cX1_join 6 none :: ([.methodLink RX1 62 Lib.Math.min.name, .static Lib.Math.min.name, .initialized "java/lang/Math", .code Lib.Math.min.name Lib.Math.min.code 2 (some .int), .methodLink RX1 89 Lib.Math.max.name, .static Lib.Math.max.name, .code Lib.Math.max.name Lib.Math.max.code 2 (some .int), .fieldLink RX1 42 "TwinFinder$Kin" "places" "I", .fieldLink RX1 28 "TwinFinder$Kin" "leader" "[I"] ++ wsX10)
def wsX1_compare_r1 : List Cond := [Cond.fieldLink RX1 12 "TwinFinder$Kin" "candidates" "LTwinFinder$PairRow;", Cond.fieldLink RX1 70 "TwinFinder$Document" "number" "I", Cond.fieldLink RX1 18 "TwinFinder$Kin" "twins" "LTwinFinder$PairRow;", Cond.fieldLink RX1 25 "TwinFinder$Kin" "twinCount" "[I", Cond.fieldLink RX1 28 "TwinFinder$Kin" "leader" "[I", Cond.methodLink RX1 72 yX2_firstBand, Cond.instanceMethod yX2_firstBand, Cond.selects RX2 yX2_firstBand yX2_firstBand, Cond.initialized RX2, Cond.code yX2_firstBand cX2_firstBand 4 (some .int), Cond.fieldLink RX2 33 "TwinFinder$Document" "size" "I", Cond.fieldLink RX2 9 "TwinFinder$Measure" "bandCount" "I", Cond.fieldLink RX2 15 "TwinFinder$Measure" "rowCount" "I", Cond.methodLink RX2 43 yX2_agree, Cond.instanceMethod yX2_agree, Cond.selects RX2 yX2_agree yX2_agree, Cond.code yX2_agree cX2_agree 5 (some .boolean), Cond.fieldLink RX2 40 "TwinFinder$Document" "least" "[I", Cond.methodLink RX1 78 yX3_put, Cond.instanceMethod yX3_put, Cond.selects RX3 yX3_put yX3_put, Cond.initialized RX3, Cond.code yX3_put cX3_put 3 none, Cond.fieldLink RX3 18 "TwinFinder$PairRow" "size" "I"]
def wsX1_compare_r2 : List Cond := [Cond.fieldLink RX3 9 "TwinFinder$PairRow" "first" "[I", Cond.fieldLink RX3 15 "TwinFinder$PairRow" "second" "[I", Cond.methodLink RX1 82 yX2_areNear, Cond.instanceMethod yX2_areNear, Cond.selects RX2 yX2_areNear yX2_areNear, Cond.code yX2_areNear cX2_areNear 3 (some .boolean), Cond.fieldLink RX2 21 "TwinFinder$Measure" "q" "I", Cond.fieldLink RX2 18 "TwinFinder$Measure" "p" "I", Cond.methodLink RX2 36 yX2_common, Cond.instanceMethod yX2_common, Cond.selects RX2 yX2_common yX2_common, Cond.code yX2_common cX2_common 3 (some .int), Cond.fieldLink RX2 24 "TwinFinder$Document" "shared" "[I", Cond.fieldLink RX2 30 "TwinFinder$Document" "slot" "I", Cond.methodLink RX2 54 yX2_all, Cond.instanceMethod yX2_all, Cond.selects RX2 yX2_all yX2_all, Cond.code yX2_all cX2_all 3 (some .int), Cond.methodLink RX1 86 yX1_join, Cond.instanceMethod yX1_join, Cond.selects RX1 yX1_join yX1_join, Cond.initialized RX1, Cond.code yX1_join cX1_join 6 none, Cond.methodLink RX1 62 Lib.Math.min.name]
def wsX1_compare_r3 : List Cond := [Cond.static Lib.Math.min.name, Cond.initialized "java/lang/Math", Cond.code Lib.Math.min.name Lib.Math.min.code 2 (some .int), Cond.methodLink RX1 89 Lib.Math.max.name, Cond.static Lib.Math.max.name, Cond.code Lib.Math.max.name Lib.Math.max.code 2 (some .int), Cond.fieldLink RX1 42 "TwinFinder$Kin" "places" "I"]
def wsX1_compare : List Cond := .code yX1_compare cX1_compare 6 none :: ((wsX1_compare_r1 ++ (wsX1_compare_r2 ++ wsX1_compare_r3)) ++ wsX10 ++ wsX00 ++ wsX20 ++ wsX30)
def wsX1_learn_r1 : List Cond := [Cond.fieldLink RX1 34 "TwinFinder$Kin" "known" "Z", Cond.fieldLink RX1 42 "TwinFinder$Kin" "places" "I", Cond.classLink RX1 52 "TwinFinder$Document", Cond.fieldLink RX1 31 "TwinFinder$Kin" "members" "[I", Cond.fieldLink RX1 28 "TwinFinder$Kin" "leader" "[I", Cond.methodLink RX1 38 yX1_begin, Cond.instanceMethod yX1_begin, Cond.selects RX1 yX1_begin yX1_begin, Cond.initialized RX1, Cond.code yX1_begin cX1_begin 3 none, Cond.methodLink RX1 62 Lib.Math.min.name, Cond.static Lib.Math.min.name, Cond.initialized "java/lang/Math", Cond.code Lib.Math.min.name Lib.Math.min.code 2 (some .int), Cond.fieldLink RX1 12 "TwinFinder$Kin" "candidates" "LTwinFinder$PairRow;", Cond.fieldLink RX1 68 "TwinFinder$PairRow" "size" "I", Cond.fieldLink RX1 18 "TwinFinder$Kin" "twins" "LTwinFinder$PairRow;", Cond.fieldLink RX1 21 "TwinFinder$Kin" "number" "[I", Cond.fieldLink RX1 70 "TwinFinder$Document" "number" "I", Cond.fieldLink RX1 25 "TwinFinder$Kin" "twinCount" "[I", Cond.methodLink RX1 58 yJx4a65c_size_8abf5, Cond.instanceMethod yJx4a65c_size_8abf5, Cond.selects RJx4a65c yJx4a65c_size_8abf5 yJx4a65c_size_8abf5, Cond.initialized RJx4a65c]
def wsX1_learn_r2 : List Cond := [Cond.code yJx4a65c_size_8abf5 cJx4a65c_size_8abf5 1 (some .int), Cond.fieldLink RJx4a65c 48 "java/util/ArrayList" "size" "I", Cond.methodLink RX1 46 yJx4a65c_get_915e3, Cond.instanceMethod yJx4a65c_get_915e3, Cond.selects RJx4a65c yJx4a65c_get_915e3 yJx4a65c_get_915e3, Cond.code yJx4a65c_get_915e3 cJx4a65c_get_915e3 2 (some (.object "java/lang/Object")), Cond.methodLink RJx4a65c 118 yJ15_checkIndex_7cf53, Cond.static yJ15_checkIndex_7cf53, Cond.initialized RJ15, Cond.code yJ15_checkIndex_7cf53 cJ15_checkIndex_7cf53 2 (some .int), Cond.methodLink RJ15 105 yJ3_checkIndex_8e157, Cond.static yJ3_checkIndex_8e157, Cond.initialized RJ3, Cond.code yJ3_checkIndex_8e157 cJ3_checkIndex_8e157 3 (some .int), Cond.methodLink RJx4a65c 123 yJx4a65c_elementData_915e3, Cond.instanceMethod yJx4a65c_elementData_915e3, Cond.selects RJx4a65c yJx4a65c_elementData_915e3 yJx4a65c_elementData_915e3, Cond.code yJx4a65c_elementData_915e3 cJx4a65c_elementData_915e3 2 (some (.object "java/lang/Object")), Cond.fieldLink RJx4a65c 9 "java/util/ArrayList" "elementData" "[Ljava/lang/Object;", Cond.methodLink RX1 54 yX1_compare, Cond.instanceMethod yX1_compare, Cond.selects RX1 yX1_compare yX1_compare, Cond.code yX1_compare cX1_compare 6 none, Cond.methodLink RX1 72 yX2_firstBand]
def wsX1_learn_r3 : List Cond := [Cond.instanceMethod yX2_firstBand, Cond.selects RX2 yX2_firstBand yX2_firstBand, Cond.initialized RX2, Cond.code yX2_firstBand cX2_firstBand 4 (some .int), Cond.fieldLink RX2 33 "TwinFinder$Document" "size" "I", Cond.fieldLink RX2 9 "TwinFinder$Measure" "bandCount" "I", Cond.fieldLink RX2 15 "TwinFinder$Measure" "rowCount" "I", Cond.methodLink RX2 43 yX2_agree, Cond.instanceMethod yX2_agree, Cond.selects RX2 yX2_agree yX2_agree, Cond.code yX2_agree cX2_agree 5 (some .boolean), Cond.fieldLink RX2 40 "TwinFinder$Document" "least" "[I", Cond.methodLink RX1 78 yX3_put, Cond.instanceMethod yX3_put, Cond.selects RX3 yX3_put yX3_put, Cond.initialized RX3, Cond.code yX3_put cX3_put 3 none, Cond.fieldLink RX3 18 "TwinFinder$PairRow" "size" "I", Cond.fieldLink RX3 9 "TwinFinder$PairRow" "first" "[I", Cond.fieldLink RX3 15 "TwinFinder$PairRow" "second" "[I", Cond.methodLink RX1 82 yX2_areNear, Cond.instanceMethod yX2_areNear, Cond.selects RX2 yX2_areNear yX2_areNear, Cond.code yX2_areNear cX2_areNear 3 (some .boolean)]
def wsX1_learn_r4 : List Cond := [Cond.fieldLink RX2 21 "TwinFinder$Measure" "q" "I", Cond.fieldLink RX2 18 "TwinFinder$Measure" "p" "I", Cond.methodLink RX2 36 yX2_common, Cond.instanceMethod yX2_common, Cond.selects RX2 yX2_common yX2_common, Cond.code yX2_common cX2_common 3 (some .int), Cond.fieldLink RX2 24 "TwinFinder$Document" "shared" "[I", Cond.fieldLink RX2 30 "TwinFinder$Document" "slot" "I", Cond.methodLink RX2 54 yX2_all, Cond.instanceMethod yX2_all, Cond.selects RX2 yX2_all yX2_all, Cond.code yX2_all cX2_all 3 (some .int), Cond.methodLink RX1 86 yX1_join, Cond.instanceMethod yX1_join, Cond.selects RX1 yX1_join yX1_join, Cond.code yX1_join cX1_join 6 none, Cond.methodLink RX1 89 Lib.Math.max.name, Cond.static Lib.Math.max.name, Cond.code Lib.Math.max.name Lib.Math.max.code 2 (some .int)]
def wsX1_learn : List Cond := .code yX1_learn cX1_learn 5 none :: ((wsX1_learn_r1 ++ (wsX1_learn_r2 ++ (wsX1_learn_r3 ++ wsX1_learn_r4))) ++ wsX10 ++ wsX30 ++ wsX00 ++ wsJx4a65c0 ++ wsX20)
def wsX1_familyOf : List Cond := .code yX1_familyOf cX1_familyOf 2 (some .int) :: ([.fieldLink RX1 42 "TwinFinder$Kin" "places" "I", .fieldLink RX1 21 "TwinFinder$Kin" "number" "[I", .fieldLink RX1 28 "TwinFinder$Kin" "leader" "[I"] ++ wsX10)
def wsX1_membersWith : List Cond := .code yX1_membersWith cX1_membersWith 2 (some .int) :: ([.fieldLink RX1 42 "TwinFinder$Kin" "places" "I", .fieldLink RX1 31 "TwinFinder$Kin" "members" "[I", .fieldLink RX1 28 "TwinFinder$Kin" "leader" "[I"] ++ wsX10)
def wsX1_twinsOf : List Cond := .code yX1_twinsOf cX1_twinsOf 2 (some .int) :: ([.fieldLink RX1 42 "TwinFinder$Kin" "places" "I", .fieldLink RX1 25 "TwinFinder$Kin" "twinCount" "[I"] ++ wsX10)
def wsX1_families : List Cond := .code yX1_families cX1_families 4 (some .int) :: ([.fieldLink RX1 42 "TwinFinder$Kin" "places" "I", .fieldLink RX1 31 "TwinFinder$Kin" "members" "[I"] ++ wsX10)
def wsX1_familyAt : List Cond := .code yX1_familyAt cX1_familyAt 5 (some .int) :: ([.fieldLink RX1 42 "TwinFinder$Kin" "places" "I", .fieldLink RX1 31 "TwinFinder$Kin" "members" "[I", .fieldLink RX1 21 "TwinFinder$Kin" "number" "[I"] ++ wsX10)
def wsX2_init : List Cond := .code yX2_init cX2_init 1 none :: ([.methodLink RX2 3 objectInit, .instanceMethod objectInit, .code objectInit ⟨#[0xb1]⟩ 1 none, .fieldLink RX2 9 "TwinFinder$Measure" "bandCount" "I", .fieldLink RX2 15 "TwinFinder$Measure" "rowCount" "I", .fieldLink RX2 18 "TwinFinder$Measure" "p" "I", .fieldLink RX2 21 "TwinFinder$Measure" "q" "I"] ++ wsX20)
def wsX2_takeBands : List Cond := .code yX2_takeBands cX2_takeBands 3 (some .boolean) :: ([.fieldLink RX2 9 "TwinFinder$Measure" "bandCount" "I", .fieldLink RX2 15 "TwinFinder$Measure" "rowCount" "I"] ++ wsX20)
def wsX2_takeThreshold : List Cond := .code yX2_takeThreshold cX2_takeThreshold 3 (some .boolean) :: ([.fieldLink RX2 18 "TwinFinder$Measure" "p" "I", .fieldLink RX2 21 "TwinFinder$Measure" "q" "I"] ++ wsX20)
def wsX2_sameImages : List Cond := .code yX2_sameImages cX2_sameImages 5 (some .int) :: ([.fieldLink RX2 9 "TwinFinder$Measure" "bandCount" "I", .fieldLink RX2 15 "TwinFinder$Measure" "rowCount" "I", .fieldLink RX2 40 "TwinFinder$Document" "least" "[I"] ++ wsX20 ++ wsX00)
def wsX2_areTwins_r1 : List Cond := [Cond.methodLink RX2 47 yX2_firstBand, Cond.instanceMethod yX2_firstBand, Cond.selects RX2 yX2_firstBand yX2_firstBand, Cond.initialized RX2, Cond.code yX2_firstBand cX2_firstBand 4 (some .int), Cond.fieldLink RX2 33 "TwinFinder$Document" "size" "I", Cond.fieldLink RX2 9 "TwinFinder$Measure" "bandCount" "I", Cond.fieldLink RX2 15 "TwinFinder$Measure" "rowCount" "I", Cond.methodLink RX2 43 yX2_agree, Cond.instanceMethod yX2_agree, Cond.selects RX2 yX2_agree yX2_agree, Cond.code yX2_agree cX2_agree 5 (some .boolean), Cond.fieldLink RX2 40 "TwinFinder$Document" "least" "[I", Cond.methodLink RX2 50 yX2_areNear, Cond.instanceMethod yX2_areNear, Cond.selects RX2 yX2_areNear yX2_areNear, Cond.code yX2_areNear cX2_areNear 3 (some .boolean), Cond.fieldLink RX2 21 "TwinFinder$Measure" "q" "I", Cond.fieldLink RX2 18 "TwinFinder$Measure" "p" "I", Cond.methodLink RX2 36 yX2_common, Cond.instanceMethod yX2_common, Cond.selects RX2 yX2_common yX2_common, Cond.code yX2_common cX2_common 3 (some .int), Cond.fieldLink RX2 24 "TwinFinder$Document" "shared" "[I"]
def wsX2_areTwins_r2 : List Cond := [Cond.fieldLink RX2 30 "TwinFinder$Document" "slot" "I", Cond.methodLink RX2 54 yX2_all, Cond.instanceMethod yX2_all, Cond.selects RX2 yX2_all yX2_all, Cond.code yX2_all cX2_all 3 (some .int)]
def wsX2_areTwins : List Cond := .code yX2_areTwins cX2_areTwins 3 (some .boolean) :: ((wsX2_areTwins_r1 ++ wsX2_areTwins_r2) ++ wsX00 ++ wsX20)
def wsX2_isNearer : List Cond := .code yX2_isNearer cX2_isNearer 4 (some .boolean) :: ([.methodLink RX2 57 Lib.Math.max.name, .static Lib.Math.max.name, .initialized "java/lang/Math", .code Lib.Math.max.name Lib.Math.max.code 2 (some .int), .methodLink RX2 36 yX2_common, .instanceMethod yX2_common, .selects RX2 yX2_common yX2_common, .initialized RX2, .code yX2_common cX2_common 3 (some .int), .fieldLink RX2 24 "TwinFinder$Document" "shared" "[I", .fieldLink RX2 30 "TwinFinder$Document" "slot" "I", .methodLink RX2 54 yX2_all, .instanceMethod yX2_all, .selects RX2 yX2_all yX2_all, .code yX2_all cX2_all 3 (some .int), .fieldLink RX2 33 "TwinFinder$Document" "size" "I"] ++ wsX00)
def wsX3_side : List Cond := .code yX3_side cX3_side 3 (some .int) :: ([.fieldLink RX3 18 "TwinFinder$PairRow" "size" "I", .fieldLink RX3 9 "TwinFinder$PairRow" "first" "[I", .fieldLink RX3 15 "TwinFinder$PairRow" "second" "[I"] ++ wsX30)
def wsX4_init : List Cond := .code yX4_init cX4_init 2 none :: ([.methodLink RX4 3 objectInit, .instanceMethod objectInit, .code objectInit ⟨#[0xb1]⟩ 1 none, .arrayClass .int, .fieldLink RX4 9 "TwinFinder$Permutations" "factor" "[I", .fieldLink RX4 15 "TwinFinder$Permutations" "summand" "[I", .fieldLink RX4 18 "TwinFinder$Permutations" "exchanges" "[I", .fieldLink RX4 21 "TwinFinder$Permutations" "movedKey" "[I", .fieldLink RX4 24 "TwinFinder$Permutations" "movedImage" "[I"] ++ wsX40)
def wsX4_isOne : List Cond := .code yX4_isOne cX4_isOne 1 (some .boolean) :: ([])
def wsX4_isNumber : List Cond := .code yX4_isNumber cX4_isNumber 1 (some .boolean) :: ([.constant RX4 27 (65521)])
def wsX4_dropMoved : List Cond := .code yX4_dropMoved cX4_dropMoved 4 none :: ([.fieldLink RX4 58 "TwinFinder$Permutations" "moved" "I", .fieldLink RX4 21 "TwinFinder$Permutations" "movedKey" "[I", .fieldLink RX4 24 "TwinFinder$Permutations" "movedImage" "[I"] ++ wsX40)
def wsX4_become : List Cond := .code yX4_become cX4_become 4 (some .boolean) :: ([.fieldLink RX4 9 "TwinFinder$Permutations" "factor" "[I", .fieldLink RX4 15 "TwinFinder$Permutations" "summand" "[I", .fieldLink RX4 35 "TwinFinder$Permutations" "kept" "I", .fieldLink RX4 18 "TwinFinder$Permutations" "exchanges" "[I", .methodLink RX4 28 yX4_isOne, .static yX4_isOne, .initialized RX4, .code yX4_isOne cX4_isOne 1 (some .boolean), .methodLink RX4 32 yX4_isNumber, .static yX4_isNumber, .code yX4_isNumber cX4_isNumber 1 (some .boolean), .constant RX4 27 (65521), .methodLink RX4 39 yX4_dropMoved, .instanceMethod yX4_dropMoved, .selects RX4 yX4_dropMoved yX4_dropMoved, .code yX4_dropMoved cX4_dropMoved 4 none, .fieldLink RX4 58 "TwinFinder$Permutations" "moved" "I", .fieldLink RX4 21 "TwinFinder$Permutations" "movedKey" "[I", .fieldLink RX4 24 "TwinFinder$Permutations" "movedImage" "[I"] ++ wsX40)
def wsX4_keyOf : List Cond := .code yX4_keyOf cX4_keyOf 2 (some .int) :: ([])
def wsX4_placeFor : List Cond := .code yX4_placeFor cX4_placeFor 4 (some .int) :: ([.fieldLink RX4 58 "TwinFinder$Permutations" "moved" "I", .fieldLink RX4 21 "TwinFinder$Permutations" "movedKey" "[I"] ++ wsX40)
def wsX4_imageOf : List Cond := .code yX4_imageOf cX4_imageOf 5 (some .int) :: ([.fieldLink RX4 18 "TwinFinder$Permutations" "exchanges" "[I", .fieldLink RX4 58 "TwinFinder$Permutations" "moved" "I", .fieldLink RX4 21 "TwinFinder$Permutations" "movedKey" "[I", .fieldLink RX4 24 "TwinFinder$Permutations" "movedImage" "[I", .fieldLink RX4 9 "TwinFinder$Permutations" "factor" "[I", .fieldLink RX4 15 "TwinFinder$Permutations" "summand" "[I", .constantLong RX4 61 (65521), .methodLink RX4 28 yX4_isOne, .static yX4_isOne, .initialized RX4, .code yX4_isOne cX4_isOne 1 (some .boolean), .methodLink RX4 32 yX4_isNumber, .static yX4_isNumber, .code yX4_isNumber cX4_isNumber 1 (some .boolean), .constant RX4 27 (65521), .methodLink RX4 47 yX4_keyOf, .static yX4_keyOf, .code yX4_keyOf cX4_keyOf 2 (some .int), .methodLink RX4 54 yX4_placeFor, .instanceMethod yX4_placeFor, .selects RX4 yX4_placeFor yX4_placeFor, .code yX4_placeFor cX4_placeFor 4 (some .int)] ++ wsX40)
def wsX4_move : List Cond := .code yX4_move cX4_move 5 none :: ([.fieldLink RX4 58 "TwinFinder$Permutations" "moved" "I", .fieldLink RX4 21 "TwinFinder$Permutations" "movedKey" "[I", .fieldLink RX4 24 "TwinFinder$Permutations" "movedImage" "[I", .methodLink RX4 54 yX4_placeFor, .instanceMethod yX4_placeFor, .selects RX4 yX4_placeFor yX4_placeFor, .initialized RX4, .code yX4_placeFor cX4_placeFor 4 (some .int)] ++ wsX40)
def wsX4_swap_r1 : List Cond := [Cond.fieldLink RX4 35 "TwinFinder$Permutations" "kept" "I", Cond.fieldLink RX4 18 "TwinFinder$Permutations" "exchanges" "[I", Cond.methodLink RX4 28 yX4_isOne, Cond.static yX4_isOne, Cond.initialized RX4, Cond.code yX4_isOne cX4_isOne 1 (some .boolean), Cond.methodLink RX4 32 yX4_isNumber, Cond.static yX4_isNumber, Cond.code yX4_isNumber cX4_isNumber 1 (some .boolean), Cond.constant RX4 27 (65521), Cond.methodLink RX4 43 yX4_imageOf, Cond.instanceMethod yX4_imageOf, Cond.selects RX4 yX4_imageOf yX4_imageOf, Cond.code yX4_imageOf cX4_imageOf 5 (some .int), Cond.fieldLink RX4 58 "TwinFinder$Permutations" "moved" "I", Cond.fieldLink RX4 21 "TwinFinder$Permutations" "movedKey" "[I", Cond.fieldLink RX4 24 "TwinFinder$Permutations" "movedImage" "[I", Cond.fieldLink RX4 9 "TwinFinder$Permutations" "factor" "[I", Cond.fieldLink RX4 15 "TwinFinder$Permutations" "summand" "[I", Cond.constantLong RX4 61 (65521), Cond.methodLink RX4 47 yX4_keyOf, Cond.static yX4_keyOf, Cond.code yX4_keyOf cX4_keyOf 2 (some .int), Cond.methodLink RX4 54 yX4_placeFor]
def wsX4_swap_r2 : List Cond := [Cond.instanceMethod yX4_placeFor, Cond.selects RX4 yX4_placeFor yX4_placeFor, Cond.code yX4_placeFor cX4_placeFor 4 (some .int), Cond.methodLink RX4 50 yX4_move, Cond.instanceMethod yX4_move, Cond.selects RX4 yX4_move yX4_move, Cond.code yX4_move cX4_move 5 none]
def wsX4_swap : List Cond := .code yX4_swap cX4_swap 6 (some .boolean) :: ((wsX4_swap_r1 ++ wsX4_swap_r2) ++ wsX40)
def wsX4_leastOf_r1 : List Cond := [Cond.constant RX4 27 (65521), Cond.fieldLink RX4 63 "TwinFinder$Document" "size" "I", Cond.fieldLink RX4 68 "TwinFinder$Document" "numbers" "[I", Cond.methodLink RX4 71 Lib.Math.min.name, Cond.static Lib.Math.min.name, Cond.initialized "java/lang/Math", Cond.code Lib.Math.min.name Lib.Math.min.code 2 (some .int), Cond.methodLink RX4 43 yX4_imageOf, Cond.instanceMethod yX4_imageOf, Cond.selects RX4 yX4_imageOf yX4_imageOf, Cond.initialized RX4, Cond.code yX4_imageOf cX4_imageOf 5 (some .int), Cond.fieldLink RX4 18 "TwinFinder$Permutations" "exchanges" "[I", Cond.fieldLink RX4 58 "TwinFinder$Permutations" "moved" "I", Cond.fieldLink RX4 21 "TwinFinder$Permutations" "movedKey" "[I", Cond.fieldLink RX4 24 "TwinFinder$Permutations" "movedImage" "[I", Cond.fieldLink RX4 9 "TwinFinder$Permutations" "factor" "[I", Cond.fieldLink RX4 15 "TwinFinder$Permutations" "summand" "[I", Cond.constantLong RX4 61 (65521), Cond.methodLink RX4 28 yX4_isOne, Cond.static yX4_isOne, Cond.code yX4_isOne cX4_isOne 1 (some .boolean), Cond.methodLink RX4 32 yX4_isNumber, Cond.static yX4_isNumber]
def wsX4_leastOf_r2 : List Cond := [Cond.code yX4_isNumber cX4_isNumber 1 (some .boolean), Cond.methodLink RX4 47 yX4_keyOf, Cond.static yX4_keyOf, Cond.code yX4_keyOf cX4_keyOf 2 (some .int), Cond.methodLink RX4 54 yX4_placeFor, Cond.instanceMethod yX4_placeFor, Cond.selects RX4 yX4_placeFor yX4_placeFor, Cond.code yX4_placeFor cX4_placeFor 4 (some .int)]
def wsX4_leastOf : List Cond := .code yX4_leastOf cX4_leastOf 5 (some .int) :: ((wsX4_leastOf_r1 ++ wsX4_leastOf_r2) ++ wsX00 ++ wsX40)
def wsJxa1e45_init_da8c8 : List Cond := .code yJxa1e45_init_da8c8 cJxa1e45_init_da8c8 1 none :: ([.methodLink RJxa1e45 1 objectInit, .instanceMethod objectInit, .code objectInit ⟨#[0xb1]⟩ 1 none])
def wsJxc12de_init_da8c8 : List Cond := .code yJxc12de_init_da8c8 cJxc12de_init_da8c8 1 none :: ([.fieldLink RJxc12de 7 "java/util/AbstractList" "modCount" "I", .methodLink RJxc12de 1 yJxa1e45_init_da8c8, .instanceMethod yJxa1e45_init_da8c8, .initialized RJxa1e45, .code yJxa1e45_init_da8c8 cJxa1e45_init_da8c8 1 none, .methodLink RJxa1e45 1 objectInit, .instanceMethod objectInit, .code objectInit ⟨#[0xb1]⟩ 1 none] ++ wsJx4a65c0)
def wsJx4a65c_init_da8c8 : List Cond := .code yJx4a65c_init_da8c8 cJx4a65c_init_da8c8 1 none :: ([.fieldLink RJx4a65c 39 "java/util/ArrayList" "DEFAULTCAPACITY_EMPTY_ELEMENTDATA" "[Ljava/lang/Object;", .fieldLink RJx4a65c 9 "java/util/ArrayList" "elementData" "[Ljava/lang/Object;", .methodLink RJx4a65c 1 yJxc12de_init_da8c8, .instanceMethod yJxc12de_init_da8c8, .initialized RJxc12de, .code yJxc12de_init_da8c8 cJxc12de_init_da8c8 1 none, .fieldLink RJxc12de 7 "java/util/AbstractList" "modCount" "I", .methodLink RJxc12de 1 yJxa1e45_init_da8c8, .instanceMethod yJxa1e45_init_da8c8, .initialized RJxa1e45, .code yJxa1e45_init_da8c8 cJxa1e45_init_da8c8 1 none, .methodLink RJxa1e45 1 objectInit, .instanceMethod objectInit, .code objectInit ⟨#[0xb1]⟩ 1 none] ++ wsJx4a65c0)
def wsX5_init : List Cond := .code yX5_init cX5_init 1 none :: ([.methodLink RX5 3 objectInit, .instanceMethod objectInit, .code objectInit ⟨#[0xb1]⟩ 1 none, .classLink RX5 9 RJx4a65c, .instantiable RJx4a65c 3, .initialized RJx4a65c, .fieldLink RX5 12 "TwinFinder$Shelf" "here" "Ljava/util/ArrayList;", .fieldLink RX5 18 "TwinFinder$Shelf" "spare" "Ljava/util/ArrayList;", .fieldLink RX5 21 "TwinFinder$Shelf" "ranked" "Ljava/util/ArrayList;", .methodLink RX5 11 yJx4a65c_init_da8c8, .instanceMethod yJx4a65c_init_da8c8, .code yJx4a65c_init_da8c8 cJx4a65c_init_da8c8 1 none, .fieldLink RJx4a65c 39 "java/util/ArrayList" "DEFAULTCAPACITY_EMPTY_ELEMENTDATA" "[Ljava/lang/Object;", .fieldLink RJx4a65c 9 "java/util/ArrayList" "elementData" "[Ljava/lang/Object;", .methodLink RJx4a65c 1 yJxc12de_init_da8c8, .instanceMethod yJxc12de_init_da8c8, .initialized RJxc12de, .code yJxc12de_init_da8c8 cJxc12de_init_da8c8 1 none, .fieldLink RJxc12de 7 "java/util/AbstractList" "modCount" "I", .methodLink RJxc12de 1 yJxa1e45_init_da8c8, .instanceMethod yJxa1e45_init_da8c8, .initialized RJxa1e45, .code yJxa1e45_init_da8c8 cJxa1e45_init_da8c8 1 none, .methodLink RJxa1e45 1 objectInit] ++ wsJx4a65c0 ++ wsX50)
def wsX5_isFull : List Cond := .code yX5_isFull cX5_isFull 1 (some .boolean) :: ([.fieldLink RX5 12 "TwinFinder$Shelf" "here" "Ljava/util/ArrayList;", .fieldLink RX5 28 "TwinFinder$Shelf" "came" "I", .methodLink RX5 24 yJx4a65c_size_8abf5, .instanceMethod yJx4a65c_size_8abf5, .selects RJx4a65c yJx4a65c_size_8abf5 yJx4a65c_size_8abf5, .initialized RJx4a65c, .code yJx4a65c_size_8abf5 cJx4a65c_size_8abf5 1 (some .int), .fieldLink RJx4a65c 48 "java/util/ArrayList" "size" "I"] ++ wsX50 ++ wsJx4a65c0)
def wsX5_placeOf_r1 : List Cond := [Cond.fieldLink RX5 12 "TwinFinder$Shelf" "here" "Ljava/util/ArrayList;", Cond.classLink RX5 36 "TwinFinder$Document", Cond.fieldLink RX5 38 "TwinFinder$Document" "number" "I", Cond.methodLink RX5 24 yJx4a65c_size_8abf5, Cond.instanceMethod yJx4a65c_size_8abf5, Cond.selects RJx4a65c yJx4a65c_size_8abf5 yJx4a65c_size_8abf5, Cond.initialized RJx4a65c, Cond.code yJx4a65c_size_8abf5 cJx4a65c_size_8abf5 1 (some .int), Cond.fieldLink RJx4a65c 48 "java/util/ArrayList" "size" "I", Cond.methodLink RX5 32 yJx4a65c_get_915e3, Cond.instanceMethod yJx4a65c_get_915e3, Cond.selects RJx4a65c yJx4a65c_get_915e3 yJx4a65c_get_915e3, Cond.code yJx4a65c_get_915e3 cJx4a65c_get_915e3 2 (some (.object "java/lang/Object")), Cond.methodLink RJx4a65c 118 yJ15_checkIndex_7cf53, Cond.static yJ15_checkIndex_7cf53, Cond.initialized RJ15, Cond.code yJ15_checkIndex_7cf53 cJ15_checkIndex_7cf53 2 (some .int), Cond.methodLink RJ15 105 yJ3_checkIndex_8e157, Cond.static yJ3_checkIndex_8e157, Cond.initialized RJ3, Cond.code yJ3_checkIndex_8e157 cJ3_checkIndex_8e157 3 (some .int), Cond.methodLink RJx4a65c 123 yJx4a65c_elementData_915e3, Cond.instanceMethod yJx4a65c_elementData_915e3, Cond.selects RJx4a65c yJx4a65c_elementData_915e3 yJx4a65c_elementData_915e3]
def wsX5_placeOf_r2 : List Cond := [Cond.code yJx4a65c_elementData_915e3 cJx4a65c_elementData_915e3 2 (some (.object "java/lang/Object")), Cond.fieldLink RJx4a65c 9 "java/util/ArrayList" "elementData" "[Ljava/lang/Object;"]
def wsX5_placeOf : List Cond := .code yX5_placeOf cX5_placeOf 3 (some .int) :: ((wsX5_placeOf_r1 ++ wsX5_placeOf_r2) ++ wsX50 ++ wsX00 ++ wsJx4a65c0)
def wsJx4a65c_isEmpty_aae02 : List Cond := .code yJx4a65c_isEmpty_aae02 cJx4a65c_isEmpty_aae02 1 (some .boolean) :: ([.fieldLink RJx4a65c 48 "java/util/ArrayList" "size" "I"] ++ wsJx4a65c0)
def wsJx4a65c_fastRemove_b59b0 : List Cond := .code yJx4a65c_fastRemove_b59b0 cJx4a65c_fastRemove_b59b0 4 none :: ([.fieldLink RJx4a65c 63 "java/util/ArrayList" "modCount" "I", .sameField "java/util/ArrayList" "java/util/AbstractList" "modCount" "I", .fieldLink RJx4a65c 48 "java/util/ArrayList" "size" "I", .methodLink RJx4a65c 112 arraycopyName, .native arraycopyName, .static arraycopyName, .initialized "java/lang/System"] ++ wsJx4a65c0)
def wsJx4a65c_remove_915e3 : List Cond := .code yJx4a65c_remove_915e3 cJx4a65c_remove_915e3 4 (some (.object "java/lang/Object")) :: ([.fieldLink RJx4a65c 48 "java/util/ArrayList" "size" "I", .fieldLink RJx4a65c 9 "java/util/ArrayList" "elementData" "[Ljava/lang/Object;", .methodLink RJx4a65c 118 yJ15_checkIndex_7cf53, .static yJ15_checkIndex_7cf53, .initialized RJ15, .code yJ15_checkIndex_7cf53 cJ15_checkIndex_7cf53 2 (some .int), .methodLink RJ15 105 yJ3_checkIndex_8e157, .static yJ3_checkIndex_8e157, .initialized RJ3, .code yJ3_checkIndex_8e157 cJ3_checkIndex_8e157 3 (some .int), .methodLink RJx4a65c 144 yJx4a65c_fastRemove_b59b0, .instanceMethod yJx4a65c_fastRemove_b59b0, .selects RJx4a65c yJx4a65c_fastRemove_b59b0 yJx4a65c_fastRemove_b59b0, .initialized RJx4a65c, .code yJx4a65c_fastRemove_b59b0 cJx4a65c_fastRemove_b59b0 4 none, .fieldLink RJx4a65c 63 "java/util/ArrayList" "modCount" "I", .sameField "java/util/ArrayList" "java/util/AbstractList" "modCount" "I", .methodLink RJx4a65c 112 arraycopyName, .native arraycopyName, .static arraycopyName, .initialized "java/lang/System"] ++ wsJx4a65c0)
def wsJ8_hugeLength_7cf53 : List Cond := .code yJ8_hugeLength_7cf53 cJ8_hugeLength_7cf53 3 (some .int) :: ([.constant RJ8 200 (2147483639)])
def wsJ8_newLength_cabcc : List Cond := .code yJ8_newLength_cabcc cJ8_newLength_cabcc 4 (some .int) :: ([.methodLink RJ8 194 Lib.Math.max.name, .static Lib.Math.max.name, .initialized "java/lang/Math", .code Lib.Math.max.name Lib.Math.max.code 2 (some .int), .constant RJ8 200 (2147483639), .methodLink RJ8 201 yJ8_hugeLength_7cf53, .static yJ8_hugeLength_7cf53, .initialized RJ8, .code yJ8_hugeLength_7cf53 cJ8_hugeLength_7cf53 3 (some .int)])
def wsJ7_copyOf_6403c : List Cond := .code yJ7_copyOf_6403c cJ7_copyOf_6403c 4 (some (.array (.object "java/lang/Object"))) :: ([.classLink RJ7 110 "[Ljava/lang/Object;", .classLink RJ7 2 "java/lang/Object", .methodLink RJ7 304 Lib.Math.min.name, .static Lib.Math.min.name, .initialized "java/lang/Math", .code Lib.Math.min.name Lib.Math.min.code 2 (some .int), .methodLink RJ7 150 arraycopyName, .native arraycopyName, .static arraycopyName, .initialized "java/lang/System"])
def wsJ7_copyOf_1904c : List Cond := .code yJ7_copyOf_1904c cJ7_copyOf_1904c 2 (some (.array (.object "java/lang/Object"))) :: ([.methodLink RJ7 86 ⟨"java/lang/Object", "getClass", "()Ljava/lang/Class;"⟩, .selects "[Ljava/lang/Object;" ⟨"java/lang/Object", "getClass", "()Ljava/lang/Class;"⟩ ⟨"java/lang/Object", "getClass", "()Ljava/lang/Class;"⟩, .instanceMethod ⟨"java/lang/Object", "getClass", "()Ljava/lang/Class;"⟩, .native ⟨"java/lang/Object", "getClass", "()Ljava/lang/Class;"⟩, .methodLink RJ7 300 yJ7_copyOf_6403c, .static yJ7_copyOf_6403c, .initialized RJ7, .code yJ7_copyOf_6403c cJ7_copyOf_6403c 4 (some (.array (.object "java/lang/Object"))), .classLink RJ7 110 "[Ljava/lang/Object;", .classLink RJ7 2 "java/lang/Object", .methodLink RJ7 304 Lib.Math.min.name, .static Lib.Math.min.name, .initialized "java/lang/Math", .code Lib.Math.min.name Lib.Math.min.code 2 (some .int), .methodLink RJ7 150 arraycopyName, .native arraycopyName, .static arraycopyName, .initialized "java/lang/System"])
def wsJx4a65c_grow_92f84_r1 : List Cond := [Cond.fieldLink RJx4a65c 9 "java/util/ArrayList" "elementData" "[Ljava/lang/Object;", Cond.fieldLink RJx4a65c 39 "java/util/ArrayList" "DEFAULTCAPACITY_EMPTY_ELEMENTDATA" "[Ljava/lang/Object;", Cond.methodLink RJx4a65c 79 Lib.Math.max.name, Cond.static Lib.Math.max.name, Cond.initialized "java/lang/Math", Cond.code Lib.Math.max.name Lib.Math.max.code 2 (some .int), Cond.classLink RJx4a65c 7 "java/lang/Object", Cond.methodLink RJx4a65c 73 yJ8_newLength_cabcc, Cond.static yJ8_newLength_cabcc, Cond.initialized RJ8, Cond.code yJ8_newLength_cabcc cJ8_newLength_cabcc 4 (some .int), Cond.methodLink RJ8 194 Lib.Math.max.name, Cond.constant RJ8 200 (2147483639), Cond.methodLink RJ8 201 yJ8_hugeLength_7cf53, Cond.static yJ8_hugeLength_7cf53, Cond.code yJ8_hugeLength_7cf53 cJ8_hugeLength_7cf53 3 (some .int), Cond.methodLink RJx4a65c 66 yJ7_copyOf_1904c, Cond.static yJ7_copyOf_1904c, Cond.initialized RJ7, Cond.code yJ7_copyOf_1904c cJ7_copyOf_1904c 2 (some (.array (.object "java/lang/Object"))), Cond.methodLink RJ7 86 ⟨"java/lang/Object", "getClass", "()Ljava/lang/Class;"⟩, Cond.selects "[Ljava/lang/Object;" ⟨"java/lang/Object", "getClass", "()Ljava/lang/Class;"⟩ ⟨"java/lang/Object", "getClass", "()Ljava/lang/Class;"⟩, Cond.instanceMethod ⟨"java/lang/Object", "getClass", "()Ljava/lang/Class;"⟩, Cond.native ⟨"java/lang/Object", "getClass", "()Ljava/lang/Class;"⟩]
def wsJx4a65c_grow_92f84_r2 : List Cond := [Cond.methodLink RJ7 300 yJ7_copyOf_6403c, Cond.static yJ7_copyOf_6403c, Cond.code yJ7_copyOf_6403c cJ7_copyOf_6403c 4 (some (.array (.object "java/lang/Object"))), Cond.classLink RJ7 110 "[Ljava/lang/Object;", Cond.classLink RJ7 2 "java/lang/Object", Cond.methodLink RJ7 304 Lib.Math.min.name, Cond.static Lib.Math.min.name, Cond.code Lib.Math.min.name Lib.Math.min.code 2 (some .int), Cond.methodLink RJ7 150 arraycopyName, Cond.native arraycopyName, Cond.static arraycopyName, Cond.initialized "java/lang/System"]
def wsJx4a65c_grow_92f84 : List Cond := .code yJx4a65c_grow_92f84 cJx4a65c_grow_92f84 4 (some (.array (.object "java/lang/Object"))) :: ((wsJx4a65c_grow_92f84_r1 ++ wsJx4a65c_grow_92f84_r2) ++ wsJx4a65c0)
def wsJx4a65c_grow_d5877_r1 : List Cond := [Cond.fieldLink RJx4a65c 48 "java/util/ArrayList" "size" "I", Cond.methodLink RJx4a65c 69 yJx4a65c_grow_92f84, Cond.instanceMethod yJx4a65c_grow_92f84, Cond.selects RJx4a65c yJx4a65c_grow_92f84 yJx4a65c_grow_92f84, Cond.initialized RJx4a65c, Cond.code yJx4a65c_grow_92f84 cJx4a65c_grow_92f84 4 (some (.array (.object "java/lang/Object"))), Cond.fieldLink RJx4a65c 9 "java/util/ArrayList" "elementData" "[Ljava/lang/Object;", Cond.fieldLink RJx4a65c 39 "java/util/ArrayList" "DEFAULTCAPACITY_EMPTY_ELEMENTDATA" "[Ljava/lang/Object;", Cond.methodLink RJx4a65c 79 Lib.Math.max.name, Cond.static Lib.Math.max.name, Cond.initialized "java/lang/Math", Cond.code Lib.Math.max.name Lib.Math.max.code 2 (some .int), Cond.classLink RJx4a65c 7 "java/lang/Object", Cond.methodLink RJx4a65c 73 yJ8_newLength_cabcc, Cond.static yJ8_newLength_cabcc, Cond.initialized RJ8, Cond.code yJ8_newLength_cabcc cJ8_newLength_cabcc 4 (some .int), Cond.methodLink RJ8 194 Lib.Math.max.name, Cond.constant RJ8 200 (2147483639), Cond.methodLink RJ8 201 yJ8_hugeLength_7cf53, Cond.static yJ8_hugeLength_7cf53, Cond.code yJ8_hugeLength_7cf53 cJ8_hugeLength_7cf53 3 (some .int), Cond.methodLink RJx4a65c 66 yJ7_copyOf_1904c, Cond.static yJ7_copyOf_1904c]
def wsJx4a65c_grow_d5877_r2 : List Cond := [Cond.initialized RJ7, Cond.code yJ7_copyOf_1904c cJ7_copyOf_1904c 2 (some (.array (.object "java/lang/Object"))), Cond.methodLink RJ7 86 ⟨"java/lang/Object", "getClass", "()Ljava/lang/Class;"⟩, Cond.selects "[Ljava/lang/Object;" ⟨"java/lang/Object", "getClass", "()Ljava/lang/Class;"⟩ ⟨"java/lang/Object", "getClass", "()Ljava/lang/Class;"⟩, Cond.instanceMethod ⟨"java/lang/Object", "getClass", "()Ljava/lang/Class;"⟩, Cond.native ⟨"java/lang/Object", "getClass", "()Ljava/lang/Class;"⟩, Cond.methodLink RJ7 300 yJ7_copyOf_6403c, Cond.static yJ7_copyOf_6403c, Cond.code yJ7_copyOf_6403c cJ7_copyOf_6403c 4 (some (.array (.object "java/lang/Object"))), Cond.classLink RJ7 110 "[Ljava/lang/Object;", Cond.classLink RJ7 2 "java/lang/Object", Cond.methodLink RJ7 304 Lib.Math.min.name, Cond.static Lib.Math.min.name, Cond.code Lib.Math.min.name Lib.Math.min.code 2 (some .int), Cond.methodLink RJ7 150 arraycopyName, Cond.native arraycopyName, Cond.static arraycopyName, Cond.initialized "java/lang/System"]
def wsJx4a65c_grow_d5877 : List Cond := .code yJx4a65c_grow_d5877 cJx4a65c_grow_d5877 1 (some (.array (.object "java/lang/Object"))) :: ((wsJx4a65c_grow_d5877_r1 ++ wsJx4a65c_grow_d5877_r2) ++ wsJx4a65c0)
def wsJx4a65c_add_72be8_r1 : List Cond := [Cond.fieldLink RJx4a65c 48 "java/util/ArrayList" "size" "I", Cond.methodLink RJx4a65c 129 yJx4a65c_grow_d5877, Cond.instanceMethod yJx4a65c_grow_d5877, Cond.selects RJx4a65c yJx4a65c_grow_d5877 yJx4a65c_grow_d5877, Cond.initialized RJx4a65c, Cond.code yJx4a65c_grow_d5877 cJx4a65c_grow_d5877 1 (some (.array (.object "java/lang/Object"))), Cond.methodLink RJx4a65c 69 yJx4a65c_grow_92f84, Cond.instanceMethod yJx4a65c_grow_92f84, Cond.selects RJx4a65c yJx4a65c_grow_92f84 yJx4a65c_grow_92f84, Cond.code yJx4a65c_grow_92f84 cJx4a65c_grow_92f84 4 (some (.array (.object "java/lang/Object"))), Cond.fieldLink RJx4a65c 9 "java/util/ArrayList" "elementData" "[Ljava/lang/Object;", Cond.fieldLink RJx4a65c 39 "java/util/ArrayList" "DEFAULTCAPACITY_EMPTY_ELEMENTDATA" "[Ljava/lang/Object;", Cond.methodLink RJx4a65c 79 Lib.Math.max.name, Cond.static Lib.Math.max.name, Cond.initialized "java/lang/Math", Cond.code Lib.Math.max.name Lib.Math.max.code 2 (some .int), Cond.classLink RJx4a65c 7 "java/lang/Object", Cond.methodLink RJx4a65c 73 yJ8_newLength_cabcc, Cond.static yJ8_newLength_cabcc, Cond.initialized RJ8, Cond.code yJ8_newLength_cabcc cJ8_newLength_cabcc 4 (some .int), Cond.methodLink RJ8 194 Lib.Math.max.name, Cond.constant RJ8 200 (2147483639), Cond.methodLink RJ8 201 yJ8_hugeLength_7cf53]
def wsJx4a65c_add_72be8_r2 : List Cond := [Cond.static yJ8_hugeLength_7cf53, Cond.code yJ8_hugeLength_7cf53 cJ8_hugeLength_7cf53 3 (some .int), Cond.methodLink RJx4a65c 66 yJ7_copyOf_1904c, Cond.static yJ7_copyOf_1904c, Cond.initialized RJ7, Cond.code yJ7_copyOf_1904c cJ7_copyOf_1904c 2 (some (.array (.object "java/lang/Object"))), Cond.methodLink RJ7 86 ⟨"java/lang/Object", "getClass", "()Ljava/lang/Class;"⟩, Cond.selects "[Ljava/lang/Object;" ⟨"java/lang/Object", "getClass", "()Ljava/lang/Class;"⟩ ⟨"java/lang/Object", "getClass", "()Ljava/lang/Class;"⟩, Cond.instanceMethod ⟨"java/lang/Object", "getClass", "()Ljava/lang/Class;"⟩, Cond.native ⟨"java/lang/Object", "getClass", "()Ljava/lang/Class;"⟩, Cond.methodLink RJ7 300 yJ7_copyOf_6403c, Cond.static yJ7_copyOf_6403c, Cond.code yJ7_copyOf_6403c cJ7_copyOf_6403c 4 (some (.array (.object "java/lang/Object"))), Cond.classLink RJ7 110 "[Ljava/lang/Object;", Cond.classLink RJ7 2 "java/lang/Object", Cond.methodLink RJ7 304 Lib.Math.min.name, Cond.static Lib.Math.min.name, Cond.code Lib.Math.min.name Lib.Math.min.code 2 (some .int), Cond.methodLink RJ7 150 arraycopyName, Cond.native arraycopyName, Cond.static arraycopyName, Cond.initialized "java/lang/System"]
def wsJx4a65c_add_72be8 : List Cond := .code yJx4a65c_add_72be8 cJx4a65c_add_72be8 4 none :: ((wsJx4a65c_add_72be8_r1 ++ wsJx4a65c_add_72be8_r2) ++ wsJx4a65c0)
def wsJx4a65c_add_9ea2d_r1 : List Cond := [Cond.fieldLink RJx4a65c 63 "java/util/ArrayList" "modCount" "I", Cond.sameField "java/util/ArrayList" "java/util/AbstractList" "modCount" "I", Cond.fieldLink RJx4a65c 9 "java/util/ArrayList" "elementData" "[Ljava/lang/Object;", Cond.fieldLink RJx4a65c 48 "java/util/ArrayList" "size" "I", Cond.methodLink RJx4a65c 131 yJx4a65c_add_72be8, Cond.instanceMethod yJx4a65c_add_72be8, Cond.selects RJx4a65c yJx4a65c_add_72be8 yJx4a65c_add_72be8, Cond.initialized RJx4a65c, Cond.code yJx4a65c_add_72be8 cJx4a65c_add_72be8 4 none, Cond.methodLink RJx4a65c 129 yJx4a65c_grow_d5877, Cond.instanceMethod yJx4a65c_grow_d5877, Cond.selects RJx4a65c yJx4a65c_grow_d5877 yJx4a65c_grow_d5877, Cond.code yJx4a65c_grow_d5877 cJx4a65c_grow_d5877 1 (some (.array (.object "java/lang/Object"))), Cond.methodLink RJx4a65c 69 yJx4a65c_grow_92f84, Cond.instanceMethod yJx4a65c_grow_92f84, Cond.selects RJx4a65c yJx4a65c_grow_92f84 yJx4a65c_grow_92f84, Cond.code yJx4a65c_grow_92f84 cJx4a65c_grow_92f84 4 (some (.array (.object "java/lang/Object"))), Cond.fieldLink RJx4a65c 39 "java/util/ArrayList" "DEFAULTCAPACITY_EMPTY_ELEMENTDATA" "[Ljava/lang/Object;", Cond.methodLink RJx4a65c 79 Lib.Math.max.name, Cond.static Lib.Math.max.name, Cond.initialized "java/lang/Math", Cond.code Lib.Math.max.name Lib.Math.max.code 2 (some .int), Cond.classLink RJx4a65c 7 "java/lang/Object", Cond.methodLink RJx4a65c 73 yJ8_newLength_cabcc]
def wsJx4a65c_add_9ea2d_r2 : List Cond := [Cond.static yJ8_newLength_cabcc, Cond.initialized RJ8, Cond.code yJ8_newLength_cabcc cJ8_newLength_cabcc 4 (some .int), Cond.methodLink RJ8 194 Lib.Math.max.name, Cond.constant RJ8 200 (2147483639), Cond.methodLink RJ8 201 yJ8_hugeLength_7cf53, Cond.static yJ8_hugeLength_7cf53, Cond.code yJ8_hugeLength_7cf53 cJ8_hugeLength_7cf53 3 (some .int), Cond.methodLink RJx4a65c 66 yJ7_copyOf_1904c, Cond.static yJ7_copyOf_1904c, Cond.initialized RJ7, Cond.code yJ7_copyOf_1904c cJ7_copyOf_1904c 2 (some (.array (.object "java/lang/Object"))), Cond.methodLink RJ7 86 ⟨"java/lang/Object", "getClass", "()Ljava/lang/Class;"⟩, Cond.selects "[Ljava/lang/Object;" ⟨"java/lang/Object", "getClass", "()Ljava/lang/Class;"⟩ ⟨"java/lang/Object", "getClass", "()Ljava/lang/Class;"⟩, Cond.instanceMethod ⟨"java/lang/Object", "getClass", "()Ljava/lang/Class;"⟩, Cond.native ⟨"java/lang/Object", "getClass", "()Ljava/lang/Class;"⟩, Cond.methodLink RJ7 300 yJ7_copyOf_6403c, Cond.static yJ7_copyOf_6403c, Cond.code yJ7_copyOf_6403c cJ7_copyOf_6403c 4 (some (.array (.object "java/lang/Object"))), Cond.classLink RJ7 110 "[Ljava/lang/Object;", Cond.classLink RJ7 2 "java/lang/Object", Cond.methodLink RJ7 304 Lib.Math.min.name, Cond.static Lib.Math.min.name, Cond.code Lib.Math.min.name Lib.Math.min.code 2 (some .int)]
def wsJx4a65c_add_9ea2d_r3 : List Cond := [Cond.methodLink RJ7 150 arraycopyName, Cond.native arraycopyName, Cond.static arraycopyName, Cond.initialized "java/lang/System"]
def wsJx4a65c_add_9ea2d : List Cond := .code yJx4a65c_add_9ea2d cJx4a65c_add_9ea2d 2 (some .boolean) :: ((wsJx4a65c_add_9ea2d_r1 ++ (wsJx4a65c_add_9ea2d_r2 ++ wsJx4a65c_add_9ea2d_r3)) ++ wsJx4a65c0)
def wsX5_takeNext_r1 : List Cond := [Cond.fieldLink RX5 18 "TwinFinder$Shelf" "spare" "Ljava/util/ArrayList;", Cond.classLink RX5 36 RX0, Cond.instantiable RX0 7, Cond.initialized RX0, Cond.fieldLink RX5 12 "TwinFinder$Shelf" "here" "Ljava/util/ArrayList;", Cond.classLink RX5 36 "TwinFinder$Document", Cond.fieldLink RX5 28 "TwinFinder$Shelf" "came" "I", Cond.fieldLink RX5 38 "TwinFinder$Document" "number" "I", Cond.methodLink RX5 41 yJx4a65c_isEmpty_aae02, Cond.instanceMethod yJx4a65c_isEmpty_aae02, Cond.selects RJx4a65c yJx4a65c_isEmpty_aae02 yJx4a65c_isEmpty_aae02, Cond.initialized RJx4a65c, Cond.code yJx4a65c_isEmpty_aae02 cJx4a65c_isEmpty_aae02 1 (some .boolean), Cond.fieldLink RJx4a65c 48 "java/util/ArrayList" "size" "I", Cond.methodLink RX5 24 yJx4a65c_size_8abf5, Cond.instanceMethod yJx4a65c_size_8abf5, Cond.selects RJx4a65c yJx4a65c_size_8abf5 yJx4a65c_size_8abf5, Cond.code yJx4a65c_size_8abf5 cJx4a65c_size_8abf5 1 (some .int), Cond.methodLink RX5 45 yX0_init, Cond.instanceMethod yX0_init, Cond.code yX0_init cX0_init 2 none, Cond.methodLink RX0 3 objectInit, Cond.instanceMethod objectInit, Cond.code objectInit ⟨#[0xb1]⟩ 1 none]
def wsX5_takeNext_r2 : List Cond := [Cond.arrayClass .long, Cond.fieldLink RX0 9 "TwinFinder$Document" "set" "[J", Cond.arrayClass .int, Cond.fieldLink RX0 15 "TwinFinder$Document" "numbers" "[I", Cond.fieldLink RX0 19 "TwinFinder$Document" "least" "[I", Cond.fieldLink RX0 22 "TwinFinder$Document" "shared" "[I", Cond.fieldLink RX0 25 "TwinFinder$Document" "slot" "I", Cond.methodLink RX5 48 yJx4a65c_remove_915e3, Cond.instanceMethod yJx4a65c_remove_915e3, Cond.selects RJx4a65c yJx4a65c_remove_915e3 yJx4a65c_remove_915e3, Cond.code yJx4a65c_remove_915e3 cJx4a65c_remove_915e3 4 (some (.object "java/lang/Object")), Cond.fieldLink RJx4a65c 9 "java/util/ArrayList" "elementData" "[Ljava/lang/Object;", Cond.methodLink RJx4a65c 118 yJ15_checkIndex_7cf53, Cond.static yJ15_checkIndex_7cf53, Cond.initialized RJ15, Cond.code yJ15_checkIndex_7cf53 cJ15_checkIndex_7cf53 2 (some .int), Cond.methodLink RJ15 105 yJ3_checkIndex_8e157, Cond.static yJ3_checkIndex_8e157, Cond.initialized RJ3, Cond.code yJ3_checkIndex_8e157 cJ3_checkIndex_8e157 3 (some .int), Cond.methodLink RJx4a65c 144 yJx4a65c_fastRemove_b59b0, Cond.instanceMethod yJx4a65c_fastRemove_b59b0, Cond.selects RJx4a65c yJx4a65c_fastRemove_b59b0 yJx4a65c_fastRemove_b59b0, Cond.code yJx4a65c_fastRemove_b59b0 cJx4a65c_fastRemove_b59b0 4 none]
def wsX5_takeNext_r3 : List Cond := [Cond.fieldLink RJx4a65c 63 "java/util/ArrayList" "modCount" "I", Cond.sameField "java/util/ArrayList" "java/util/AbstractList" "modCount" "I", Cond.methodLink RJx4a65c 112 arraycopyName, Cond.native arraycopyName, Cond.static arraycopyName, Cond.initialized "java/lang/System", Cond.methodLink RX5 51 yJx4a65c_add_9ea2d, Cond.instanceMethod yJx4a65c_add_9ea2d, Cond.selects RJx4a65c yJx4a65c_add_9ea2d yJx4a65c_add_9ea2d, Cond.code yJx4a65c_add_9ea2d cJx4a65c_add_9ea2d 2 (some .boolean), Cond.methodLink RJx4a65c 131 yJx4a65c_add_72be8, Cond.instanceMethod yJx4a65c_add_72be8, Cond.selects RJx4a65c yJx4a65c_add_72be8 yJx4a65c_add_72be8, Cond.code yJx4a65c_add_72be8 cJx4a65c_add_72be8 4 none, Cond.methodLink RJx4a65c 129 yJx4a65c_grow_d5877, Cond.instanceMethod yJx4a65c_grow_d5877, Cond.selects RJx4a65c yJx4a65c_grow_d5877 yJx4a65c_grow_d5877, Cond.code yJx4a65c_grow_d5877 cJx4a65c_grow_d5877 1 (some (.array (.object "java/lang/Object"))), Cond.methodLink RJx4a65c 69 yJx4a65c_grow_92f84, Cond.instanceMethod yJx4a65c_grow_92f84, Cond.selects RJx4a65c yJx4a65c_grow_92f84 yJx4a65c_grow_92f84, Cond.code yJx4a65c_grow_92f84 cJx4a65c_grow_92f84 4 (some (.array (.object "java/lang/Object"))), Cond.fieldLink RJx4a65c 39 "java/util/ArrayList" "DEFAULTCAPACITY_EMPTY_ELEMENTDATA" "[Ljava/lang/Object;", Cond.methodLink RJx4a65c 79 Lib.Math.max.name]
def wsX5_takeNext_r4 : List Cond := [Cond.static Lib.Math.max.name, Cond.initialized "java/lang/Math", Cond.code Lib.Math.max.name Lib.Math.max.code 2 (some .int), Cond.classLink RJx4a65c 7 "java/lang/Object", Cond.methodLink RJx4a65c 73 yJ8_newLength_cabcc, Cond.static yJ8_newLength_cabcc, Cond.initialized RJ8, Cond.code yJ8_newLength_cabcc cJ8_newLength_cabcc 4 (some .int), Cond.methodLink RJ8 194 Lib.Math.max.name, Cond.constant RJ8 200 (2147483639), Cond.methodLink RJ8 201 yJ8_hugeLength_7cf53, Cond.static yJ8_hugeLength_7cf53, Cond.code yJ8_hugeLength_7cf53 cJ8_hugeLength_7cf53 3 (some .int), Cond.methodLink RJx4a65c 66 yJ7_copyOf_1904c, Cond.static yJ7_copyOf_1904c, Cond.initialized RJ7, Cond.code yJ7_copyOf_1904c cJ7_copyOf_1904c 2 (some (.array (.object "java/lang/Object"))), Cond.methodLink RJ7 86 ⟨"java/lang/Object", "getClass", "()Ljava/lang/Class;"⟩, Cond.selects "[Ljava/lang/Object;" ⟨"java/lang/Object", "getClass", "()Ljava/lang/Class;"⟩ ⟨"java/lang/Object", "getClass", "()Ljava/lang/Class;"⟩, Cond.instanceMethod ⟨"java/lang/Object", "getClass", "()Ljava/lang/Class;"⟩, Cond.native ⟨"java/lang/Object", "getClass", "()Ljava/lang/Class;"⟩, Cond.methodLink RJ7 300 yJ7_copyOf_6403c, Cond.static yJ7_copyOf_6403c, Cond.code yJ7_copyOf_6403c cJ7_copyOf_6403c 4 (some (.array (.object "java/lang/Object")))]
def wsX5_takeNext_r5 : List Cond := [Cond.classLink RJ7 110 "[Ljava/lang/Object;", Cond.classLink RJ7 2 "java/lang/Object", Cond.methodLink RJ7 304 Lib.Math.min.name, Cond.static Lib.Math.min.name, Cond.code Lib.Math.min.name Lib.Math.min.code 2 (some .int), Cond.methodLink RJ7 150 arraycopyName]
def wsX5_takeNext : List Cond := .code yX5_takeNext cX5_takeNext 2 (some (.object "TwinFinder$Document")) :: ((wsX5_takeNext_r1 ++ (wsX5_takeNext_r2 ++ (wsX5_takeNext_r3 ++ (wsX5_takeNext_r4 ++ wsX5_takeNext_r5)))) ++ wsX50 ++ wsX00 ++ wsJx4a65c0)
def wsX5_shareWithAll_r1 : List Cond := [Cond.fieldLink RX5 12 "TwinFinder$Shelf" "here" "Ljava/util/ArrayList;", Cond.classLink RX5 36 "TwinFinder$Document", Cond.fieldLink RX5 59 "TwinFinder$Document" "shared" "[I", Cond.fieldLink RX5 63 "TwinFinder$Document" "slot" "I", Cond.methodLink RX5 24 yJx4a65c_size_8abf5, Cond.instanceMethod yJx4a65c_size_8abf5, Cond.selects RJx4a65c yJx4a65c_size_8abf5 yJx4a65c_size_8abf5, Cond.initialized RJx4a65c, Cond.code yJx4a65c_size_8abf5 cJx4a65c_size_8abf5 1 (some .int), Cond.fieldLink RJx4a65c 48 "java/util/ArrayList" "size" "I", Cond.methodLink RX5 32 yJx4a65c_get_915e3, Cond.instanceMethod yJx4a65c_get_915e3, Cond.selects RJx4a65c yJx4a65c_get_915e3 yJx4a65c_get_915e3, Cond.code yJx4a65c_get_915e3 cJx4a65c_get_915e3 2 (some (.object "java/lang/Object")), Cond.methodLink RJx4a65c 118 yJ15_checkIndex_7cf53, Cond.static yJ15_checkIndex_7cf53, Cond.initialized RJ15, Cond.code yJ15_checkIndex_7cf53 cJ15_checkIndex_7cf53 2 (some .int), Cond.methodLink RJ15 105 yJ3_checkIndex_8e157, Cond.static yJ3_checkIndex_8e157, Cond.initialized RJ3, Cond.code yJ3_checkIndex_8e157 cJ3_checkIndex_8e157 3 (some .int), Cond.methodLink RJx4a65c 123 yJx4a65c_elementData_915e3, Cond.instanceMethod yJx4a65c_elementData_915e3]
def wsX5_shareWithAll_r2 : List Cond := [Cond.selects RJx4a65c yJx4a65c_elementData_915e3 yJx4a65c_elementData_915e3, Cond.code yJx4a65c_elementData_915e3 cJx4a65c_elementData_915e3 2 (some (.object "java/lang/Object")), Cond.fieldLink RJx4a65c 9 "java/util/ArrayList" "elementData" "[Ljava/lang/Object;", Cond.methodLink RX5 55 yX0_countShared, Cond.instanceMethod yX0_countShared, Cond.selects RX0 yX0_countShared yX0_countShared, Cond.initialized RX0, Cond.code yX0_countShared cX0_countShared 4 (some .int), Cond.fieldLink RX0 9 "TwinFinder$Document" "set" "[J", Cond.methodLink RX0 32 yJ13_bitCount_95d88, Cond.static yJ13_bitCount_95d88, Cond.initialized RJ13, Cond.code yJ13_bitCount_95d88 cJ13_bitCount_95d88 2 (some .int), Cond.constantLong RJ13 314 (6148914691236517205), Cond.constantLong RJ13 316 (3689348814741910323), Cond.constantLong RJ13 318 (1085102592571150095)]
def wsX5_shareWithAll : List Cond := .code yX5_shareWithAll cX5_shareWithAll 5 none :: ((wsX5_shareWithAll_r1 ++ wsX5_shareWithAll_r2) ++ wsX50 ++ wsX00 ++ wsJx4a65c0)
def wsX5_putAway_r1 : List Cond := [Cond.fieldLink RX5 18 "TwinFinder$Shelf" "spare" "Ljava/util/ArrayList;", Cond.fieldLink RX5 12 "TwinFinder$Shelf" "here" "Ljava/util/ArrayList;", Cond.classLink RX5 36 "TwinFinder$Document", Cond.methodLink RX5 66 yX5_placeOf, Cond.instanceMethod yX5_placeOf, Cond.selects RX5 yX5_placeOf yX5_placeOf, Cond.initialized RX5, Cond.code yX5_placeOf cX5_placeOf 3 (some .int), Cond.fieldLink RX5 38 "TwinFinder$Document" "number" "I", Cond.methodLink RX5 24 yJx4a65c_size_8abf5, Cond.instanceMethod yJx4a65c_size_8abf5, Cond.selects RJx4a65c yJx4a65c_size_8abf5 yJx4a65c_size_8abf5, Cond.initialized RJx4a65c, Cond.code yJx4a65c_size_8abf5 cJx4a65c_size_8abf5 1 (some .int), Cond.fieldLink RJx4a65c 48 "java/util/ArrayList" "size" "I", Cond.methodLink RX5 32 yJx4a65c_get_915e3, Cond.instanceMethod yJx4a65c_get_915e3, Cond.selects RJx4a65c yJx4a65c_get_915e3 yJx4a65c_get_915e3, Cond.code yJx4a65c_get_915e3 cJx4a65c_get_915e3 2 (some (.object "java/lang/Object")), Cond.methodLink RJx4a65c 118 yJ15_checkIndex_7cf53, Cond.static yJ15_checkIndex_7cf53, Cond.initialized RJ15, Cond.code yJ15_checkIndex_7cf53 cJ15_checkIndex_7cf53 2 (some .int), Cond.methodLink RJ15 105 yJ3_checkIndex_8e157]
def wsX5_putAway_r2 : List Cond := [Cond.static yJ3_checkIndex_8e157, Cond.initialized RJ3, Cond.code yJ3_checkIndex_8e157 cJ3_checkIndex_8e157 3 (some .int), Cond.methodLink RJx4a65c 123 yJx4a65c_elementData_915e3, Cond.instanceMethod yJx4a65c_elementData_915e3, Cond.selects RJx4a65c yJx4a65c_elementData_915e3 yJx4a65c_elementData_915e3, Cond.code yJx4a65c_elementData_915e3 cJx4a65c_elementData_915e3 2 (some (.object "java/lang/Object")), Cond.fieldLink RJx4a65c 9 "java/util/ArrayList" "elementData" "[Ljava/lang/Object;", Cond.methodLink RX5 48 yJx4a65c_remove_915e3, Cond.instanceMethod yJx4a65c_remove_915e3, Cond.selects RJx4a65c yJx4a65c_remove_915e3 yJx4a65c_remove_915e3, Cond.code yJx4a65c_remove_915e3 cJx4a65c_remove_915e3 4 (some (.object "java/lang/Object")), Cond.methodLink RJx4a65c 144 yJx4a65c_fastRemove_b59b0, Cond.instanceMethod yJx4a65c_fastRemove_b59b0, Cond.selects RJx4a65c yJx4a65c_fastRemove_b59b0 yJx4a65c_fastRemove_b59b0, Cond.code yJx4a65c_fastRemove_b59b0 cJx4a65c_fastRemove_b59b0 4 none, Cond.fieldLink RJx4a65c 63 "java/util/ArrayList" "modCount" "I", Cond.sameField "java/util/ArrayList" "java/util/AbstractList" "modCount" "I", Cond.methodLink RJx4a65c 112 arraycopyName, Cond.native arraycopyName, Cond.static arraycopyName, Cond.initialized "java/lang/System", Cond.methodLink RX5 51 yJx4a65c_add_9ea2d, Cond.instanceMethod yJx4a65c_add_9ea2d]
def wsX5_putAway_r3 : List Cond := [Cond.selects RJx4a65c yJx4a65c_add_9ea2d yJx4a65c_add_9ea2d, Cond.code yJx4a65c_add_9ea2d cJx4a65c_add_9ea2d 2 (some .boolean), Cond.methodLink RJx4a65c 131 yJx4a65c_add_72be8, Cond.instanceMethod yJx4a65c_add_72be8, Cond.selects RJx4a65c yJx4a65c_add_72be8 yJx4a65c_add_72be8, Cond.code yJx4a65c_add_72be8 cJx4a65c_add_72be8 4 none, Cond.methodLink RJx4a65c 129 yJx4a65c_grow_d5877, Cond.instanceMethod yJx4a65c_grow_d5877, Cond.selects RJx4a65c yJx4a65c_grow_d5877 yJx4a65c_grow_d5877, Cond.code yJx4a65c_grow_d5877 cJx4a65c_grow_d5877 1 (some (.array (.object "java/lang/Object"))), Cond.methodLink RJx4a65c 69 yJx4a65c_grow_92f84, Cond.instanceMethod yJx4a65c_grow_92f84, Cond.selects RJx4a65c yJx4a65c_grow_92f84 yJx4a65c_grow_92f84, Cond.code yJx4a65c_grow_92f84 cJx4a65c_grow_92f84 4 (some (.array (.object "java/lang/Object"))), Cond.fieldLink RJx4a65c 39 "java/util/ArrayList" "DEFAULTCAPACITY_EMPTY_ELEMENTDATA" "[Ljava/lang/Object;", Cond.methodLink RJx4a65c 79 Lib.Math.max.name, Cond.static Lib.Math.max.name, Cond.initialized "java/lang/Math", Cond.code Lib.Math.max.name Lib.Math.max.code 2 (some .int), Cond.classLink RJx4a65c 7 "java/lang/Object", Cond.methodLink RJx4a65c 73 yJ8_newLength_cabcc, Cond.static yJ8_newLength_cabcc, Cond.initialized RJ8, Cond.code yJ8_newLength_cabcc cJ8_newLength_cabcc 4 (some .int)]
def wsX5_putAway_r4 : List Cond := [Cond.methodLink RJ8 194 Lib.Math.max.name, Cond.constant RJ8 200 (2147483639), Cond.methodLink RJ8 201 yJ8_hugeLength_7cf53, Cond.static yJ8_hugeLength_7cf53, Cond.code yJ8_hugeLength_7cf53 cJ8_hugeLength_7cf53 3 (some .int), Cond.methodLink RJx4a65c 66 yJ7_copyOf_1904c, Cond.static yJ7_copyOf_1904c, Cond.initialized RJ7, Cond.code yJ7_copyOf_1904c cJ7_copyOf_1904c 2 (some (.array (.object "java/lang/Object"))), Cond.methodLink RJ7 86 ⟨"java/lang/Object", "getClass", "()Ljava/lang/Class;"⟩, Cond.selects "[Ljava/lang/Object;" ⟨"java/lang/Object", "getClass", "()Ljava/lang/Class;"⟩ ⟨"java/lang/Object", "getClass", "()Ljava/lang/Class;"⟩, Cond.instanceMethod ⟨"java/lang/Object", "getClass", "()Ljava/lang/Class;"⟩, Cond.native ⟨"java/lang/Object", "getClass", "()Ljava/lang/Class;"⟩, Cond.methodLink RJ7 300 yJ7_copyOf_6403c, Cond.static yJ7_copyOf_6403c, Cond.code yJ7_copyOf_6403c cJ7_copyOf_6403c 4 (some (.array (.object "java/lang/Object"))), Cond.classLink RJ7 110 "[Ljava/lang/Object;", Cond.classLink RJ7 2 "java/lang/Object", Cond.methodLink RJ7 304 Lib.Math.min.name, Cond.static Lib.Math.min.name, Cond.code Lib.Math.min.name Lib.Math.min.code 2 (some .int), Cond.methodLink RJ7 150 arraycopyName]
def wsX5_putAway : List Cond := .code yX5_putAway cX5_putAway 3 (some .boolean) :: ((wsX5_putAway_r1 ++ (wsX5_putAway_r2 ++ (wsX5_putAway_r3 ++ wsX5_putAway_r4))) ++ wsX50 ++ wsX00 ++ wsJx4a65c0)
def wsJx4a65c_clear_da8c8 : List Cond := .code yJx4a65c_clear_da8c8 cJx4a65c_clear_da8c8 4 none :: ([.fieldLink RJx4a65c 63 "java/util/ArrayList" "modCount" "I", .sameField "java/util/ArrayList" "java/util/AbstractList" "modCount" "I", .fieldLink RJx4a65c 9 "java/util/ArrayList" "elementData" "[Ljava/lang/Object;", .fieldLink RJx4a65c 48 "java/util/ArrayList" "size" "I"] ++ wsJx4a65c0)
def wsX5_putAllAway_r1 : List Cond := [Cond.fieldLink RX5 12 "TwinFinder$Shelf" "here" "Ljava/util/ArrayList;", Cond.fieldLink RX5 18 "TwinFinder$Shelf" "spare" "Ljava/util/ArrayList;", Cond.classLink RX5 36 "TwinFinder$Document", Cond.fieldLink RX5 28 "TwinFinder$Shelf" "came" "I", Cond.methodLink RX5 24 yJx4a65c_size_8abf5, Cond.instanceMethod yJx4a65c_size_8abf5, Cond.selects RJx4a65c yJx4a65c_size_8abf5 yJx4a65c_size_8abf5, Cond.initialized RJx4a65c, Cond.code yJx4a65c_size_8abf5 cJx4a65c_size_8abf5 1 (some .int), Cond.fieldLink RJx4a65c 48 "java/util/ArrayList" "size" "I", Cond.methodLink RX5 32 yJx4a65c_get_915e3, Cond.instanceMethod yJx4a65c_get_915e3, Cond.selects RJx4a65c yJx4a65c_get_915e3 yJx4a65c_get_915e3, Cond.code yJx4a65c_get_915e3 cJx4a65c_get_915e3 2 (some (.object "java/lang/Object")), Cond.methodLink RJx4a65c 118 yJ15_checkIndex_7cf53, Cond.static yJ15_checkIndex_7cf53, Cond.initialized RJ15, Cond.code yJ15_checkIndex_7cf53 cJ15_checkIndex_7cf53 2 (some .int), Cond.methodLink RJ15 105 yJ3_checkIndex_8e157, Cond.static yJ3_checkIndex_8e157, Cond.initialized RJ3, Cond.code yJ3_checkIndex_8e157 cJ3_checkIndex_8e157 3 (some .int), Cond.methodLink RJx4a65c 123 yJx4a65c_elementData_915e3, Cond.instanceMethod yJx4a65c_elementData_915e3]
def wsX5_putAllAway_r2 : List Cond := [Cond.selects RJx4a65c yJx4a65c_elementData_915e3 yJx4a65c_elementData_915e3, Cond.code yJx4a65c_elementData_915e3 cJx4a65c_elementData_915e3 2 (some (.object "java/lang/Object")), Cond.fieldLink RJx4a65c 9 "java/util/ArrayList" "elementData" "[Ljava/lang/Object;", Cond.methodLink RX5 51 yJx4a65c_add_9ea2d, Cond.instanceMethod yJx4a65c_add_9ea2d, Cond.selects RJx4a65c yJx4a65c_add_9ea2d yJx4a65c_add_9ea2d, Cond.code yJx4a65c_add_9ea2d cJx4a65c_add_9ea2d 2 (some .boolean), Cond.fieldLink RJx4a65c 63 "java/util/ArrayList" "modCount" "I", Cond.sameField "java/util/ArrayList" "java/util/AbstractList" "modCount" "I", Cond.methodLink RJx4a65c 131 yJx4a65c_add_72be8, Cond.instanceMethod yJx4a65c_add_72be8, Cond.selects RJx4a65c yJx4a65c_add_72be8 yJx4a65c_add_72be8, Cond.code yJx4a65c_add_72be8 cJx4a65c_add_72be8 4 none, Cond.methodLink RJx4a65c 129 yJx4a65c_grow_d5877, Cond.instanceMethod yJx4a65c_grow_d5877, Cond.selects RJx4a65c yJx4a65c_grow_d5877 yJx4a65c_grow_d5877, Cond.code yJx4a65c_grow_d5877 cJx4a65c_grow_d5877 1 (some (.array (.object "java/lang/Object"))), Cond.methodLink RJx4a65c 69 yJx4a65c_grow_92f84, Cond.instanceMethod yJx4a65c_grow_92f84, Cond.selects RJx4a65c yJx4a65c_grow_92f84 yJx4a65c_grow_92f84, Cond.code yJx4a65c_grow_92f84 cJx4a65c_grow_92f84 4 (some (.array (.object "java/lang/Object"))), Cond.fieldLink RJx4a65c 39 "java/util/ArrayList" "DEFAULTCAPACITY_EMPTY_ELEMENTDATA" "[Ljava/lang/Object;", Cond.methodLink RJx4a65c 79 Lib.Math.max.name, Cond.static Lib.Math.max.name]
def wsX5_putAllAway_r3 : List Cond := [Cond.initialized "java/lang/Math", Cond.code Lib.Math.max.name Lib.Math.max.code 2 (some .int), Cond.classLink RJx4a65c 7 "java/lang/Object", Cond.methodLink RJx4a65c 73 yJ8_newLength_cabcc, Cond.static yJ8_newLength_cabcc, Cond.initialized RJ8, Cond.code yJ8_newLength_cabcc cJ8_newLength_cabcc 4 (some .int), Cond.methodLink RJ8 194 Lib.Math.max.name, Cond.constant RJ8 200 (2147483639), Cond.methodLink RJ8 201 yJ8_hugeLength_7cf53, Cond.static yJ8_hugeLength_7cf53, Cond.code yJ8_hugeLength_7cf53 cJ8_hugeLength_7cf53 3 (some .int), Cond.methodLink RJx4a65c 66 yJ7_copyOf_1904c, Cond.static yJ7_copyOf_1904c, Cond.initialized RJ7, Cond.code yJ7_copyOf_1904c cJ7_copyOf_1904c 2 (some (.array (.object "java/lang/Object"))), Cond.methodLink RJ7 86 ⟨"java/lang/Object", "getClass", "()Ljava/lang/Class;"⟩, Cond.selects "[Ljava/lang/Object;" ⟨"java/lang/Object", "getClass", "()Ljava/lang/Class;"⟩ ⟨"java/lang/Object", "getClass", "()Ljava/lang/Class;"⟩, Cond.instanceMethod ⟨"java/lang/Object", "getClass", "()Ljava/lang/Class;"⟩, Cond.native ⟨"java/lang/Object", "getClass", "()Ljava/lang/Class;"⟩, Cond.methodLink RJ7 300 yJ7_copyOf_6403c, Cond.static yJ7_copyOf_6403c, Cond.code yJ7_copyOf_6403c cJ7_copyOf_6403c 4 (some (.array (.object "java/lang/Object"))), Cond.classLink RJ7 110 "[Ljava/lang/Object;"]
def wsX5_putAllAway_r4 : List Cond := [Cond.classLink RJ7 2 "java/lang/Object", Cond.methodLink RJ7 304 Lib.Math.min.name, Cond.static Lib.Math.min.name, Cond.code Lib.Math.min.name Lib.Math.min.code 2 (some .int), Cond.methodLink RJ7 150 arraycopyName, Cond.native arraycopyName, Cond.static arraycopyName, Cond.initialized "java/lang/System", Cond.methodLink RX5 70 yJx4a65c_clear_da8c8, Cond.instanceMethod yJx4a65c_clear_da8c8, Cond.selects RJx4a65c yJx4a65c_clear_da8c8 yJx4a65c_clear_da8c8, Cond.code yJx4a65c_clear_da8c8 cJx4a65c_clear_da8c8 4 none]
def wsX5_putAllAway : List Cond := .code yX5_putAllAway cX5_putAllAway 3 (some .int) :: ((wsX5_putAllAway_r1 ++ (wsX5_putAllAway_r2 ++ (wsX5_putAllAway_r3 ++ wsX5_putAllAway_r4))) ++ wsX50 ++ wsJx4a65c0)
def wsX5_rankOf_r1 : List Cond := [Cond.fieldLink RX5 21 "TwinFinder$Shelf" "ranked" "Ljava/util/ArrayList;", Cond.classLink RX5 36 "TwinFinder$Document", Cond.methodLink RX5 24 yJx4a65c_size_8abf5, Cond.instanceMethod yJx4a65c_size_8abf5, Cond.selects RJx4a65c yJx4a65c_size_8abf5 yJx4a65c_size_8abf5, Cond.initialized RJx4a65c, Cond.code yJx4a65c_size_8abf5 cJx4a65c_size_8abf5 1 (some .int), Cond.fieldLink RJx4a65c 48 "java/util/ArrayList" "size" "I", Cond.methodLink RX5 32 yJx4a65c_get_915e3, Cond.instanceMethod yJx4a65c_get_915e3, Cond.selects RJx4a65c yJx4a65c_get_915e3 yJx4a65c_get_915e3, Cond.code yJx4a65c_get_915e3 cJx4a65c_get_915e3 2 (some (.object "java/lang/Object")), Cond.methodLink RJx4a65c 118 yJ15_checkIndex_7cf53, Cond.static yJ15_checkIndex_7cf53, Cond.initialized RJ15, Cond.code yJ15_checkIndex_7cf53 cJ15_checkIndex_7cf53 2 (some .int), Cond.methodLink RJ15 105 yJ3_checkIndex_8e157, Cond.static yJ3_checkIndex_8e157, Cond.initialized RJ3, Cond.code yJ3_checkIndex_8e157 cJ3_checkIndex_8e157 3 (some .int), Cond.methodLink RJx4a65c 123 yJx4a65c_elementData_915e3, Cond.instanceMethod yJx4a65c_elementData_915e3, Cond.selects RJx4a65c yJx4a65c_elementData_915e3 yJx4a65c_elementData_915e3, Cond.code yJx4a65c_elementData_915e3 cJx4a65c_elementData_915e3 2 (some (.object "java/lang/Object"))]
def wsX5_rankOf_r2 : List Cond := [Cond.fieldLink RJx4a65c 9 "java/util/ArrayList" "elementData" "[Ljava/lang/Object;", Cond.methodLink RX5 80 yX2_isNearer, Cond.instanceMethod yX2_isNearer, Cond.selects RX2 yX2_isNearer yX2_isNearer, Cond.initialized RX2, Cond.code yX2_isNearer cX2_isNearer 4 (some .boolean), Cond.methodLink RX2 57 Lib.Math.max.name, Cond.static Lib.Math.max.name, Cond.initialized "java/lang/Math", Cond.code Lib.Math.max.name Lib.Math.max.code 2 (some .int), Cond.methodLink RX2 36 yX2_common, Cond.instanceMethod yX2_common, Cond.selects RX2 yX2_common yX2_common, Cond.code yX2_common cX2_common 3 (some .int), Cond.fieldLink RX2 24 "TwinFinder$Document" "shared" "[I", Cond.fieldLink RX2 30 "TwinFinder$Document" "slot" "I", Cond.methodLink RX2 54 yX2_all, Cond.instanceMethod yX2_all, Cond.selects RX2 yX2_all yX2_all, Cond.code yX2_all cX2_all 3 (some .int), Cond.fieldLink RX2 33 "TwinFinder$Document" "size" "I"]
def wsX5_rankOf : List Cond := .code yX5_rankOf cX5_rankOf 5 (some .int) :: ((wsX5_rankOf_r1 ++ wsX5_rankOf_r2) ++ wsX50 ++ wsJx4a65c0 ++ wsX00)
def wsJx4a65c_rangeCheckForAdd_d00df : List Cond := .code yJx4a65c_rangeCheckForAdd_d00df cJx4a65c_rangeCheckForAdd_d00df 2 none :: ([.fieldLink RJx4a65c 48 "java/util/ArrayList" "size" "I"] ++ wsJx4a65c0)
def wsJx4a65c_add_7a177_r1 : List Cond := [Cond.fieldLink RJx4a65c 63 "java/util/ArrayList" "modCount" "I", Cond.sameField "java/util/ArrayList" "java/util/AbstractList" "modCount" "I", Cond.fieldLink RJx4a65c 48 "java/util/ArrayList" "size" "I", Cond.fieldLink RJx4a65c 9 "java/util/ArrayList" "elementData" "[Ljava/lang/Object;", Cond.methodLink RJx4a65c 112 arraycopyName, Cond.native arraycopyName, Cond.static arraycopyName, Cond.initialized "java/lang/System", Cond.methodLink RJx4a65c 135 yJx4a65c_rangeCheckForAdd_d00df, Cond.instanceMethod yJx4a65c_rangeCheckForAdd_d00df, Cond.selects RJx4a65c yJx4a65c_rangeCheckForAdd_d00df yJx4a65c_rangeCheckForAdd_d00df, Cond.initialized RJx4a65c, Cond.code yJx4a65c_rangeCheckForAdd_d00df cJx4a65c_rangeCheckForAdd_d00df 2 none, Cond.methodLink RJx4a65c 129 yJx4a65c_grow_d5877, Cond.instanceMethod yJx4a65c_grow_d5877, Cond.selects RJx4a65c yJx4a65c_grow_d5877 yJx4a65c_grow_d5877, Cond.code yJx4a65c_grow_d5877 cJx4a65c_grow_d5877 1 (some (.array (.object "java/lang/Object"))), Cond.methodLink RJx4a65c 69 yJx4a65c_grow_92f84, Cond.instanceMethod yJx4a65c_grow_92f84, Cond.selects RJx4a65c yJx4a65c_grow_92f84 yJx4a65c_grow_92f84, Cond.code yJx4a65c_grow_92f84 cJx4a65c_grow_92f84 4 (some (.array (.object "java/lang/Object"))), Cond.fieldLink RJx4a65c 39 "java/util/ArrayList" "DEFAULTCAPACITY_EMPTY_ELEMENTDATA" "[Ljava/lang/Object;", Cond.methodLink RJx4a65c 79 Lib.Math.max.name, Cond.static Lib.Math.max.name]
def wsJx4a65c_add_7a177_r2 : List Cond := [Cond.initialized "java/lang/Math", Cond.code Lib.Math.max.name Lib.Math.max.code 2 (some .int), Cond.classLink RJx4a65c 7 "java/lang/Object", Cond.methodLink RJx4a65c 73 yJ8_newLength_cabcc, Cond.static yJ8_newLength_cabcc, Cond.initialized RJ8, Cond.code yJ8_newLength_cabcc cJ8_newLength_cabcc 4 (some .int), Cond.methodLink RJ8 194 Lib.Math.max.name, Cond.constant RJ8 200 (2147483639), Cond.methodLink RJ8 201 yJ8_hugeLength_7cf53, Cond.static yJ8_hugeLength_7cf53, Cond.code yJ8_hugeLength_7cf53 cJ8_hugeLength_7cf53 3 (some .int), Cond.methodLink RJx4a65c 66 yJ7_copyOf_1904c, Cond.static yJ7_copyOf_1904c, Cond.initialized RJ7, Cond.code yJ7_copyOf_1904c cJ7_copyOf_1904c 2 (some (.array (.object "java/lang/Object"))), Cond.methodLink RJ7 86 ⟨"java/lang/Object", "getClass", "()Ljava/lang/Class;"⟩, Cond.selects "[Ljava/lang/Object;" ⟨"java/lang/Object", "getClass", "()Ljava/lang/Class;"⟩ ⟨"java/lang/Object", "getClass", "()Ljava/lang/Class;"⟩, Cond.instanceMethod ⟨"java/lang/Object", "getClass", "()Ljava/lang/Class;"⟩, Cond.native ⟨"java/lang/Object", "getClass", "()Ljava/lang/Class;"⟩, Cond.methodLink RJ7 300 yJ7_copyOf_6403c, Cond.static yJ7_copyOf_6403c, Cond.code yJ7_copyOf_6403c cJ7_copyOf_6403c 4 (some (.array (.object "java/lang/Object"))), Cond.classLink RJ7 110 "[Ljava/lang/Object;"]
def wsJx4a65c_add_7a177_r3 : List Cond := [Cond.classLink RJ7 2 "java/lang/Object", Cond.methodLink RJ7 304 Lib.Math.min.name, Cond.static Lib.Math.min.name, Cond.code Lib.Math.min.name Lib.Math.min.code 2 (some .int), Cond.methodLink RJ7 150 arraycopyName]
def wsJx4a65c_add_7a177 : List Cond := .code yJx4a65c_add_7a177 cJx4a65c_add_7a177 5 none :: ((wsJx4a65c_add_7a177_r1 ++ (wsJx4a65c_add_7a177_r2 ++ wsJx4a65c_add_7a177_r3)) ++ wsJx4a65c0)
def wsX5_othersByNearness_r1 : List Cond := [Cond.fieldLink RX5 21 "TwinFinder$Shelf" "ranked" "Ljava/util/ArrayList;", Cond.fieldLink RX5 12 "TwinFinder$Shelf" "here" "Ljava/util/ArrayList;", Cond.classLink RX5 36 "TwinFinder$Document", Cond.methodLink RX5 70 yJx4a65c_clear_da8c8, Cond.instanceMethod yJx4a65c_clear_da8c8, Cond.selects RJx4a65c yJx4a65c_clear_da8c8 yJx4a65c_clear_da8c8, Cond.initialized RJx4a65c, Cond.code yJx4a65c_clear_da8c8 cJx4a65c_clear_da8c8 4 none, Cond.fieldLink RJx4a65c 63 "java/util/ArrayList" "modCount" "I", Cond.sameField "java/util/ArrayList" "java/util/AbstractList" "modCount" "I", Cond.fieldLink RJx4a65c 9 "java/util/ArrayList" "elementData" "[Ljava/lang/Object;", Cond.fieldLink RJx4a65c 48 "java/util/ArrayList" "size" "I", Cond.methodLink RX5 24 yJx4a65c_size_8abf5, Cond.instanceMethod yJx4a65c_size_8abf5, Cond.selects RJx4a65c yJx4a65c_size_8abf5 yJx4a65c_size_8abf5, Cond.code yJx4a65c_size_8abf5 cJx4a65c_size_8abf5 1 (some .int), Cond.methodLink RX5 32 yJx4a65c_get_915e3, Cond.instanceMethod yJx4a65c_get_915e3, Cond.selects RJx4a65c yJx4a65c_get_915e3 yJx4a65c_get_915e3, Cond.code yJx4a65c_get_915e3 cJx4a65c_get_915e3 2 (some (.object "java/lang/Object")), Cond.methodLink RJx4a65c 118 yJ15_checkIndex_7cf53, Cond.static yJ15_checkIndex_7cf53, Cond.initialized RJ15, Cond.code yJ15_checkIndex_7cf53 cJ15_checkIndex_7cf53 2 (some .int)]
def wsX5_othersByNearness_r2 : List Cond := [Cond.methodLink RJ15 105 yJ3_checkIndex_8e157, Cond.static yJ3_checkIndex_8e157, Cond.initialized RJ3, Cond.code yJ3_checkIndex_8e157 cJ3_checkIndex_8e157 3 (some .int), Cond.methodLink RJx4a65c 123 yJx4a65c_elementData_915e3, Cond.instanceMethod yJx4a65c_elementData_915e3, Cond.selects RJx4a65c yJx4a65c_elementData_915e3 yJx4a65c_elementData_915e3, Cond.code yJx4a65c_elementData_915e3 cJx4a65c_elementData_915e3 2 (some (.object "java/lang/Object")), Cond.methodLink RX5 73 yX5_rankOf, Cond.instanceMethod yX5_rankOf, Cond.selects RX5 yX5_rankOf yX5_rankOf, Cond.initialized RX5, Cond.code yX5_rankOf cX5_rankOf 5 (some .int), Cond.methodLink RX5 80 yX2_isNearer, Cond.instanceMethod yX2_isNearer, Cond.selects RX2 yX2_isNearer yX2_isNearer, Cond.initialized RX2, Cond.code yX2_isNearer cX2_isNearer 4 (some .boolean), Cond.methodLink RX2 57 Lib.Math.max.name, Cond.static Lib.Math.max.name, Cond.initialized "java/lang/Math", Cond.code Lib.Math.max.name Lib.Math.max.code 2 (some .int), Cond.methodLink RX2 36 yX2_common, Cond.instanceMethod yX2_common]
def wsX5_othersByNearness_r3 : List Cond := [Cond.selects RX2 yX2_common yX2_common, Cond.code yX2_common cX2_common 3 (some .int), Cond.fieldLink RX2 24 "TwinFinder$Document" "shared" "[I", Cond.fieldLink RX2 30 "TwinFinder$Document" "slot" "I", Cond.methodLink RX2 54 yX2_all, Cond.instanceMethod yX2_all, Cond.selects RX2 yX2_all yX2_all, Cond.code yX2_all cX2_all 3 (some .int), Cond.fieldLink RX2 33 "TwinFinder$Document" "size" "I", Cond.methodLink RX5 77 yJx4a65c_add_7a177, Cond.instanceMethod yJx4a65c_add_7a177, Cond.selects RJx4a65c yJx4a65c_add_7a177 yJx4a65c_add_7a177, Cond.code yJx4a65c_add_7a177 cJx4a65c_add_7a177 5 none, Cond.methodLink RJx4a65c 112 arraycopyName, Cond.native arraycopyName, Cond.static arraycopyName, Cond.initialized "java/lang/System", Cond.methodLink RJx4a65c 135 yJx4a65c_rangeCheckForAdd_d00df, Cond.instanceMethod yJx4a65c_rangeCheckForAdd_d00df, Cond.selects RJx4a65c yJx4a65c_rangeCheckForAdd_d00df yJx4a65c_rangeCheckForAdd_d00df, Cond.code yJx4a65c_rangeCheckForAdd_d00df cJx4a65c_rangeCheckForAdd_d00df 2 none, Cond.methodLink RJx4a65c 129 yJx4a65c_grow_d5877, Cond.instanceMethod yJx4a65c_grow_d5877, Cond.selects RJx4a65c yJx4a65c_grow_d5877 yJx4a65c_grow_d5877]
def wsX5_othersByNearness_r4 : List Cond := [Cond.code yJx4a65c_grow_d5877 cJx4a65c_grow_d5877 1 (some (.array (.object "java/lang/Object"))), Cond.methodLink RJx4a65c 69 yJx4a65c_grow_92f84, Cond.instanceMethod yJx4a65c_grow_92f84, Cond.selects RJx4a65c yJx4a65c_grow_92f84 yJx4a65c_grow_92f84, Cond.code yJx4a65c_grow_92f84 cJx4a65c_grow_92f84 4 (some (.array (.object "java/lang/Object"))), Cond.fieldLink RJx4a65c 39 "java/util/ArrayList" "DEFAULTCAPACITY_EMPTY_ELEMENTDATA" "[Ljava/lang/Object;", Cond.methodLink RJx4a65c 79 Lib.Math.max.name, Cond.classLink RJx4a65c 7 "java/lang/Object", Cond.methodLink RJx4a65c 73 yJ8_newLength_cabcc, Cond.static yJ8_newLength_cabcc, Cond.initialized RJ8, Cond.code yJ8_newLength_cabcc cJ8_newLength_cabcc 4 (some .int), Cond.methodLink RJ8 194 Lib.Math.max.name, Cond.constant RJ8 200 (2147483639), Cond.methodLink RJ8 201 yJ8_hugeLength_7cf53, Cond.static yJ8_hugeLength_7cf53, Cond.code yJ8_hugeLength_7cf53 cJ8_hugeLength_7cf53 3 (some .int), Cond.methodLink RJx4a65c 66 yJ7_copyOf_1904c, Cond.static yJ7_copyOf_1904c, Cond.initialized RJ7, Cond.code yJ7_copyOf_1904c cJ7_copyOf_1904c 2 (some (.array (.object "java/lang/Object"))), Cond.methodLink RJ7 86 ⟨"java/lang/Object", "getClass", "()Ljava/lang/Class;"⟩, Cond.selects "[Ljava/lang/Object;" ⟨"java/lang/Object", "getClass", "()Ljava/lang/Class;"⟩ ⟨"java/lang/Object", "getClass", "()Ljava/lang/Class;"⟩, Cond.instanceMethod ⟨"java/lang/Object", "getClass", "()Ljava/lang/Class;"⟩]
def wsX5_othersByNearness_r5 : List Cond := [Cond.native ⟨"java/lang/Object", "getClass", "()Ljava/lang/Class;"⟩, Cond.methodLink RJ7 300 yJ7_copyOf_6403c, Cond.static yJ7_copyOf_6403c, Cond.code yJ7_copyOf_6403c cJ7_copyOf_6403c 4 (some (.array (.object "java/lang/Object"))), Cond.classLink RJ7 110 "[Ljava/lang/Object;", Cond.classLink RJ7 2 "java/lang/Object", Cond.methodLink RJ7 304 Lib.Math.min.name, Cond.static Lib.Math.min.name, Cond.code Lib.Math.min.name Lib.Math.min.code 2 (some .int), Cond.methodLink RJ7 150 arraycopyName]
def wsX5_othersByNearness : List Cond := .code yX5_othersByNearness cX5_othersByNearness 5 (some (.object "java/util/ArrayList")) :: ((wsX5_othersByNearness_r1 ++ (wsX5_othersByNearness_r2 ++ (wsX5_othersByNearness_r3 ++ (wsX5_othersByNearness_r4 ++ wsX5_othersByNearness_r5)))) ++ wsX50 ++ wsJx4a65c0 ++ wsX00)
def wsX6_init : List Cond := .code yX6_init cX6_init 1 none :: ([.methodLink RX6 3 objectInit, .instanceMethod objectInit, .code objectInit ⟨#[0xb1]⟩ 1 none, .constant RX6 9 (50000), .arrayClass .byte, .fieldLink RX6 10 "TwinFinder$Store" "letters" "[B", .arrayClass .int, .fieldLink RX6 16 "TwinFinder$Store" "begin" "[I", .fieldLink RX6 20 "TwinFinder$Store" "seatOf" "[I", .fieldLink RX6 23 "TwinFinder$Store" "seats" "[I"] ++ wsX60)
def wsX6_bytesUsed : List Cond := .code yX6_bytesUsed cX6_bytesUsed 1 (some .int) :: ([.fieldLink RX6 16 "TwinFinder$Store" "begin" "[I", .fieldLink RX6 26 "TwinFinder$Store" "given" "I"] ++ wsX60)
def wsX6_byteOf : List Cond := .code yX6_byteOf cX6_byteOf 3 (some .int) :: ([.fieldLink RX6 26 "TwinFinder$Store" "given" "I", .fieldLink RX6 16 "TwinFinder$Store" "begin" "[I", .fieldLink RX6 10 "TwinFinder$Store" "letters" "[B"] ++ wsX60)
def wsX6_firstSeat : List Cond := .code yX6_firstSeat cX6_firstSeat 5 (some .int) :: ([])
def wsX6_enter : List Cond := .code yX6_enter cX6_enter 7 (some .int) :: ([.fieldLink RX6 16 "TwinFinder$Store" "begin" "[I", .fieldLink RX6 26 "TwinFinder$Store" "given" "I", .constant RX6 9 (50000), .fieldLink RX6 10 "TwinFinder$Store" "letters" "[B", .fieldLink RX6 23 "TwinFinder$Store" "seats" "[I", .fieldLink RX6 20 "TwinFinder$Store" "seatOf" "[I"] ++ wsX60)
def wsX6_isThere : List Cond := .code yX6_isThere cX6_isThere 7 (some .boolean) :: ([.fieldLink RX6 16 "TwinFinder$Store" "begin" "[I", .fieldLink RX6 10 "TwinFinder$Store" "letters" "[B"] ++ wsX60)
def wsX6_numberOf : List Cond := .code yX6_numberOf cX6_numberOf 7 (some .int) :: ([.fieldLink RX6 23 "TwinFinder$Store" "seats" "[I", .methodLink RX6 30 yX6_firstSeat, .static yX6_firstSeat, .initialized RX6, .code yX6_firstSeat cX6_firstSeat 5 (some .int), .methodLink RX6 34 yX6_enter, .instanceMethod yX6_enter, .selects RX6 yX6_enter yX6_enter, .code yX6_enter cX6_enter 7 (some .int), .fieldLink RX6 16 "TwinFinder$Store" "begin" "[I", .fieldLink RX6 26 "TwinFinder$Store" "given" "I", .constant RX6 9 (50000), .fieldLink RX6 10 "TwinFinder$Store" "letters" "[B", .fieldLink RX6 20 "TwinFinder$Store" "seatOf" "[I", .methodLink RX6 38 yX6_isThere, .instanceMethod yX6_isThere, .selects RX6 yX6_isThere yX6_isThere, .code yX6_isThere cX6_isThere 7 (some .boolean)] ++ wsX60)
def wsX6_forgetFrom : List Cond := .code yX6_forgetFrom cX6_forgetFrom 3 none :: ([.fieldLink RX6 26 "TwinFinder$Store" "given" "I", .fieldLink RX6 23 "TwinFinder$Store" "seats" "[I", .fieldLink RX6 20 "TwinFinder$Store" "seatOf" "[I"] ++ wsX60)
def wsX7_init : List Cond := .code yX7_init cX7_init 1 none :: ([.methodLink RX7 3 objectInit, .instanceMethod objectInit, .code objectInit ⟨#[0xb1]⟩ 1 none, .arrayClass .byte, .fieldLink RX7 9 "TwinFinder$Tape" "bytes" "[B", .fieldLink RX7 15 "TwinFinder$Tape" "plain" "[B", .arrayClass .int, .fieldLink RX7 18 "TwinFinder$Tape" "start" "[I"] ++ wsX70)
def wsX7_putFour : List Cond := .code yX7_putFour cX7_putFour 3 none :: ([.fieldLink RX7 22 "TwinFinder$Tape" "length" "I", .fieldLink RX7 9 "TwinFinder$Tape" "bytes" "[B"] ++ wsX70)
def wsX7_cutTo : List Cond := .code yX7_cutTo cX7_cutTo 2 (some .boolean) :: ([.fieldLink RX7 22 "TwinFinder$Tape" "length" "I"] ++ wsX70)
def wsX7_plainSign : List Cond := .code yX7_plainSign cX7_plainSign 2 (some .int) :: ([])
def wsX7_putPlain : List Cond := .code yX7_putPlain cX7_putPlain 2 none :: ([.fieldLink RX7 26 "TwinFinder$Tape" "plainLength" "I", .fieldLink RX7 15 "TwinFinder$Tape" "plain" "[B"] ++ wsX70)
def wsX7_makePlain : List Cond := .code yX7_makePlain cX7_makePlain 4 (some .int) :: ([.fieldLink RX7 26 "TwinFinder$Tape" "plainLength" "I", .fieldLink RX7 22 "TwinFinder$Tape" "length" "I", .fieldLink RX7 9 "TwinFinder$Tape" "bytes" "[B", .methodLink RX7 29 yX7_plainSign, .static yX7_plainSign, .initialized RX7, .code yX7_plainSign cX7_plainSign 2 (some .int), .methodLink RX7 33 yX7_putPlain, .instanceMethod yX7_putPlain, .selects RX7 yX7_putPlain yX7_putPlain, .code yX7_putPlain cX7_putPlain 2 none, .fieldLink RX7 15 "TwinFinder$Tape" "plain" "[B"] ++ wsX70)
def wsX7_markPieces : List Cond := .code yX7_markPieces cX7_markPieces 3 none :: ([.fieldLink RX7 37 "TwinFinder$Tape" "gap" "I", .fieldLink RX7 40 "TwinFinder$Tape" "pieces" "I", .fieldLink RX7 26 "TwinFinder$Tape" "plainLength" "I", .fieldLink RX7 15 "TwinFinder$Tape" "plain" "[B", .fieldLink RX7 18 "TwinFinder$Tape" "start" "[I"] ++ wsX70)
def wsX8_init_r1 : List Cond := [Cond.methodLink RX8 3 objectInit, Cond.instanceMethod objectInit, Cond.code objectInit ⟨#[0xb1]⟩ 1 none, Cond.classLink RX8 9 RX7, Cond.instantiable RX7 7, Cond.initialized RX7, Cond.fieldLink RX8 12 "TwinFinder" "tape" "LTwinFinder$Tape;", Cond.classLink RX8 16 RX6, Cond.instantiable RX6 5, Cond.initialized RX6, Cond.fieldLink RX8 19 "TwinFinder" "store" "LTwinFinder$Store;", Cond.classLink RX8 23 RX4, Cond.instantiable RX4 7, Cond.initialized RX4, Cond.fieldLink RX8 26 "TwinFinder" "permutations" "LTwinFinder$Permutations;", Cond.classLink RX8 30 RX5, Cond.instantiable RX5 4, Cond.initialized RX5, Cond.fieldLink RX8 33 "TwinFinder" "shelf" "LTwinFinder$Shelf;", Cond.classLink RX8 37 RX2, Cond.instantiable RX2 4, Cond.initialized RX2, Cond.fieldLink RX8 40 "TwinFinder" "measure" "LTwinFinder$Measure;", Cond.classLink RX8 44 RX1]
def wsX8_init_r2 : List Cond := [Cond.instantiable RX1 8, Cond.initialized RX1, Cond.fieldLink RX8 47 "TwinFinder" "kin" "LTwinFinder$Kin;", Cond.arrayClass .int, Cond.fieldLink RX8 51 "TwinFinder" "along" "[I", Cond.fieldLink RX8 55 "TwinFinder" "sortAtHand" "I", Cond.fieldLink RX8 59 "TwinFinder" "rowAtHand" "I", Cond.instanceMethod yX7_init, Cond.code yX7_init cX7_init 1 none, Cond.methodLink RX7 3 objectInit, Cond.arrayClass .byte, Cond.fieldLink RX7 9 "TwinFinder$Tape" "bytes" "[B", Cond.fieldLink RX7 15 "TwinFinder$Tape" "plain" "[B", Cond.fieldLink RX7 18 "TwinFinder$Tape" "start" "[I", Cond.instanceMethod yX6_init, Cond.code yX6_init cX6_init 1 none, Cond.methodLink RX6 3 objectInit, Cond.constant RX6 9 (50000), Cond.fieldLink RX6 10 "TwinFinder$Store" "letters" "[B", Cond.fieldLink RX6 16 "TwinFinder$Store" "begin" "[I", Cond.fieldLink RX6 20 "TwinFinder$Store" "seatOf" "[I", Cond.fieldLink RX6 23 "TwinFinder$Store" "seats" "[I", Cond.methodLink RX8 25 yX4_init, Cond.instanceMethod yX4_init]
def wsX8_init_r3 : List Cond := [Cond.code yX4_init cX4_init 2 none, Cond.methodLink RX4 3 objectInit, Cond.fieldLink RX4 9 "TwinFinder$Permutations" "factor" "[I", Cond.fieldLink RX4 15 "TwinFinder$Permutations" "summand" "[I", Cond.fieldLink RX4 18 "TwinFinder$Permutations" "exchanges" "[I", Cond.fieldLink RX4 21 "TwinFinder$Permutations" "movedKey" "[I", Cond.fieldLink RX4 24 "TwinFinder$Permutations" "movedImage" "[I", Cond.instanceMethod yX5_init, Cond.code yX5_init cX5_init 1 none, Cond.methodLink RX5 3 objectInit, Cond.classLink RX5 9 RJx4a65c, Cond.instantiable RJx4a65c 3, Cond.initialized RJx4a65c, Cond.fieldLink RX5 12 "TwinFinder$Shelf" "here" "Ljava/util/ArrayList;", Cond.fieldLink RX5 18 "TwinFinder$Shelf" "spare" "Ljava/util/ArrayList;", Cond.fieldLink RX5 21 "TwinFinder$Shelf" "ranked" "Ljava/util/ArrayList;", Cond.methodLink RX5 11 yJx4a65c_init_da8c8, Cond.instanceMethod yJx4a65c_init_da8c8, Cond.code yJx4a65c_init_da8c8 cJx4a65c_init_da8c8 1 none, Cond.fieldLink RJx4a65c 39 "java/util/ArrayList" "DEFAULTCAPACITY_EMPTY_ELEMENTDATA" "[Ljava/lang/Object;", Cond.fieldLink RJx4a65c 9 "java/util/ArrayList" "elementData" "[Ljava/lang/Object;", Cond.methodLink RJx4a65c 1 yJxc12de_init_da8c8, Cond.instanceMethod yJxc12de_init_da8c8, Cond.initialized RJxc12de]
def wsX8_init_r4 : List Cond := [Cond.code yJxc12de_init_da8c8 cJxc12de_init_da8c8 1 none, Cond.fieldLink RJxc12de 7 "java/util/AbstractList" "modCount" "I", Cond.methodLink RJxc12de 1 yJxa1e45_init_da8c8, Cond.instanceMethod yJxa1e45_init_da8c8, Cond.initialized RJxa1e45, Cond.code yJxa1e45_init_da8c8 cJxa1e45_init_da8c8 1 none, Cond.methodLink RJxa1e45 1 objectInit, Cond.instanceMethod yX2_init, Cond.code yX2_init cX2_init 1 none, Cond.methodLink RX2 3 objectInit, Cond.fieldLink RX2 9 "TwinFinder$Measure" "bandCount" "I", Cond.fieldLink RX2 15 "TwinFinder$Measure" "rowCount" "I", Cond.fieldLink RX2 18 "TwinFinder$Measure" "p" "I", Cond.fieldLink RX2 21 "TwinFinder$Measure" "q" "I", Cond.instanceMethod yX1_init, Cond.code yX1_init cX1_init 1 none, Cond.methodLink RX1 3 objectInit, Cond.classLink RX1 9 RX3, Cond.instantiable RX3 3, Cond.initialized RX3, Cond.fieldLink RX1 12 "TwinFinder$Kin" "candidates" "LTwinFinder$PairRow;", Cond.fieldLink RX1 18 "TwinFinder$Kin" "twins" "LTwinFinder$PairRow;", Cond.fieldLink RX1 21 "TwinFinder$Kin" "number" "[I", Cond.fieldLink RX1 25 "TwinFinder$Kin" "twinCount" "[I"]
def wsX8_init_r5 : List Cond := [Cond.fieldLink RX1 28 "TwinFinder$Kin" "leader" "[I", Cond.fieldLink RX1 31 "TwinFinder$Kin" "members" "[I", Cond.instanceMethod yX3_init, Cond.code yX3_init cX3_init 1 none, Cond.methodLink RX3 3 objectInit, Cond.fieldLink RX3 9 "TwinFinder$PairRow" "first" "[I", Cond.fieldLink RX3 15 "TwinFinder$PairRow" "second" "[I"]
def wsX8_init : List Cond := .code yX8_init cX8_init 1 none :: ((wsX8_init_r1 ++ (wsX8_init_r2 ++ (wsX8_init_r3 ++ (wsX8_init_r4 ++ wsX8_init_r5)))) ++ wsX70 ++ wsX80 ++ wsX60 ++ wsX40 ++ wsX50 ++ wsX20 ++ wsX10 ++ wsJx4a65c0 ++ wsX30)
def wsX8_feed : List Cond := .code yX8_feed cX8_feed 6 (some .int) :: ([.fieldLink RX8 12 "TwinFinder" "tape" "LTwinFinder$Tape;", .fieldLink RX8 62 "TwinFinder$Tape" "length" "I", .methodLink RX8 65 yX7_putFour, .instanceMethod yX7_putFour, .selects RX7 yX7_putFour yX7_putFour, .initialized RX7, .code yX7_putFour cX7_putFour 3 none, .fieldLink RX7 22 "TwinFinder$Tape" "length" "I", .fieldLink RX7 9 "TwinFinder$Tape" "bytes" "[B"] ++ wsX80 ++ wsX70)
def wsX8_end : List Cond := .code yX8_end cX8_end 2 (some .boolean) :: ([.fieldLink RX8 12 "TwinFinder" "tape" "LTwinFinder$Tape;", .methodLink RX8 69 yX7_cutTo, .instanceMethod yX7_cutTo, .selects RX7 yX7_cutTo yX7_cutTo, .initialized RX7, .code yX7_cutTo cX7_cutTo 2 (some .boolean), .fieldLink RX7 22 "TwinFinder$Tape" "length" "I"] ++ wsX80 ++ wsX70)
def wsX8_numberAlongText_r1 : List Cond := [Cond.fieldLink RX8 12 "TwinFinder" "tape" "LTwinFinder$Tape;", Cond.fieldLink RX8 270 "TwinFinder$Tape" "pieces" "I", Cond.fieldLink RX8 59 "TwinFinder" "rowAtHand" "I", Cond.methodLink RX8 273 Lib.Math.max.name, Cond.static Lib.Math.max.name, Cond.initialized "java/lang/Math", Cond.code Lib.Math.max.name Lib.Math.max.code 2 (some .int), Cond.fieldLink RX8 19 "TwinFinder" "store" "LTwinFinder$Store;", Cond.fieldLink RX8 278 "TwinFinder$Tape" "plain" "[B", Cond.fieldLink RX8 282 "TwinFinder$Tape" "start" "[I", Cond.fieldLink RX8 285 "TwinFinder$Tape" "gap" "I", Cond.fieldLink RX8 51 "TwinFinder" "along" "[I", Cond.methodLink RX8 288 yX6_numberOf, Cond.instanceMethod yX6_numberOf, Cond.selects RX6 yX6_numberOf yX6_numberOf, Cond.initialized RX6, Cond.code yX6_numberOf cX6_numberOf 7 (some .int), Cond.fieldLink RX6 23 "TwinFinder$Store" "seats" "[I", Cond.methodLink RX6 30 yX6_firstSeat, Cond.static yX6_firstSeat, Cond.code yX6_firstSeat cX6_firstSeat 5 (some .int), Cond.methodLink RX6 34 yX6_enter, Cond.instanceMethod yX6_enter, Cond.selects RX6 yX6_enter yX6_enter]
def wsX8_numberAlongText_r2 : List Cond := [Cond.code yX6_enter cX6_enter 7 (some .int), Cond.fieldLink RX6 16 "TwinFinder$Store" "begin" "[I", Cond.fieldLink RX6 26 "TwinFinder$Store" "given" "I", Cond.constant RX6 9 (50000), Cond.fieldLink RX6 10 "TwinFinder$Store" "letters" "[B", Cond.fieldLink RX6 20 "TwinFinder$Store" "seatOf" "[I", Cond.methodLink RX6 38 yX6_isThere, Cond.instanceMethod yX6_isThere, Cond.selects RX6 yX6_isThere yX6_isThere, Cond.code yX6_isThere cX6_isThere 7 (some .boolean)]
def wsX8_numberAlongText : List Cond := .code yX8_numberAlongText cX8_numberAlongText 4 (some .int) :: ((wsX8_numberAlongText_r1 ++ wsX8_numberAlongText_r2) ++ wsX80 ++ wsX70 ++ wsX60)
def wsX8_add_r1 : List Cond := [Cond.fieldLink RX8 12 "TwinFinder" "tape" "LTwinFinder$Tape;", Cond.fieldLink RX8 33 "TwinFinder" "shelf" "LTwinFinder$Shelf;", Cond.fieldLink RX8 55 "TwinFinder" "sortAtHand" "I", Cond.fieldLink RX8 19 "TwinFinder" "store" "LTwinFinder$Store;", Cond.fieldLink RX8 85 "TwinFinder$Store" "given" "I", Cond.fieldLink RX8 51 "TwinFinder" "along" "[I", Cond.fieldLink RX8 104 "TwinFinder$Document" "least" "[I", Cond.fieldLink RX8 26 "TwinFinder" "permutations" "LTwinFinder$Permutations;", Cond.fieldLink RX8 47 "TwinFinder" "kin" "LTwinFinder$Kin;", Cond.fieldLink RX8 115 "TwinFinder$Kin" "known" "Z", Cond.fieldLink RX8 119 "TwinFinder$Document" "number" "I", Cond.methodLink RX8 73 yX7_makePlain, Cond.instanceMethod yX7_makePlain, Cond.selects RX7 yX7_makePlain yX7_makePlain, Cond.initialized RX7, Cond.code yX7_makePlain cX7_makePlain 4 (some .int), Cond.fieldLink RX7 26 "TwinFinder$Tape" "plainLength" "I", Cond.fieldLink RX7 22 "TwinFinder$Tape" "length" "I", Cond.fieldLink RX7 9 "TwinFinder$Tape" "bytes" "[B", Cond.methodLink RX7 29 yX7_plainSign, Cond.static yX7_plainSign, Cond.code yX7_plainSign cX7_plainSign 2 (some .int), Cond.methodLink RX7 33 yX7_putPlain, Cond.instanceMethod yX7_putPlain]
def wsX8_add_r2 : List Cond := [Cond.selects RX7 yX7_putPlain yX7_putPlain, Cond.code yX7_putPlain cX7_putPlain 2 none, Cond.fieldLink RX7 15 "TwinFinder$Tape" "plain" "[B", Cond.methodLink RX8 69 yX7_cutTo, Cond.instanceMethod yX7_cutTo, Cond.selects RX7 yX7_cutTo yX7_cutTo, Cond.code yX7_cutTo cX7_cutTo 2 (some .boolean), Cond.methodLink RX8 77 yX5_isFull, Cond.instanceMethod yX5_isFull, Cond.selects RX5 yX5_isFull yX5_isFull, Cond.initialized RX5, Cond.code yX5_isFull cX5_isFull 1 (some .boolean), Cond.fieldLink RX5 12 "TwinFinder$Shelf" "here" "Ljava/util/ArrayList;", Cond.fieldLink RX5 28 "TwinFinder$Shelf" "came" "I", Cond.methodLink RX5 24 yJx4a65c_size_8abf5, Cond.instanceMethod yJx4a65c_size_8abf5, Cond.selects RJx4a65c yJx4a65c_size_8abf5 yJx4a65c_size_8abf5, Cond.initialized RJx4a65c, Cond.code yJx4a65c_size_8abf5 cJx4a65c_size_8abf5 1 (some .int), Cond.fieldLink RJx4a65c 48 "java/util/ArrayList" "size" "I", Cond.methodLink RX8 81 yX7_markPieces, Cond.instanceMethod yX7_markPieces, Cond.selects RX7 yX7_markPieces yX7_markPieces, Cond.code yX7_markPieces cX7_markPieces 3 none]
def wsX8_add_r3 : List Cond := [Cond.fieldLink RX7 37 "TwinFinder$Tape" "gap" "I", Cond.fieldLink RX7 40 "TwinFinder$Tape" "pieces" "I", Cond.fieldLink RX7 18 "TwinFinder$Tape" "start" "[I", Cond.methodLink RX8 88 yX8_numberAlongText, Cond.instanceMethod yX8_numberAlongText, Cond.selects RX8 yX8_numberAlongText yX8_numberAlongText, Cond.initialized RX8, Cond.code yX8_numberAlongText cX8_numberAlongText 4 (some .int), Cond.fieldLink RX8 270 "TwinFinder$Tape" "pieces" "I", Cond.fieldLink RX8 59 "TwinFinder" "rowAtHand" "I", Cond.methodLink RX8 273 Lib.Math.max.name, Cond.static Lib.Math.max.name, Cond.initialized "java/lang/Math", Cond.code Lib.Math.max.name Lib.Math.max.code 2 (some .int), Cond.fieldLink RX8 278 "TwinFinder$Tape" "plain" "[B", Cond.fieldLink RX8 282 "TwinFinder$Tape" "start" "[I", Cond.fieldLink RX8 285 "TwinFinder$Tape" "gap" "I", Cond.methodLink RX8 288 yX6_numberOf, Cond.instanceMethod yX6_numberOf, Cond.selects RX6 yX6_numberOf yX6_numberOf, Cond.initialized RX6, Cond.code yX6_numberOf cX6_numberOf 7 (some .int), Cond.fieldLink RX6 23 "TwinFinder$Store" "seats" "[I", Cond.methodLink RX6 30 yX6_firstSeat]
def wsX8_add_r4 : List Cond := [Cond.static yX6_firstSeat, Cond.code yX6_firstSeat cX6_firstSeat 5 (some .int), Cond.methodLink RX6 34 yX6_enter, Cond.instanceMethod yX6_enter, Cond.selects RX6 yX6_enter yX6_enter, Cond.code yX6_enter cX6_enter 7 (some .int), Cond.fieldLink RX6 16 "TwinFinder$Store" "begin" "[I", Cond.fieldLink RX6 26 "TwinFinder$Store" "given" "I", Cond.constant RX6 9 (50000), Cond.fieldLink RX6 10 "TwinFinder$Store" "letters" "[B", Cond.fieldLink RX6 20 "TwinFinder$Store" "seatOf" "[I", Cond.methodLink RX6 38 yX6_isThere, Cond.instanceMethod yX6_isThere, Cond.selects RX6 yX6_isThere yX6_isThere, Cond.code yX6_isThere cX6_isThere 7 (some .boolean), Cond.methodLink RX8 91 yX6_forgetFrom, Cond.instanceMethod yX6_forgetFrom, Cond.selects RX6 yX6_forgetFrom yX6_forgetFrom, Cond.code yX6_forgetFrom cX6_forgetFrom 3 none, Cond.methodLink RX8 94 yX5_takeNext, Cond.instanceMethod yX5_takeNext, Cond.selects RX5 yX5_takeNext yX5_takeNext, Cond.code yX5_takeNext cX5_takeNext 2 (some (.object "TwinFinder$Document")), Cond.fieldLink RX5 18 "TwinFinder$Shelf" "spare" "Ljava/util/ArrayList;"]
def wsX8_add_r5 : List Cond := [Cond.classLink RX5 36 RX0, Cond.instantiable RX0 7, Cond.initialized RX0, Cond.classLink RX5 36 "TwinFinder$Document", Cond.fieldLink RX5 38 "TwinFinder$Document" "number" "I", Cond.methodLink RX5 41 yJx4a65c_isEmpty_aae02, Cond.instanceMethod yJx4a65c_isEmpty_aae02, Cond.selects RJx4a65c yJx4a65c_isEmpty_aae02 yJx4a65c_isEmpty_aae02, Cond.code yJx4a65c_isEmpty_aae02 cJx4a65c_isEmpty_aae02 1 (some .boolean), Cond.methodLink RX5 45 yX0_init, Cond.instanceMethod yX0_init, Cond.code yX0_init cX0_init 2 none, Cond.methodLink RX0 3 objectInit, Cond.instanceMethod objectInit, Cond.code objectInit ⟨#[0xb1]⟩ 1 none, Cond.arrayClass .long, Cond.fieldLink RX0 9 "TwinFinder$Document" "set" "[J", Cond.arrayClass .int, Cond.fieldLink RX0 15 "TwinFinder$Document" "numbers" "[I", Cond.fieldLink RX0 19 "TwinFinder$Document" "least" "[I", Cond.fieldLink RX0 22 "TwinFinder$Document" "shared" "[I", Cond.fieldLink RX0 25 "TwinFinder$Document" "slot" "I", Cond.methodLink RX5 48 yJx4a65c_remove_915e3, Cond.instanceMethod yJx4a65c_remove_915e3]
def wsX8_add_r6 : List Cond := [Cond.selects RJx4a65c yJx4a65c_remove_915e3 yJx4a65c_remove_915e3, Cond.code yJx4a65c_remove_915e3 cJx4a65c_remove_915e3 4 (some (.object "java/lang/Object")), Cond.fieldLink RJx4a65c 9 "java/util/ArrayList" "elementData" "[Ljava/lang/Object;", Cond.methodLink RJx4a65c 118 yJ15_checkIndex_7cf53, Cond.static yJ15_checkIndex_7cf53, Cond.initialized RJ15, Cond.code yJ15_checkIndex_7cf53 cJ15_checkIndex_7cf53 2 (some .int), Cond.methodLink RJ15 105 yJ3_checkIndex_8e157, Cond.static yJ3_checkIndex_8e157, Cond.initialized RJ3, Cond.code yJ3_checkIndex_8e157 cJ3_checkIndex_8e157 3 (some .int), Cond.methodLink RJx4a65c 144 yJx4a65c_fastRemove_b59b0, Cond.instanceMethod yJx4a65c_fastRemove_b59b0, Cond.selects RJx4a65c yJx4a65c_fastRemove_b59b0 yJx4a65c_fastRemove_b59b0, Cond.code yJx4a65c_fastRemove_b59b0 cJx4a65c_fastRemove_b59b0 4 none, Cond.fieldLink RJx4a65c 63 "java/util/ArrayList" "modCount" "I", Cond.sameField "java/util/ArrayList" "java/util/AbstractList" "modCount" "I", Cond.methodLink RJx4a65c 112 arraycopyName, Cond.native arraycopyName, Cond.static arraycopyName, Cond.initialized "java/lang/System", Cond.methodLink RX5 51 yJx4a65c_add_9ea2d, Cond.instanceMethod yJx4a65c_add_9ea2d, Cond.selects RJx4a65c yJx4a65c_add_9ea2d yJx4a65c_add_9ea2d]
def wsX8_add_r7 : List Cond := [Cond.code yJx4a65c_add_9ea2d cJx4a65c_add_9ea2d 2 (some .boolean), Cond.methodLink RJx4a65c 131 yJx4a65c_add_72be8, Cond.instanceMethod yJx4a65c_add_72be8, Cond.selects RJx4a65c yJx4a65c_add_72be8 yJx4a65c_add_72be8, Cond.code yJx4a65c_add_72be8 cJx4a65c_add_72be8 4 none, Cond.methodLink RJx4a65c 129 yJx4a65c_grow_d5877, Cond.instanceMethod yJx4a65c_grow_d5877, Cond.selects RJx4a65c yJx4a65c_grow_d5877 yJx4a65c_grow_d5877, Cond.code yJx4a65c_grow_d5877 cJx4a65c_grow_d5877 1 (some (.array (.object "java/lang/Object"))), Cond.methodLink RJx4a65c 69 yJx4a65c_grow_92f84, Cond.instanceMethod yJx4a65c_grow_92f84, Cond.selects RJx4a65c yJx4a65c_grow_92f84 yJx4a65c_grow_92f84, Cond.code yJx4a65c_grow_92f84 cJx4a65c_grow_92f84 4 (some (.array (.object "java/lang/Object"))), Cond.fieldLink RJx4a65c 39 "java/util/ArrayList" "DEFAULTCAPACITY_EMPTY_ELEMENTDATA" "[Ljava/lang/Object;", Cond.methodLink RJx4a65c 79 Lib.Math.max.name, Cond.classLink RJx4a65c 7 "java/lang/Object", Cond.methodLink RJx4a65c 73 yJ8_newLength_cabcc, Cond.static yJ8_newLength_cabcc, Cond.initialized RJ8, Cond.code yJ8_newLength_cabcc cJ8_newLength_cabcc 4 (some .int), Cond.methodLink RJ8 194 Lib.Math.max.name, Cond.constant RJ8 200 (2147483639), Cond.methodLink RJ8 201 yJ8_hugeLength_7cf53, Cond.static yJ8_hugeLength_7cf53]
def wsX8_add_r8 : List Cond := [Cond.code yJ8_hugeLength_7cf53 cJ8_hugeLength_7cf53 3 (some .int), Cond.methodLink RJx4a65c 66 yJ7_copyOf_1904c, Cond.static yJ7_copyOf_1904c, Cond.initialized RJ7, Cond.code yJ7_copyOf_1904c cJ7_copyOf_1904c 2 (some (.array (.object "java/lang/Object"))), Cond.methodLink RJ7 86 ⟨"java/lang/Object", "getClass", "()Ljava/lang/Class;"⟩, Cond.selects "[Ljava/lang/Object;" ⟨"java/lang/Object", "getClass", "()Ljava/lang/Class;"⟩ ⟨"java/lang/Object", "getClass", "()Ljava/lang/Class;"⟩, Cond.instanceMethod ⟨"java/lang/Object", "getClass", "()Ljava/lang/Class;"⟩, Cond.native ⟨"java/lang/Object", "getClass", "()Ljava/lang/Class;"⟩, Cond.methodLink RJ7 300 yJ7_copyOf_6403c, Cond.static yJ7_copyOf_6403c, Cond.code yJ7_copyOf_6403c cJ7_copyOf_6403c 4 (some (.array (.object "java/lang/Object"))), Cond.classLink RJ7 110 "[Ljava/lang/Object;", Cond.classLink RJ7 2 "java/lang/Object", Cond.methodLink RJ7 304 Lib.Math.min.name, Cond.static Lib.Math.min.name, Cond.code Lib.Math.min.name Lib.Math.min.code 2 (some .int), Cond.methodLink RJ7 150 arraycopyName, Cond.methodLink RX8 98 yX0_fillWith, Cond.instanceMethod yX0_fillWith, Cond.selects RX0 yX0_fillWith yX0_fillWith, Cond.code yX0_fillWith cX0_fillWith 5 none, Cond.fieldLink RX0 29 "TwinFinder$Document" "size" "I", Cond.methodLink RX8 107 yX4_leastOf]
def wsX8_add_r9 : List Cond := [Cond.instanceMethod yX4_leastOf, Cond.selects RX4 yX4_leastOf yX4_leastOf, Cond.initialized RX4, Cond.code yX4_leastOf cX4_leastOf 5 (some .int), Cond.constant RX4 27 (65521), Cond.fieldLink RX4 63 "TwinFinder$Document" "size" "I", Cond.fieldLink RX4 68 "TwinFinder$Document" "numbers" "[I", Cond.methodLink RX4 71 Lib.Math.min.name, Cond.methodLink RX4 43 yX4_imageOf, Cond.instanceMethod yX4_imageOf, Cond.selects RX4 yX4_imageOf yX4_imageOf, Cond.code yX4_imageOf cX4_imageOf 5 (some .int), Cond.fieldLink RX4 18 "TwinFinder$Permutations" "exchanges" "[I", Cond.fieldLink RX4 58 "TwinFinder$Permutations" "moved" "I", Cond.fieldLink RX4 21 "TwinFinder$Permutations" "movedKey" "[I", Cond.fieldLink RX4 24 "TwinFinder$Permutations" "movedImage" "[I", Cond.fieldLink RX4 9 "TwinFinder$Permutations" "factor" "[I", Cond.fieldLink RX4 15 "TwinFinder$Permutations" "summand" "[I", Cond.constantLong RX4 61 (65521), Cond.methodLink RX4 28 yX4_isOne, Cond.static yX4_isOne, Cond.code yX4_isOne cX4_isOne 1 (some .boolean), Cond.methodLink RX4 32 yX4_isNumber, Cond.static yX4_isNumber]
def wsX8_add_r10 : List Cond := [Cond.code yX4_isNumber cX4_isNumber 1 (some .boolean), Cond.methodLink RX4 47 yX4_keyOf, Cond.static yX4_keyOf, Cond.code yX4_keyOf cX4_keyOf 2 (some .int), Cond.methodLink RX4 54 yX4_placeFor, Cond.instanceMethod yX4_placeFor, Cond.selects RX4 yX4_placeFor yX4_placeFor, Cond.code yX4_placeFor cX4_placeFor 4 (some .int), Cond.methodLink RX8 111 yX5_shareWithAll, Cond.instanceMethod yX5_shareWithAll, Cond.selects RX5 yX5_shareWithAll yX5_shareWithAll, Cond.code yX5_shareWithAll cX5_shareWithAll 5 none, Cond.fieldLink RX5 59 "TwinFinder$Document" "shared" "[I", Cond.fieldLink RX5 63 "TwinFinder$Document" "slot" "I", Cond.methodLink RX5 32 yJx4a65c_get_915e3, Cond.instanceMethod yJx4a65c_get_915e3, Cond.selects RJx4a65c yJx4a65c_get_915e3 yJx4a65c_get_915e3, Cond.code yJx4a65c_get_915e3 cJx4a65c_get_915e3 2 (some (.object "java/lang/Object")), Cond.methodLink RJx4a65c 123 yJx4a65c_elementData_915e3, Cond.instanceMethod yJx4a65c_elementData_915e3, Cond.selects RJx4a65c yJx4a65c_elementData_915e3 yJx4a65c_elementData_915e3, Cond.code yJx4a65c_elementData_915e3 cJx4a65c_elementData_915e3 2 (some (.object "java/lang/Object")), Cond.methodLink RX5 55 yX0_countShared, Cond.instanceMethod yX0_countShared]
def wsX8_add_r11 : List Cond := [Cond.selects RX0 yX0_countShared yX0_countShared, Cond.code yX0_countShared cX0_countShared 4 (some .int), Cond.methodLink RX0 32 yJ13_bitCount_95d88, Cond.static yJ13_bitCount_95d88, Cond.initialized RJ13, Cond.code yJ13_bitCount_95d88 cJ13_bitCount_95d88 2 (some .int), Cond.constantLong RJ13 314 (6148914691236517205), Cond.constantLong RJ13 316 (3689348814741910323), Cond.constantLong RJ13 318 (1085102592571150095)]
def wsX8_add : List Cond := .code yX8_add cX8_add 5 (some .int) :: ((wsX8_add_r1 ++ (wsX8_add_r2 ++ (wsX8_add_r3 ++ (wsX8_add_r4 ++ (wsX8_add_r5 ++ (wsX8_add_r6 ++ (wsX8_add_r7 ++ (wsX8_add_r8 ++ (wsX8_add_r9 ++ (wsX8_add_r10 ++ wsX8_add_r11)))))))))) ++ wsX80 ++ wsX60 ++ wsX00 ++ wsX10 ++ wsX70 ++ wsX50 ++ wsJx4a65c0 ++ wsX40)
def wsX8_remove_r1 : List Cond := [Cond.fieldLink RX8 33 "TwinFinder" "shelf" "LTwinFinder$Shelf;", Cond.fieldLink RX8 47 "TwinFinder" "kin" "LTwinFinder$Kin;", Cond.fieldLink RX8 115 "TwinFinder$Kin" "known" "Z", Cond.methodLink RX8 122 yX5_putAway, Cond.instanceMethod yX5_putAway, Cond.selects RX5 yX5_putAway yX5_putAway, Cond.initialized RX5, Cond.code yX5_putAway cX5_putAway 3 (some .boolean), Cond.fieldLink RX5 18 "TwinFinder$Shelf" "spare" "Ljava/util/ArrayList;", Cond.fieldLink RX5 12 "TwinFinder$Shelf" "here" "Ljava/util/ArrayList;", Cond.classLink RX5 36 "TwinFinder$Document", Cond.methodLink RX5 66 yX5_placeOf, Cond.instanceMethod yX5_placeOf, Cond.selects RX5 yX5_placeOf yX5_placeOf, Cond.code yX5_placeOf cX5_placeOf 3 (some .int), Cond.fieldLink RX5 38 "TwinFinder$Document" "number" "I", Cond.methodLink RX5 24 yJx4a65c_size_8abf5, Cond.instanceMethod yJx4a65c_size_8abf5, Cond.selects RJx4a65c yJx4a65c_size_8abf5 yJx4a65c_size_8abf5, Cond.initialized RJx4a65c, Cond.code yJx4a65c_size_8abf5 cJx4a65c_size_8abf5 1 (some .int), Cond.fieldLink RJx4a65c 48 "java/util/ArrayList" "size" "I", Cond.methodLink RX5 32 yJx4a65c_get_915e3, Cond.instanceMethod yJx4a65c_get_915e3]
def wsX8_remove_r2 : List Cond := [Cond.selects RJx4a65c yJx4a65c_get_915e3 yJx4a65c_get_915e3, Cond.code yJx4a65c_get_915e3 cJx4a65c_get_915e3 2 (some (.object "java/lang/Object")), Cond.methodLink RJx4a65c 118 yJ15_checkIndex_7cf53, Cond.static yJ15_checkIndex_7cf53, Cond.initialized RJ15, Cond.code yJ15_checkIndex_7cf53 cJ15_checkIndex_7cf53 2 (some .int), Cond.methodLink RJ15 105 yJ3_checkIndex_8e157, Cond.static yJ3_checkIndex_8e157, Cond.initialized RJ3, Cond.code yJ3_checkIndex_8e157 cJ3_checkIndex_8e157 3 (some .int), Cond.methodLink RJx4a65c 123 yJx4a65c_elementData_915e3, Cond.instanceMethod yJx4a65c_elementData_915e3, Cond.selects RJx4a65c yJx4a65c_elementData_915e3 yJx4a65c_elementData_915e3, Cond.code yJx4a65c_elementData_915e3 cJx4a65c_elementData_915e3 2 (some (.object "java/lang/Object")), Cond.fieldLink RJx4a65c 9 "java/util/ArrayList" "elementData" "[Ljava/lang/Object;", Cond.methodLink RX5 48 yJx4a65c_remove_915e3, Cond.instanceMethod yJx4a65c_remove_915e3, Cond.selects RJx4a65c yJx4a65c_remove_915e3 yJx4a65c_remove_915e3, Cond.code yJx4a65c_remove_915e3 cJx4a65c_remove_915e3 4 (some (.object "java/lang/Object")), Cond.methodLink RJx4a65c 144 yJx4a65c_fastRemove_b59b0, Cond.instanceMethod yJx4a65c_fastRemove_b59b0, Cond.selects RJx4a65c yJx4a65c_fastRemove_b59b0 yJx4a65c_fastRemove_b59b0, Cond.code yJx4a65c_fastRemove_b59b0 cJx4a65c_fastRemove_b59b0 4 none, Cond.fieldLink RJx4a65c 63 "java/util/ArrayList" "modCount" "I"]
def wsX8_remove_r3 : List Cond := [Cond.sameField "java/util/ArrayList" "java/util/AbstractList" "modCount" "I", Cond.methodLink RJx4a65c 112 arraycopyName, Cond.native arraycopyName, Cond.static arraycopyName, Cond.initialized "java/lang/System", Cond.methodLink RX5 51 yJx4a65c_add_9ea2d, Cond.instanceMethod yJx4a65c_add_9ea2d, Cond.selects RJx4a65c yJx4a65c_add_9ea2d yJx4a65c_add_9ea2d, Cond.code yJx4a65c_add_9ea2d cJx4a65c_add_9ea2d 2 (some .boolean), Cond.methodLink RJx4a65c 131 yJx4a65c_add_72be8, Cond.instanceMethod yJx4a65c_add_72be8, Cond.selects RJx4a65c yJx4a65c_add_72be8 yJx4a65c_add_72be8, Cond.code yJx4a65c_add_72be8 cJx4a65c_add_72be8 4 none, Cond.methodLink RJx4a65c 129 yJx4a65c_grow_d5877, Cond.instanceMethod yJx4a65c_grow_d5877, Cond.selects RJx4a65c yJx4a65c_grow_d5877 yJx4a65c_grow_d5877, Cond.code yJx4a65c_grow_d5877 cJx4a65c_grow_d5877 1 (some (.array (.object "java/lang/Object"))), Cond.methodLink RJx4a65c 69 yJx4a65c_grow_92f84, Cond.instanceMethod yJx4a65c_grow_92f84, Cond.selects RJx4a65c yJx4a65c_grow_92f84 yJx4a65c_grow_92f84, Cond.code yJx4a65c_grow_92f84 cJx4a65c_grow_92f84 4 (some (.array (.object "java/lang/Object"))), Cond.fieldLink RJx4a65c 39 "java/util/ArrayList" "DEFAULTCAPACITY_EMPTY_ELEMENTDATA" "[Ljava/lang/Object;", Cond.methodLink RJx4a65c 79 Lib.Math.max.name, Cond.static Lib.Math.max.name]
def wsX8_remove_r4 : List Cond := [Cond.initialized "java/lang/Math", Cond.code Lib.Math.max.name Lib.Math.max.code 2 (some .int), Cond.classLink RJx4a65c 7 "java/lang/Object", Cond.methodLink RJx4a65c 73 yJ8_newLength_cabcc, Cond.static yJ8_newLength_cabcc, Cond.initialized RJ8, Cond.code yJ8_newLength_cabcc cJ8_newLength_cabcc 4 (some .int), Cond.methodLink RJ8 194 Lib.Math.max.name, Cond.constant RJ8 200 (2147483639), Cond.methodLink RJ8 201 yJ8_hugeLength_7cf53, Cond.static yJ8_hugeLength_7cf53, Cond.code yJ8_hugeLength_7cf53 cJ8_hugeLength_7cf53 3 (some .int), Cond.methodLink RJx4a65c 66 yJ7_copyOf_1904c, Cond.static yJ7_copyOf_1904c, Cond.initialized RJ7, Cond.code yJ7_copyOf_1904c cJ7_copyOf_1904c 2 (some (.array (.object "java/lang/Object"))), Cond.methodLink RJ7 86 ⟨"java/lang/Object", "getClass", "()Ljava/lang/Class;"⟩, Cond.selects "[Ljava/lang/Object;" ⟨"java/lang/Object", "getClass", "()Ljava/lang/Class;"⟩ ⟨"java/lang/Object", "getClass", "()Ljava/lang/Class;"⟩, Cond.instanceMethod ⟨"java/lang/Object", "getClass", "()Ljava/lang/Class;"⟩, Cond.native ⟨"java/lang/Object", "getClass", "()Ljava/lang/Class;"⟩, Cond.methodLink RJ7 300 yJ7_copyOf_6403c, Cond.static yJ7_copyOf_6403c, Cond.code yJ7_copyOf_6403c cJ7_copyOf_6403c 4 (some (.array (.object "java/lang/Object"))), Cond.classLink RJ7 110 "[Ljava/lang/Object;"]
def wsX8_remove_r5 : List Cond := [Cond.classLink RJ7 2 "java/lang/Object", Cond.methodLink RJ7 304 Lib.Math.min.name, Cond.static Lib.Math.min.name, Cond.code Lib.Math.min.name Lib.Math.min.code 2 (some .int), Cond.methodLink RJ7 150 arraycopyName]
def wsX8_remove : List Cond := .code yX8_remove cX8_remove 3 (some .boolean) :: ((wsX8_remove_r1 ++ (wsX8_remove_r2 ++ (wsX8_remove_r3 ++ (wsX8_remove_r4 ++ wsX8_remove_r5)))) ++ wsX80 ++ wsX10 ++ wsX50 ++ wsX00 ++ wsJx4a65c0)
def wsX8_mode_r1 : List Cond := [Cond.classLink RX8 125 "java/lang/IllegalArgumentException", Cond.initialized "java/lang/IllegalArgumentException", Cond.fieldLink RX8 55 "TwinFinder" "sortAtHand" "I", Cond.fieldLink RX8 59 "TwinFinder" "rowAtHand" "I", Cond.fieldLink RX8 19 "TwinFinder" "store" "LTwinFinder$Store;", Cond.fieldLink RX8 47 "TwinFinder" "kin" "LTwinFinder$Kin;", Cond.fieldLink RX8 115 "TwinFinder$Kin" "known" "Z", Cond.fieldLink RX8 33 "TwinFinder" "shelf" "LTwinFinder$Shelf;", Cond.methodLink RX8 91 yX6_forgetFrom, Cond.instanceMethod yX6_forgetFrom, Cond.selects RX6 yX6_forgetFrom yX6_forgetFrom, Cond.initialized RX6, Cond.code yX6_forgetFrom cX6_forgetFrom 3 none, Cond.fieldLink RX6 26 "TwinFinder$Store" "given" "I", Cond.fieldLink RX6 23 "TwinFinder$Store" "seats" "[I", Cond.fieldLink RX6 20 "TwinFinder$Store" "seatOf" "[I", Cond.methodLink RX8 132 yX5_putAllAway, Cond.instanceMethod yX5_putAllAway, Cond.selects RX5 yX5_putAllAway yX5_putAllAway, Cond.initialized RX5, Cond.code yX5_putAllAway cX5_putAllAway 3 (some .int), Cond.fieldLink RX5 12 "TwinFinder$Shelf" "here" "Ljava/util/ArrayList;", Cond.fieldLink RX5 18 "TwinFinder$Shelf" "spare" "Ljava/util/ArrayList;", Cond.classLink RX5 36 "TwinFinder$Document"]
def wsX8_mode_r2 : List Cond := [Cond.fieldLink RX5 28 "TwinFinder$Shelf" "came" "I", Cond.methodLink RX5 24 yJx4a65c_size_8abf5, Cond.instanceMethod yJx4a65c_size_8abf5, Cond.selects RJx4a65c yJx4a65c_size_8abf5 yJx4a65c_size_8abf5, Cond.initialized RJx4a65c, Cond.code yJx4a65c_size_8abf5 cJx4a65c_size_8abf5 1 (some .int), Cond.fieldLink RJx4a65c 48 "java/util/ArrayList" "size" "I", Cond.methodLink RX5 32 yJx4a65c_get_915e3, Cond.instanceMethod yJx4a65c_get_915e3, Cond.selects RJx4a65c yJx4a65c_get_915e3 yJx4a65c_get_915e3, Cond.code yJx4a65c_get_915e3 cJx4a65c_get_915e3 2 (some (.object "java/lang/Object")), Cond.methodLink RJx4a65c 118 yJ15_checkIndex_7cf53, Cond.static yJ15_checkIndex_7cf53, Cond.initialized RJ15, Cond.code yJ15_checkIndex_7cf53 cJ15_checkIndex_7cf53 2 (some .int), Cond.methodLink RJ15 105 yJ3_checkIndex_8e157, Cond.static yJ3_checkIndex_8e157, Cond.initialized RJ3, Cond.code yJ3_checkIndex_8e157 cJ3_checkIndex_8e157 3 (some .int), Cond.methodLink RJx4a65c 123 yJx4a65c_elementData_915e3, Cond.instanceMethod yJx4a65c_elementData_915e3, Cond.selects RJx4a65c yJx4a65c_elementData_915e3 yJx4a65c_elementData_915e3, Cond.code yJx4a65c_elementData_915e3 cJx4a65c_elementData_915e3 2 (some (.object "java/lang/Object")), Cond.fieldLink RJx4a65c 9 "java/util/ArrayList" "elementData" "[Ljava/lang/Object;"]
def wsX8_mode_r3 : List Cond := [Cond.methodLink RX5 51 yJx4a65c_add_9ea2d, Cond.instanceMethod yJx4a65c_add_9ea2d, Cond.selects RJx4a65c yJx4a65c_add_9ea2d yJx4a65c_add_9ea2d, Cond.code yJx4a65c_add_9ea2d cJx4a65c_add_9ea2d 2 (some .boolean), Cond.fieldLink RJx4a65c 63 "java/util/ArrayList" "modCount" "I", Cond.sameField "java/util/ArrayList" "java/util/AbstractList" "modCount" "I", Cond.methodLink RJx4a65c 131 yJx4a65c_add_72be8, Cond.instanceMethod yJx4a65c_add_72be8, Cond.selects RJx4a65c yJx4a65c_add_72be8 yJx4a65c_add_72be8, Cond.code yJx4a65c_add_72be8 cJx4a65c_add_72be8 4 none, Cond.methodLink RJx4a65c 129 yJx4a65c_grow_d5877, Cond.instanceMethod yJx4a65c_grow_d5877, Cond.selects RJx4a65c yJx4a65c_grow_d5877 yJx4a65c_grow_d5877, Cond.code yJx4a65c_grow_d5877 cJx4a65c_grow_d5877 1 (some (.array (.object "java/lang/Object"))), Cond.methodLink RJx4a65c 69 yJx4a65c_grow_92f84, Cond.instanceMethod yJx4a65c_grow_92f84, Cond.selects RJx4a65c yJx4a65c_grow_92f84 yJx4a65c_grow_92f84, Cond.code yJx4a65c_grow_92f84 cJx4a65c_grow_92f84 4 (some (.array (.object "java/lang/Object"))), Cond.fieldLink RJx4a65c 39 "java/util/ArrayList" "DEFAULTCAPACITY_EMPTY_ELEMENTDATA" "[Ljava/lang/Object;", Cond.methodLink RJx4a65c 79 Lib.Math.max.name, Cond.static Lib.Math.max.name, Cond.initialized "java/lang/Math", Cond.code Lib.Math.max.name Lib.Math.max.code 2 (some .int), Cond.classLink RJx4a65c 7 "java/lang/Object"]
def wsX8_mode_r4 : List Cond := [Cond.methodLink RJx4a65c 73 yJ8_newLength_cabcc, Cond.static yJ8_newLength_cabcc, Cond.initialized RJ8, Cond.code yJ8_newLength_cabcc cJ8_newLength_cabcc 4 (some .int), Cond.methodLink RJ8 194 Lib.Math.max.name, Cond.constant RJ8 200 (2147483639), Cond.methodLink RJ8 201 yJ8_hugeLength_7cf53, Cond.static yJ8_hugeLength_7cf53, Cond.code yJ8_hugeLength_7cf53 cJ8_hugeLength_7cf53 3 (some .int), Cond.methodLink RJx4a65c 66 yJ7_copyOf_1904c, Cond.static yJ7_copyOf_1904c, Cond.initialized RJ7, Cond.code yJ7_copyOf_1904c cJ7_copyOf_1904c 2 (some (.array (.object "java/lang/Object"))), Cond.methodLink RJ7 86 ⟨"java/lang/Object", "getClass", "()Ljava/lang/Class;"⟩, Cond.selects "[Ljava/lang/Object;" ⟨"java/lang/Object", "getClass", "()Ljava/lang/Class;"⟩ ⟨"java/lang/Object", "getClass", "()Ljava/lang/Class;"⟩, Cond.instanceMethod ⟨"java/lang/Object", "getClass", "()Ljava/lang/Class;"⟩, Cond.native ⟨"java/lang/Object", "getClass", "()Ljava/lang/Class;"⟩, Cond.methodLink RJ7 300 yJ7_copyOf_6403c, Cond.static yJ7_copyOf_6403c, Cond.code yJ7_copyOf_6403c cJ7_copyOf_6403c 4 (some (.array (.object "java/lang/Object"))), Cond.classLink RJ7 110 "[Ljava/lang/Object;", Cond.classLink RJ7 2 "java/lang/Object", Cond.methodLink RJ7 304 Lib.Math.min.name, Cond.static Lib.Math.min.name]
def wsX8_mode_r5 : List Cond := [Cond.code Lib.Math.min.name Lib.Math.min.code 2 (some .int), Cond.methodLink RJ7 150 arraycopyName, Cond.native arraycopyName, Cond.static arraycopyName, Cond.initialized "java/lang/System", Cond.methodLink RX5 70 yJx4a65c_clear_da8c8, Cond.instanceMethod yJx4a65c_clear_da8c8, Cond.selects RJx4a65c yJx4a65c_clear_da8c8 yJx4a65c_clear_da8c8, Cond.code yJx4a65c_clear_da8c8 cJx4a65c_clear_da8c8 4 none]
def wsX8_mode : List Cond := .code yX8_mode cX8_mode 3 (some .int) :: ((wsX8_mode_r1 ++ (wsX8_mode_r2 ++ (wsX8_mode_r3 ++ (wsX8_mode_r4 ++ wsX8_mode_r5)))) ++ wsX80 ++ wsX10 ++ wsX60 ++ wsX50 ++ wsJx4a65c0 ++ (vx_atS RX8 129 "java/lang/IllegalArgumentException" ["java/lang/RuntimeException", "java/lang/Exception"]).filter goodWord)
def wsX8_renewImages_r1 : List Cond := [Cond.fieldLink RX8 33 "TwinFinder" "shelf" "LTwinFinder$Shelf;", Cond.fieldLink RX8 168 "TwinFinder$Shelf" "here" "Ljava/util/ArrayList;", Cond.classLink RX8 99 "TwinFinder$Document", Cond.fieldLink RX8 104 "TwinFinder$Document" "least" "[I", Cond.fieldLink RX8 26 "TwinFinder" "permutations" "LTwinFinder$Permutations;", Cond.fieldLink RX8 47 "TwinFinder" "kin" "LTwinFinder$Kin;", Cond.fieldLink RX8 115 "TwinFinder$Kin" "known" "Z", Cond.methodLink RX8 248 yJx4a65c_size_8abf5, Cond.instanceMethod yJx4a65c_size_8abf5, Cond.selects RJx4a65c yJx4a65c_size_8abf5 yJx4a65c_size_8abf5, Cond.initialized RJx4a65c, Cond.code yJx4a65c_size_8abf5 cJx4a65c_size_8abf5 1 (some .int), Cond.fieldLink RJx4a65c 48 "java/util/ArrayList" "size" "I", Cond.methodLink RX8 172 yJx4a65c_get_915e3, Cond.instanceMethod yJx4a65c_get_915e3, Cond.selects RJx4a65c yJx4a65c_get_915e3 yJx4a65c_get_915e3, Cond.code yJx4a65c_get_915e3 cJx4a65c_get_915e3 2 (some (.object "java/lang/Object")), Cond.methodLink RJx4a65c 118 yJ15_checkIndex_7cf53, Cond.static yJ15_checkIndex_7cf53, Cond.initialized RJ15, Cond.code yJ15_checkIndex_7cf53 cJ15_checkIndex_7cf53 2 (some .int), Cond.methodLink RJ15 105 yJ3_checkIndex_8e157, Cond.static yJ3_checkIndex_8e157, Cond.initialized RJ3]
def wsX8_renewImages_r2 : List Cond := [Cond.code yJ3_checkIndex_8e157 cJ3_checkIndex_8e157 3 (some .int), Cond.methodLink RJx4a65c 123 yJx4a65c_elementData_915e3, Cond.instanceMethod yJx4a65c_elementData_915e3, Cond.selects RJx4a65c yJx4a65c_elementData_915e3 yJx4a65c_elementData_915e3, Cond.code yJx4a65c_elementData_915e3 cJx4a65c_elementData_915e3 2 (some (.object "java/lang/Object")), Cond.fieldLink RJx4a65c 9 "java/util/ArrayList" "elementData" "[Ljava/lang/Object;", Cond.methodLink RX8 107 yX4_leastOf, Cond.instanceMethod yX4_leastOf, Cond.selects RX4 yX4_leastOf yX4_leastOf, Cond.initialized RX4, Cond.code yX4_leastOf cX4_leastOf 5 (some .int), Cond.constant RX4 27 (65521), Cond.fieldLink RX4 63 "TwinFinder$Document" "size" "I", Cond.fieldLink RX4 68 "TwinFinder$Document" "numbers" "[I", Cond.methodLink RX4 71 Lib.Math.min.name, Cond.static Lib.Math.min.name, Cond.initialized "java/lang/Math", Cond.code Lib.Math.min.name Lib.Math.min.code 2 (some .int), Cond.methodLink RX4 43 yX4_imageOf, Cond.instanceMethod yX4_imageOf, Cond.selects RX4 yX4_imageOf yX4_imageOf, Cond.code yX4_imageOf cX4_imageOf 5 (some .int), Cond.fieldLink RX4 18 "TwinFinder$Permutations" "exchanges" "[I", Cond.fieldLink RX4 58 "TwinFinder$Permutations" "moved" "I"]
def wsX8_renewImages_r3 : List Cond := [Cond.fieldLink RX4 21 "TwinFinder$Permutations" "movedKey" "[I", Cond.fieldLink RX4 24 "TwinFinder$Permutations" "movedImage" "[I", Cond.fieldLink RX4 9 "TwinFinder$Permutations" "factor" "[I", Cond.fieldLink RX4 15 "TwinFinder$Permutations" "summand" "[I", Cond.constantLong RX4 61 (65521), Cond.methodLink RX4 28 yX4_isOne, Cond.static yX4_isOne, Cond.code yX4_isOne cX4_isOne 1 (some .boolean), Cond.methodLink RX4 32 yX4_isNumber, Cond.static yX4_isNumber, Cond.code yX4_isNumber cX4_isNumber 1 (some .boolean), Cond.methodLink RX4 47 yX4_keyOf, Cond.static yX4_keyOf, Cond.code yX4_keyOf cX4_keyOf 2 (some .int), Cond.methodLink RX4 54 yX4_placeFor, Cond.instanceMethod yX4_placeFor, Cond.selects RX4 yX4_placeFor yX4_placeFor, Cond.code yX4_placeFor cX4_placeFor 4 (some .int)]
def wsX8_renewImages : List Cond := .code yX8_renewImages cX8_renewImages 4 none :: ((wsX8_renewImages_r1 ++ (wsX8_renewImages_r2 ++ wsX8_renewImages_r3)) ++ wsX80 ++ wsX50 ++ wsX00 ++ wsX10 ++ wsJx4a65c0 ++ wsX40)
def wsX8_tell_r1 : List Cond := [Cond.fieldLink RX8 26 "TwinFinder" "permutations" "LTwinFinder$Permutations;", Cond.methodLink RX8 135 yX4_become, Cond.instanceMethod yX4_become, Cond.selects RX4 yX4_become yX4_become, Cond.initialized RX4, Cond.code yX4_become cX4_become 4 (some .boolean), Cond.fieldLink RX4 9 "TwinFinder$Permutations" "factor" "[I", Cond.fieldLink RX4 15 "TwinFinder$Permutations" "summand" "[I", Cond.fieldLink RX4 35 "TwinFinder$Permutations" "kept" "I", Cond.fieldLink RX4 18 "TwinFinder$Permutations" "exchanges" "[I", Cond.methodLink RX4 28 yX4_isOne, Cond.static yX4_isOne, Cond.code yX4_isOne cX4_isOne 1 (some .boolean), Cond.methodLink RX4 32 yX4_isNumber, Cond.static yX4_isNumber, Cond.code yX4_isNumber cX4_isNumber 1 (some .boolean), Cond.constant RX4 27 (65521), Cond.methodLink RX4 39 yX4_dropMoved, Cond.instanceMethod yX4_dropMoved, Cond.selects RX4 yX4_dropMoved yX4_dropMoved, Cond.code yX4_dropMoved cX4_dropMoved 4 none, Cond.fieldLink RX4 58 "TwinFinder$Permutations" "moved" "I", Cond.fieldLink RX4 21 "TwinFinder$Permutations" "movedKey" "[I", Cond.fieldLink RX4 24 "TwinFinder$Permutations" "movedImage" "[I"]
def wsX8_tell_r2 : List Cond := [Cond.methodLink RX8 139 yX8_renewImages, Cond.instanceMethod yX8_renewImages, Cond.selects RX8 yX8_renewImages yX8_renewImages, Cond.initialized RX8, Cond.code yX8_renewImages cX8_renewImages 4 none, Cond.fieldLink RX8 33 "TwinFinder" "shelf" "LTwinFinder$Shelf;", Cond.fieldLink RX8 168 "TwinFinder$Shelf" "here" "Ljava/util/ArrayList;", Cond.classLink RX8 99 "TwinFinder$Document", Cond.fieldLink RX8 104 "TwinFinder$Document" "least" "[I", Cond.fieldLink RX8 47 "TwinFinder" "kin" "LTwinFinder$Kin;", Cond.fieldLink RX8 115 "TwinFinder$Kin" "known" "Z", Cond.methodLink RX8 248 yJx4a65c_size_8abf5, Cond.instanceMethod yJx4a65c_size_8abf5, Cond.selects RJx4a65c yJx4a65c_size_8abf5 yJx4a65c_size_8abf5, Cond.initialized RJx4a65c, Cond.code yJx4a65c_size_8abf5 cJx4a65c_size_8abf5 1 (some .int), Cond.fieldLink RJx4a65c 48 "java/util/ArrayList" "size" "I", Cond.methodLink RX8 172 yJx4a65c_get_915e3, Cond.instanceMethod yJx4a65c_get_915e3, Cond.selects RJx4a65c yJx4a65c_get_915e3 yJx4a65c_get_915e3, Cond.code yJx4a65c_get_915e3 cJx4a65c_get_915e3 2 (some (.object "java/lang/Object")), Cond.methodLink RJx4a65c 118 yJ15_checkIndex_7cf53, Cond.static yJ15_checkIndex_7cf53, Cond.initialized RJ15]
def wsX8_tell_r3 : List Cond := [Cond.code yJ15_checkIndex_7cf53 cJ15_checkIndex_7cf53 2 (some .int), Cond.methodLink RJ15 105 yJ3_checkIndex_8e157, Cond.static yJ3_checkIndex_8e157, Cond.initialized RJ3, Cond.code yJ3_checkIndex_8e157 cJ3_checkIndex_8e157 3 (some .int), Cond.methodLink RJx4a65c 123 yJx4a65c_elementData_915e3, Cond.instanceMethod yJx4a65c_elementData_915e3, Cond.selects RJx4a65c yJx4a65c_elementData_915e3 yJx4a65c_elementData_915e3, Cond.code yJx4a65c_elementData_915e3 cJx4a65c_elementData_915e3 2 (some (.object "java/lang/Object")), Cond.fieldLink RJx4a65c 9 "java/util/ArrayList" "elementData" "[Ljava/lang/Object;", Cond.methodLink RX8 107 yX4_leastOf, Cond.instanceMethod yX4_leastOf, Cond.selects RX4 yX4_leastOf yX4_leastOf, Cond.code yX4_leastOf cX4_leastOf 5 (some .int), Cond.fieldLink RX4 63 "TwinFinder$Document" "size" "I", Cond.fieldLink RX4 68 "TwinFinder$Document" "numbers" "[I", Cond.methodLink RX4 71 Lib.Math.min.name, Cond.static Lib.Math.min.name, Cond.initialized "java/lang/Math", Cond.code Lib.Math.min.name Lib.Math.min.code 2 (some .int), Cond.methodLink RX4 43 yX4_imageOf, Cond.instanceMethod yX4_imageOf, Cond.selects RX4 yX4_imageOf yX4_imageOf, Cond.code yX4_imageOf cX4_imageOf 5 (some .int)]
def wsX8_tell_r4 : List Cond := [Cond.constantLong RX4 61 (65521), Cond.methodLink RX4 47 yX4_keyOf, Cond.static yX4_keyOf, Cond.code yX4_keyOf cX4_keyOf 2 (some .int), Cond.methodLink RX4 54 yX4_placeFor, Cond.instanceMethod yX4_placeFor, Cond.selects RX4 yX4_placeFor yX4_placeFor, Cond.code yX4_placeFor cX4_placeFor 4 (some .int)]
def wsX8_tell : List Cond := .code yX8_tell cX8_tell 4 (some .boolean) :: ((wsX8_tell_r1 ++ (wsX8_tell_r2 ++ (wsX8_tell_r3 ++ wsX8_tell_r4))) ++ wsX80 ++ wsX40 ++ wsX50 ++ wsX00 ++ wsX10 ++ wsJx4a65c0)
def wsX8_exchange_r1 : List Cond := [Cond.fieldLink RX8 26 "TwinFinder" "permutations" "LTwinFinder$Permutations;", Cond.fieldLink RX8 145 "TwinFinder$Permutations" "kept" "I", Cond.methodLink RX8 142 yX4_swap, Cond.instanceMethod yX4_swap, Cond.selects RX4 yX4_swap yX4_swap, Cond.initialized RX4, Cond.code yX4_swap cX4_swap 6 (some .boolean), Cond.fieldLink RX4 35 "TwinFinder$Permutations" "kept" "I", Cond.fieldLink RX4 18 "TwinFinder$Permutations" "exchanges" "[I", Cond.methodLink RX4 28 yX4_isOne, Cond.static yX4_isOne, Cond.code yX4_isOne cX4_isOne 1 (some .boolean), Cond.methodLink RX4 32 yX4_isNumber, Cond.static yX4_isNumber, Cond.code yX4_isNumber cX4_isNumber 1 (some .boolean), Cond.constant RX4 27 (65521), Cond.methodLink RX4 43 yX4_imageOf, Cond.instanceMethod yX4_imageOf, Cond.selects RX4 yX4_imageOf yX4_imageOf, Cond.code yX4_imageOf cX4_imageOf 5 (some .int), Cond.fieldLink RX4 58 "TwinFinder$Permutations" "moved" "I", Cond.fieldLink RX4 21 "TwinFinder$Permutations" "movedKey" "[I", Cond.fieldLink RX4 24 "TwinFinder$Permutations" "movedImage" "[I", Cond.fieldLink RX4 9 "TwinFinder$Permutations" "factor" "[I"]
def wsX8_exchange_r2 : List Cond := [Cond.fieldLink RX4 15 "TwinFinder$Permutations" "summand" "[I", Cond.constantLong RX4 61 (65521), Cond.methodLink RX4 47 yX4_keyOf, Cond.static yX4_keyOf, Cond.code yX4_keyOf cX4_keyOf 2 (some .int), Cond.methodLink RX4 54 yX4_placeFor, Cond.instanceMethod yX4_placeFor, Cond.selects RX4 yX4_placeFor yX4_placeFor, Cond.code yX4_placeFor cX4_placeFor 4 (some .int), Cond.methodLink RX4 50 yX4_move, Cond.instanceMethod yX4_move, Cond.selects RX4 yX4_move yX4_move, Cond.code yX4_move cX4_move 5 none, Cond.methodLink RX8 139 yX8_renewImages, Cond.instanceMethod yX8_renewImages, Cond.selects RX8 yX8_renewImages yX8_renewImages, Cond.initialized RX8, Cond.code yX8_renewImages cX8_renewImages 4 none, Cond.fieldLink RX8 33 "TwinFinder" "shelf" "LTwinFinder$Shelf;", Cond.fieldLink RX8 168 "TwinFinder$Shelf" "here" "Ljava/util/ArrayList;", Cond.classLink RX8 99 "TwinFinder$Document", Cond.fieldLink RX8 104 "TwinFinder$Document" "least" "[I", Cond.fieldLink RX8 47 "TwinFinder" "kin" "LTwinFinder$Kin;", Cond.fieldLink RX8 115 "TwinFinder$Kin" "known" "Z"]
def wsX8_exchange_r3 : List Cond := [Cond.methodLink RX8 248 yJx4a65c_size_8abf5, Cond.instanceMethod yJx4a65c_size_8abf5, Cond.selects RJx4a65c yJx4a65c_size_8abf5 yJx4a65c_size_8abf5, Cond.initialized RJx4a65c, Cond.code yJx4a65c_size_8abf5 cJx4a65c_size_8abf5 1 (some .int), Cond.fieldLink RJx4a65c 48 "java/util/ArrayList" "size" "I", Cond.methodLink RX8 172 yJx4a65c_get_915e3, Cond.instanceMethod yJx4a65c_get_915e3, Cond.selects RJx4a65c yJx4a65c_get_915e3 yJx4a65c_get_915e3, Cond.code yJx4a65c_get_915e3 cJx4a65c_get_915e3 2 (some (.object "java/lang/Object")), Cond.methodLink RJx4a65c 118 yJ15_checkIndex_7cf53, Cond.static yJ15_checkIndex_7cf53, Cond.initialized RJ15, Cond.code yJ15_checkIndex_7cf53 cJ15_checkIndex_7cf53 2 (some .int), Cond.methodLink RJ15 105 yJ3_checkIndex_8e157, Cond.static yJ3_checkIndex_8e157, Cond.initialized RJ3, Cond.code yJ3_checkIndex_8e157 cJ3_checkIndex_8e157 3 (some .int), Cond.methodLink RJx4a65c 123 yJx4a65c_elementData_915e3, Cond.instanceMethod yJx4a65c_elementData_915e3, Cond.selects RJx4a65c yJx4a65c_elementData_915e3 yJx4a65c_elementData_915e3, Cond.code yJx4a65c_elementData_915e3 cJx4a65c_elementData_915e3 2 (some (.object "java/lang/Object")), Cond.fieldLink RJx4a65c 9 "java/util/ArrayList" "elementData" "[Ljava/lang/Object;", Cond.methodLink RX8 107 yX4_leastOf]
def wsX8_exchange_r4 : List Cond := [Cond.instanceMethod yX4_leastOf, Cond.selects RX4 yX4_leastOf yX4_leastOf, Cond.code yX4_leastOf cX4_leastOf 5 (some .int), Cond.fieldLink RX4 63 "TwinFinder$Document" "size" "I", Cond.fieldLink RX4 68 "TwinFinder$Document" "numbers" "[I", Cond.methodLink RX4 71 Lib.Math.min.name, Cond.static Lib.Math.min.name, Cond.initialized "java/lang/Math", Cond.code Lib.Math.min.name Lib.Math.min.code 2 (some .int)]
def wsX8_exchange : List Cond := .code yX8_exchange cX8_exchange 4 (some .int) :: ((wsX8_exchange_r1 ++ (wsX8_exchange_r2 ++ (wsX8_exchange_r3 ++ wsX8_exchange_r4))) ++ wsX80 ++ wsX40 ++ wsX50 ++ wsX00 ++ wsX10 ++ wsJx4a65c0)
def wsX8_image_r1 : List Cond := [Cond.fieldLink RX8 26 "TwinFinder" "permutations" "LTwinFinder$Permutations;", Cond.methodLink RX8 148 yX4_imageOf, Cond.instanceMethod yX4_imageOf, Cond.selects RX4 yX4_imageOf yX4_imageOf, Cond.initialized RX4, Cond.code yX4_imageOf cX4_imageOf 5 (some .int), Cond.fieldLink RX4 18 "TwinFinder$Permutations" "exchanges" "[I", Cond.fieldLink RX4 58 "TwinFinder$Permutations" "moved" "I", Cond.fieldLink RX4 21 "TwinFinder$Permutations" "movedKey" "[I", Cond.fieldLink RX4 24 "TwinFinder$Permutations" "movedImage" "[I", Cond.fieldLink RX4 9 "TwinFinder$Permutations" "factor" "[I", Cond.fieldLink RX4 15 "TwinFinder$Permutations" "summand" "[I", Cond.constantLong RX4 61 (65521), Cond.methodLink RX4 28 yX4_isOne, Cond.static yX4_isOne, Cond.code yX4_isOne cX4_isOne 1 (some .boolean), Cond.methodLink RX4 32 yX4_isNumber, Cond.static yX4_isNumber, Cond.code yX4_isNumber cX4_isNumber 1 (some .boolean), Cond.constant RX4 27 (65521), Cond.methodLink RX4 47 yX4_keyOf, Cond.static yX4_keyOf, Cond.code yX4_keyOf cX4_keyOf 2 (some .int), Cond.methodLink RX4 54 yX4_placeFor]
def wsX8_image_r2 : List Cond := [Cond.instanceMethod yX4_placeFor, Cond.selects RX4 yX4_placeFor yX4_placeFor, Cond.code yX4_placeFor cX4_placeFor 4 (some .int)]
def wsX8_image : List Cond := .code yX8_image cX8_image 3 (some .int) :: ((wsX8_image_r1 ++ wsX8_image_r2) ++ wsX80 ++ wsX40)
def wsX8_bands : List Cond := .code yX8_bands cX8_bands 4 (some .boolean) :: ([.fieldLink RX8 40 "TwinFinder" "measure" "LTwinFinder$Measure;", .fieldLink RX8 47 "TwinFinder" "kin" "LTwinFinder$Kin;", .fieldLink RX8 115 "TwinFinder$Kin" "known" "Z", .methodLink RX8 152 yX2_takeBands, .instanceMethod yX2_takeBands, .selects RX2 yX2_takeBands yX2_takeBands, .initialized RX2, .code yX2_takeBands cX2_takeBands 3 (some .boolean), .fieldLink RX2 9 "TwinFinder$Measure" "bandCount" "I", .fieldLink RX2 15 "TwinFinder$Measure" "rowCount" "I"] ++ wsX80 ++ wsX10 ++ wsX20)
def wsX8_threshold : List Cond := .code yX8_threshold cX8_threshold 4 (some .boolean) :: ([.fieldLink RX8 40 "TwinFinder" "measure" "LTwinFinder$Measure;", .fieldLink RX8 47 "TwinFinder" "kin" "LTwinFinder$Kin;", .fieldLink RX8 115 "TwinFinder$Kin" "known" "Z", .methodLink RX8 156 yX2_takeThreshold, .instanceMethod yX2_takeThreshold, .selects RX2 yX2_takeThreshold yX2_takeThreshold, .initialized RX2, .code yX2_takeThreshold cX2_takeThreshold 3 (some .boolean), .fieldLink RX2 18 "TwinFinder$Measure" "p" "I", .fieldLink RX2 21 "TwinFinder$Measure" "q" "I"] ++ wsX80 ++ wsX10 ++ wsX20)
def wsX8_document_r1 : List Cond := [Cond.classLink RX8 163 "java/util/NoSuchElementException", Cond.initialized "java/util/NoSuchElementException", Cond.fieldLink RX8 33 "TwinFinder" "shelf" "LTwinFinder$Shelf;", Cond.fieldLink RX8 168 "TwinFinder$Shelf" "here" "Ljava/util/ArrayList;", Cond.classLink RX8 99 "TwinFinder$Document", Cond.fieldLink RX8 178 "TwinFinder$Document" "size" "I", Cond.fieldLink RX8 47 "TwinFinder" "kin" "LTwinFinder$Kin;", Cond.fieldLink RX8 40 "TwinFinder" "measure" "LTwinFinder$Measure;", Cond.methodLink RX8 159 yX5_placeOf, Cond.instanceMethod yX5_placeOf, Cond.selects RX5 yX5_placeOf yX5_placeOf, Cond.initialized RX5, Cond.code yX5_placeOf cX5_placeOf 3 (some .int), Cond.fieldLink RX5 12 "TwinFinder$Shelf" "here" "Ljava/util/ArrayList;", Cond.classLink RX5 36 "TwinFinder$Document", Cond.fieldLink RX5 38 "TwinFinder$Document" "number" "I", Cond.methodLink RX5 24 yJx4a65c_size_8abf5, Cond.instanceMethod yJx4a65c_size_8abf5, Cond.selects RJx4a65c yJx4a65c_size_8abf5 yJx4a65c_size_8abf5, Cond.initialized RJx4a65c, Cond.code yJx4a65c_size_8abf5 cJx4a65c_size_8abf5 1 (some .int), Cond.fieldLink RJx4a65c 48 "java/util/ArrayList" "size" "I", Cond.methodLink RX5 32 yJx4a65c_get_915e3, Cond.instanceMethod yJx4a65c_get_915e3]
def wsX8_document_r2 : List Cond := [Cond.selects RJx4a65c yJx4a65c_get_915e3 yJx4a65c_get_915e3, Cond.code yJx4a65c_get_915e3 cJx4a65c_get_915e3 2 (some (.object "java/lang/Object")), Cond.methodLink RJx4a65c 118 yJ15_checkIndex_7cf53, Cond.static yJ15_checkIndex_7cf53, Cond.initialized RJ15, Cond.code yJ15_checkIndex_7cf53 cJ15_checkIndex_7cf53 2 (some .int), Cond.methodLink RJ15 105 yJ3_checkIndex_8e157, Cond.static yJ3_checkIndex_8e157, Cond.initialized RJ3, Cond.code yJ3_checkIndex_8e157 cJ3_checkIndex_8e157 3 (some .int), Cond.methodLink RJx4a65c 123 yJx4a65c_elementData_915e3, Cond.instanceMethod yJx4a65c_elementData_915e3, Cond.selects RJx4a65c yJx4a65c_elementData_915e3 yJx4a65c_elementData_915e3, Cond.code yJx4a65c_elementData_915e3 cJx4a65c_elementData_915e3 2 (some (.object "java/lang/Object")), Cond.fieldLink RJx4a65c 9 "java/util/ArrayList" "elementData" "[Ljava/lang/Object;", Cond.methodLink RX8 172 yJx4a65c_get_915e3, Cond.methodLink RX8 181 yX1_learn, Cond.instanceMethod yX1_learn, Cond.selects RX1 yX1_learn yX1_learn, Cond.initialized RX1, Cond.code yX1_learn cX1_learn 5 none, Cond.fieldLink RX1 34 "TwinFinder$Kin" "known" "Z", Cond.fieldLink RX1 42 "TwinFinder$Kin" "places" "I", Cond.classLink RX1 52 "TwinFinder$Document"]
def wsX8_document_r3 : List Cond := [Cond.fieldLink RX1 31 "TwinFinder$Kin" "members" "[I", Cond.fieldLink RX1 28 "TwinFinder$Kin" "leader" "[I", Cond.methodLink RX1 38 yX1_begin, Cond.instanceMethod yX1_begin, Cond.selects RX1 yX1_begin yX1_begin, Cond.code yX1_begin cX1_begin 3 none, Cond.methodLink RX1 62 Lib.Math.min.name, Cond.static Lib.Math.min.name, Cond.initialized "java/lang/Math", Cond.code Lib.Math.min.name Lib.Math.min.code 2 (some .int), Cond.fieldLink RX1 12 "TwinFinder$Kin" "candidates" "LTwinFinder$PairRow;", Cond.fieldLink RX1 68 "TwinFinder$PairRow" "size" "I", Cond.fieldLink RX1 18 "TwinFinder$Kin" "twins" "LTwinFinder$PairRow;", Cond.fieldLink RX1 21 "TwinFinder$Kin" "number" "[I", Cond.fieldLink RX1 70 "TwinFinder$Document" "number" "I", Cond.fieldLink RX1 25 "TwinFinder$Kin" "twinCount" "[I", Cond.methodLink RX1 58 yJx4a65c_size_8abf5, Cond.methodLink RX1 46 yJx4a65c_get_915e3, Cond.methodLink RX1 54 yX1_compare, Cond.instanceMethod yX1_compare, Cond.selects RX1 yX1_compare yX1_compare, Cond.code yX1_compare cX1_compare 6 none, Cond.methodLink RX1 72 yX2_firstBand, Cond.instanceMethod yX2_firstBand]
def wsX8_document_r4 : List Cond := [Cond.selects RX2 yX2_firstBand yX2_firstBand, Cond.initialized RX2, Cond.code yX2_firstBand cX2_firstBand 4 (some .int), Cond.fieldLink RX2 33 "TwinFinder$Document" "size" "I", Cond.fieldLink RX2 9 "TwinFinder$Measure" "bandCount" "I", Cond.fieldLink RX2 15 "TwinFinder$Measure" "rowCount" "I", Cond.methodLink RX2 43 yX2_agree, Cond.instanceMethod yX2_agree, Cond.selects RX2 yX2_agree yX2_agree, Cond.code yX2_agree cX2_agree 5 (some .boolean), Cond.fieldLink RX2 40 "TwinFinder$Document" "least" "[I", Cond.methodLink RX1 78 yX3_put, Cond.instanceMethod yX3_put, Cond.selects RX3 yX3_put yX3_put, Cond.initialized RX3, Cond.code yX3_put cX3_put 3 none, Cond.fieldLink RX3 18 "TwinFinder$PairRow" "size" "I", Cond.fieldLink RX3 9 "TwinFinder$PairRow" "first" "[I", Cond.fieldLink RX3 15 "TwinFinder$PairRow" "second" "[I", Cond.methodLink RX1 82 yX2_areNear, Cond.instanceMethod yX2_areNear, Cond.selects RX2 yX2_areNear yX2_areNear, Cond.code yX2_areNear cX2_areNear 3 (some .boolean), Cond.fieldLink RX2 21 "TwinFinder$Measure" "q" "I"]
def wsX8_document_r5 : List Cond := [Cond.fieldLink RX2 18 "TwinFinder$Measure" "p" "I", Cond.methodLink RX2 36 yX2_common, Cond.instanceMethod yX2_common, Cond.selects RX2 yX2_common yX2_common, Cond.code yX2_common cX2_common 3 (some .int), Cond.fieldLink RX2 24 "TwinFinder$Document" "shared" "[I", Cond.fieldLink RX2 30 "TwinFinder$Document" "slot" "I", Cond.methodLink RX2 54 yX2_all, Cond.instanceMethod yX2_all, Cond.selects RX2 yX2_all yX2_all, Cond.code yX2_all cX2_all 3 (some .int), Cond.methodLink RX1 86 yX1_join, Cond.instanceMethod yX1_join, Cond.selects RX1 yX1_join yX1_join, Cond.code yX1_join cX1_join 6 none, Cond.methodLink RX1 89 Lib.Math.max.name, Cond.static Lib.Math.max.name, Cond.code Lib.Math.max.name Lib.Math.max.code 2 (some .int), Cond.methodLink RX8 185 yX1_familyOf, Cond.instanceMethod yX1_familyOf, Cond.selects RX1 yX1_familyOf yX1_familyOf, Cond.code yX1_familyOf cX1_familyOf 2 (some .int), Cond.methodLink RX8 188 yX1_membersWith, Cond.instanceMethod yX1_membersWith]
def wsX8_document_r6 : List Cond := [Cond.selects RX1 yX1_membersWith yX1_membersWith, Cond.code yX1_membersWith cX1_membersWith 2 (some .int), Cond.methodLink RX8 191 yX1_twinsOf, Cond.instanceMethod yX1_twinsOf, Cond.selects RX1 yX1_twinsOf yX1_twinsOf, Cond.code yX1_twinsOf cX1_twinsOf 2 (some .int)]
def wsX8_document : List Cond := .code yX8_document cX8_document 4 (some .int) :: ((wsX8_document_r1 ++ (wsX8_document_r2 ++ (wsX8_document_r3 ++ (wsX8_document_r4 ++ (wsX8_document_r5 ++ wsX8_document_r6))))) ++ wsX80 ++ wsX50 ++ wsX00 ++ wsJx4a65c0 ++ wsX10 ++ wsX30 ++ wsX20 ++ (vx_atS RX8 167 "java/util/NoSuchElementException" ["java/lang/RuntimeException", "java/lang/Exception"]).filter goodWord)
def wsX8_documentThere_r1 : List Cond := [Cond.classLink RX8 163 "java/util/NoSuchElementException", Cond.initialized "java/util/NoSuchElementException", Cond.fieldLink RX8 33 "TwinFinder" "shelf" "LTwinFinder$Shelf;", Cond.fieldLink RX8 168 "TwinFinder$Shelf" "here" "Ljava/util/ArrayList;", Cond.classLink RX8 99 "TwinFinder$Document", Cond.methodLink RX8 159 yX5_placeOf, Cond.instanceMethod yX5_placeOf, Cond.selects RX5 yX5_placeOf yX5_placeOf, Cond.initialized RX5, Cond.code yX5_placeOf cX5_placeOf 3 (some .int), Cond.fieldLink RX5 12 "TwinFinder$Shelf" "here" "Ljava/util/ArrayList;", Cond.classLink RX5 36 "TwinFinder$Document", Cond.fieldLink RX5 38 "TwinFinder$Document" "number" "I", Cond.methodLink RX5 24 yJx4a65c_size_8abf5, Cond.instanceMethod yJx4a65c_size_8abf5, Cond.selects RJx4a65c yJx4a65c_size_8abf5 yJx4a65c_size_8abf5, Cond.initialized RJx4a65c, Cond.code yJx4a65c_size_8abf5 cJx4a65c_size_8abf5 1 (some .int), Cond.fieldLink RJx4a65c 48 "java/util/ArrayList" "size" "I", Cond.methodLink RX5 32 yJx4a65c_get_915e3, Cond.instanceMethod yJx4a65c_get_915e3, Cond.selects RJx4a65c yJx4a65c_get_915e3 yJx4a65c_get_915e3, Cond.code yJx4a65c_get_915e3 cJx4a65c_get_915e3 2 (some (.object "java/lang/Object")), Cond.methodLink RJx4a65c 118 yJ15_checkIndex_7cf53]
def wsX8_documentThere_r2 : List Cond := [Cond.static yJ15_checkIndex_7cf53, Cond.initialized RJ15, Cond.code yJ15_checkIndex_7cf53 cJ15_checkIndex_7cf53 2 (some .int), Cond.methodLink RJ15 105 yJ3_checkIndex_8e157, Cond.static yJ3_checkIndex_8e157, Cond.initialized RJ3, Cond.code yJ3_checkIndex_8e157 cJ3_checkIndex_8e157 3 (some .int), Cond.methodLink RJx4a65c 123 yJx4a65c_elementData_915e3, Cond.instanceMethod yJx4a65c_elementData_915e3, Cond.selects RJx4a65c yJx4a65c_elementData_915e3 yJx4a65c_elementData_915e3, Cond.code yJx4a65c_elementData_915e3 cJx4a65c_elementData_915e3 2 (some (.object "java/lang/Object")), Cond.fieldLink RJx4a65c 9 "java/util/ArrayList" "elementData" "[Ljava/lang/Object;", Cond.methodLink RX8 172 yJx4a65c_get_915e3]
def wsX8_documentThere : List Cond := .code yX8_documentThere cX8_documentThere 3 (some (.object "TwinFinder$Document")) :: ((wsX8_documentThere_r1 ++ wsX8_documentThere_r2) ++ wsX80 ++ wsX50 ++ wsX00 ++ wsJx4a65c0 ++ (vx_atS RX8 167 "java/util/NoSuchElementException" ["java/lang/RuntimeException", "java/lang/Exception"]).filter goodWord)
def wsX8_shingle_r1 : List Cond := [Cond.fieldLink RX8 178 "TwinFinder$Document" "size" "I", Cond.fieldLink RX8 198 "TwinFinder$Document" "numbers" "[I", Cond.methodLink RX8 194 yX8_documentThere, Cond.instanceMethod yX8_documentThere, Cond.selects RX8 yX8_documentThere yX8_documentThere, Cond.initialized RX8, Cond.code yX8_documentThere cX8_documentThere 3 (some (.object "TwinFinder$Document")), Cond.classLink RX8 163 "java/util/NoSuchElementException", Cond.initialized "java/util/NoSuchElementException", Cond.fieldLink RX8 33 "TwinFinder" "shelf" "LTwinFinder$Shelf;", Cond.fieldLink RX8 168 "TwinFinder$Shelf" "here" "Ljava/util/ArrayList;", Cond.classLink RX8 99 "TwinFinder$Document", Cond.methodLink RX8 159 yX5_placeOf, Cond.instanceMethod yX5_placeOf, Cond.selects RX5 yX5_placeOf yX5_placeOf, Cond.initialized RX5, Cond.code yX5_placeOf cX5_placeOf 3 (some .int), Cond.fieldLink RX5 12 "TwinFinder$Shelf" "here" "Ljava/util/ArrayList;", Cond.classLink RX5 36 "TwinFinder$Document", Cond.fieldLink RX5 38 "TwinFinder$Document" "number" "I", Cond.methodLink RX5 24 yJx4a65c_size_8abf5, Cond.instanceMethod yJx4a65c_size_8abf5, Cond.selects RJx4a65c yJx4a65c_size_8abf5 yJx4a65c_size_8abf5, Cond.initialized RJx4a65c]
def wsX8_shingle_r2 : List Cond := [Cond.code yJx4a65c_size_8abf5 cJx4a65c_size_8abf5 1 (some .int), Cond.fieldLink RJx4a65c 48 "java/util/ArrayList" "size" "I", Cond.methodLink RX5 32 yJx4a65c_get_915e3, Cond.instanceMethod yJx4a65c_get_915e3, Cond.selects RJx4a65c yJx4a65c_get_915e3 yJx4a65c_get_915e3, Cond.code yJx4a65c_get_915e3 cJx4a65c_get_915e3 2 (some (.object "java/lang/Object")), Cond.methodLink RJx4a65c 118 yJ15_checkIndex_7cf53, Cond.static yJ15_checkIndex_7cf53, Cond.initialized RJ15, Cond.code yJ15_checkIndex_7cf53 cJ15_checkIndex_7cf53 2 (some .int), Cond.methodLink RJ15 105 yJ3_checkIndex_8e157, Cond.static yJ3_checkIndex_8e157, Cond.initialized RJ3, Cond.code yJ3_checkIndex_8e157 cJ3_checkIndex_8e157 3 (some .int), Cond.methodLink RJx4a65c 123 yJx4a65c_elementData_915e3, Cond.instanceMethod yJx4a65c_elementData_915e3, Cond.selects RJx4a65c yJx4a65c_elementData_915e3 yJx4a65c_elementData_915e3, Cond.code yJx4a65c_elementData_915e3 cJx4a65c_elementData_915e3 2 (some (.object "java/lang/Object")), Cond.fieldLink RJx4a65c 9 "java/util/ArrayList" "elementData" "[Ljava/lang/Object;", Cond.methodLink RX8 172 yJx4a65c_get_915e3]
def wsX8_shingle : List Cond := .code yX8_shingle cX8_shingle 4 (some .int) :: ((wsX8_shingle_r1 ++ wsX8_shingle_r2) ++ wsX00 ++ wsX80 ++ wsX50 ++ wsJx4a65c0 ++ (vx_atS RX8 167 "java/util/NoSuchElementException" ["java/lang/RuntimeException", "java/lang/Exception"]).filter goodWord)
def wsX8_letter : List Cond := .code yX8_letter cX8_letter 3 (some .int) :: ([.fieldLink RX8 19 "TwinFinder" "store" "LTwinFinder$Store;", .methodLink RX8 201 yX6_byteOf, .instanceMethod yX6_byteOf, .selects RX6 yX6_byteOf yX6_byteOf, .initialized RX6, .code yX6_byteOf cX6_byteOf 3 (some .int), .fieldLink RX6 26 "TwinFinder$Store" "given" "I", .fieldLink RX6 16 "TwinFinder$Store" "begin" "[I", .fieldLink RX6 10 "TwinFinder$Store" "letters" "[B"] ++ wsX80 ++ wsX60)
def wsX8_signature_r1 : List Cond := [Cond.classLink RX8 163 "java/util/NoSuchElementException", Cond.initialized "java/util/NoSuchElementException", Cond.fieldLink RX8 104 "TwinFinder$Document" "least" "[I", Cond.methodLink RX8 194 yX8_documentThere, Cond.instanceMethod yX8_documentThere, Cond.selects RX8 yX8_documentThere yX8_documentThere, Cond.initialized RX8, Cond.code yX8_documentThere cX8_documentThere 3 (some (.object "TwinFinder$Document")), Cond.fieldLink RX8 33 "TwinFinder" "shelf" "LTwinFinder$Shelf;", Cond.fieldLink RX8 168 "TwinFinder$Shelf" "here" "Ljava/util/ArrayList;", Cond.classLink RX8 99 "TwinFinder$Document", Cond.methodLink RX8 159 yX5_placeOf, Cond.instanceMethod yX5_placeOf, Cond.selects RX5 yX5_placeOf yX5_placeOf, Cond.initialized RX5, Cond.code yX5_placeOf cX5_placeOf 3 (some .int), Cond.fieldLink RX5 12 "TwinFinder$Shelf" "here" "Ljava/util/ArrayList;", Cond.classLink RX5 36 "TwinFinder$Document", Cond.fieldLink RX5 38 "TwinFinder$Document" "number" "I", Cond.methodLink RX5 24 yJx4a65c_size_8abf5, Cond.instanceMethod yJx4a65c_size_8abf5, Cond.selects RJx4a65c yJx4a65c_size_8abf5 yJx4a65c_size_8abf5, Cond.initialized RJx4a65c, Cond.code yJx4a65c_size_8abf5 cJx4a65c_size_8abf5 1 (some .int)]
def wsX8_signature_r2 : List Cond := [Cond.fieldLink RJx4a65c 48 "java/util/ArrayList" "size" "I", Cond.methodLink RX5 32 yJx4a65c_get_915e3, Cond.instanceMethod yJx4a65c_get_915e3, Cond.selects RJx4a65c yJx4a65c_get_915e3 yJx4a65c_get_915e3, Cond.code yJx4a65c_get_915e3 cJx4a65c_get_915e3 2 (some (.object "java/lang/Object")), Cond.methodLink RJx4a65c 118 yJ15_checkIndex_7cf53, Cond.static yJ15_checkIndex_7cf53, Cond.initialized RJ15, Cond.code yJ15_checkIndex_7cf53 cJ15_checkIndex_7cf53 2 (some .int), Cond.methodLink RJ15 105 yJ3_checkIndex_8e157, Cond.static yJ3_checkIndex_8e157, Cond.initialized RJ3, Cond.code yJ3_checkIndex_8e157 cJ3_checkIndex_8e157 3 (some .int), Cond.methodLink RJx4a65c 123 yJx4a65c_elementData_915e3, Cond.instanceMethod yJx4a65c_elementData_915e3, Cond.selects RJx4a65c yJx4a65c_elementData_915e3 yJx4a65c_elementData_915e3, Cond.code yJx4a65c_elementData_915e3 cJx4a65c_elementData_915e3 2 (some (.object "java/lang/Object")), Cond.fieldLink RJx4a65c 9 "java/util/ArrayList" "elementData" "[Ljava/lang/Object;", Cond.methodLink RX8 172 yJx4a65c_get_915e3]
def wsX8_signature : List Cond := .code yX8_signature cX8_signature 4 (some .int) :: ((wsX8_signature_r1 ++ wsX8_signature_r2) ++ wsX00 ++ wsX80 ++ wsX50 ++ wsJx4a65c0 ++ (vx_atS RX8 167 "java/util/NoSuchElementException" ["java/lang/RuntimeException", "java/lang/Exception"]).filter goodWord)
def wsX8_both_r1 : List Cond := [Cond.classLink RX8 163 "java/util/NoSuchElementException", Cond.initialized "java/util/NoSuchElementException", Cond.fieldLink RX8 40 "TwinFinder" "measure" "LTwinFinder$Measure;", Cond.methodLink RX8 194 yX8_documentThere, Cond.instanceMethod yX8_documentThere, Cond.selects RX8 yX8_documentThere yX8_documentThere, Cond.initialized RX8, Cond.code yX8_documentThere cX8_documentThere 3 (some (.object "TwinFinder$Document")), Cond.fieldLink RX8 33 "TwinFinder" "shelf" "LTwinFinder$Shelf;", Cond.fieldLink RX8 168 "TwinFinder$Shelf" "here" "Ljava/util/ArrayList;", Cond.classLink RX8 99 "TwinFinder$Document", Cond.methodLink RX8 159 yX5_placeOf, Cond.instanceMethod yX5_placeOf, Cond.selects RX5 yX5_placeOf yX5_placeOf, Cond.initialized RX5, Cond.code yX5_placeOf cX5_placeOf 3 (some .int), Cond.fieldLink RX5 12 "TwinFinder$Shelf" "here" "Ljava/util/ArrayList;", Cond.classLink RX5 36 "TwinFinder$Document", Cond.fieldLink RX5 38 "TwinFinder$Document" "number" "I", Cond.methodLink RX5 24 yJx4a65c_size_8abf5, Cond.instanceMethod yJx4a65c_size_8abf5, Cond.selects RJx4a65c yJx4a65c_size_8abf5 yJx4a65c_size_8abf5, Cond.initialized RJx4a65c, Cond.code yJx4a65c_size_8abf5 cJx4a65c_size_8abf5 1 (some .int)]
def wsX8_both_r2 : List Cond := [Cond.fieldLink RJx4a65c 48 "java/util/ArrayList" "size" "I", Cond.methodLink RX5 32 yJx4a65c_get_915e3, Cond.instanceMethod yJx4a65c_get_915e3, Cond.selects RJx4a65c yJx4a65c_get_915e3 yJx4a65c_get_915e3, Cond.code yJx4a65c_get_915e3 cJx4a65c_get_915e3 2 (some (.object "java/lang/Object")), Cond.methodLink RJx4a65c 118 yJ15_checkIndex_7cf53, Cond.static yJ15_checkIndex_7cf53, Cond.initialized RJ15, Cond.code yJ15_checkIndex_7cf53 cJ15_checkIndex_7cf53 2 (some .int), Cond.methodLink RJ15 105 yJ3_checkIndex_8e157, Cond.static yJ3_checkIndex_8e157, Cond.initialized RJ3, Cond.code yJ3_checkIndex_8e157 cJ3_checkIndex_8e157 3 (some .int), Cond.methodLink RJx4a65c 123 yJx4a65c_elementData_915e3, Cond.instanceMethod yJx4a65c_elementData_915e3, Cond.selects RJx4a65c yJx4a65c_elementData_915e3 yJx4a65c_elementData_915e3, Cond.code yJx4a65c_elementData_915e3 cJx4a65c_elementData_915e3 2 (some (.object "java/lang/Object")), Cond.fieldLink RJx4a65c 9 "java/util/ArrayList" "elementData" "[Ljava/lang/Object;", Cond.methodLink RX8 172 yJx4a65c_get_915e3, Cond.methodLink RX8 208 yX2_common, Cond.instanceMethod yX2_common, Cond.selects RX2 yX2_common yX2_common, Cond.initialized RX2, Cond.code yX2_common cX2_common 3 (some .int)]
def wsX8_both_r3 : List Cond := [Cond.fieldLink RX2 24 "TwinFinder$Document" "shared" "[I", Cond.fieldLink RX2 30 "TwinFinder$Document" "slot" "I", Cond.methodLink RX8 212 yX2_all, Cond.instanceMethod yX2_all, Cond.selects RX2 yX2_all yX2_all, Cond.code yX2_all cX2_all 3 (some .int), Cond.fieldLink RX2 33 "TwinFinder$Document" "size" "I", Cond.methodLink RX2 36 yX2_common, Cond.methodLink RX8 215 yX2_sameImages, Cond.instanceMethod yX2_sameImages, Cond.selects RX2 yX2_sameImages yX2_sameImages, Cond.code yX2_sameImages cX2_sameImages 5 (some .int), Cond.fieldLink RX2 9 "TwinFinder$Measure" "bandCount" "I", Cond.fieldLink RX2 15 "TwinFinder$Measure" "rowCount" "I", Cond.fieldLink RX2 40 "TwinFinder$Document" "least" "[I", Cond.methodLink RX8 218 yX2_firstBand, Cond.instanceMethod yX2_firstBand, Cond.selects RX2 yX2_firstBand yX2_firstBand, Cond.code yX2_firstBand cX2_firstBand 4 (some .int), Cond.methodLink RX2 43 yX2_agree, Cond.instanceMethod yX2_agree, Cond.selects RX2 yX2_agree yX2_agree, Cond.code yX2_agree cX2_agree 5 (some .boolean), Cond.methodLink RX8 221 yX2_areTwins]
def wsX8_both_r4 : List Cond := [Cond.instanceMethod yX2_areTwins, Cond.selects RX2 yX2_areTwins yX2_areTwins, Cond.code yX2_areTwins cX2_areTwins 3 (some .boolean), Cond.methodLink RX2 47 yX2_firstBand, Cond.methodLink RX2 50 yX2_areNear, Cond.instanceMethod yX2_areNear, Cond.selects RX2 yX2_areNear yX2_areNear, Cond.code yX2_areNear cX2_areNear 3 (some .boolean), Cond.fieldLink RX2 21 "TwinFinder$Measure" "q" "I", Cond.fieldLink RX2 18 "TwinFinder$Measure" "p" "I", Cond.methodLink RX2 54 yX2_all]
def wsX8_both : List Cond := .code yX8_both cX8_both 6 (some .int) :: ((wsX8_both_r1 ++ (wsX8_both_r2 ++ (wsX8_both_r3 ++ wsX8_both_r4))) ++ wsX80 ++ wsX50 ++ wsX00 ++ wsJx4a65c0 ++ wsX20 ++ (vx_atS RX8 167 "java/util/NoSuchElementException" ["java/lang/RuntimeException", "java/lang/Exception"]).filter goodWord)
def wsX8_pairs_r1 : List Cond := [Cond.fieldLink RX8 47 "TwinFinder" "kin" "LTwinFinder$Kin;", Cond.fieldLink RX8 33 "TwinFinder" "shelf" "LTwinFinder$Shelf;", Cond.fieldLink RX8 168 "TwinFinder$Shelf" "here" "Ljava/util/ArrayList;", Cond.fieldLink RX8 40 "TwinFinder" "measure" "LTwinFinder$Measure;", Cond.fieldLink RX8 225 "TwinFinder$Kin" "candidates" "LTwinFinder$PairRow;", Cond.fieldLink RX8 229 "TwinFinder$PairRow" "size" "I", Cond.fieldLink RX8 232 "TwinFinder$Kin" "twins" "LTwinFinder$PairRow;", Cond.methodLink RX8 181 yX1_learn, Cond.instanceMethod yX1_learn, Cond.selects RX1 yX1_learn yX1_learn, Cond.initialized RX1, Cond.code yX1_learn cX1_learn 5 none, Cond.fieldLink RX1 34 "TwinFinder$Kin" "known" "Z", Cond.fieldLink RX1 42 "TwinFinder$Kin" "places" "I", Cond.classLink RX1 52 "TwinFinder$Document", Cond.fieldLink RX1 31 "TwinFinder$Kin" "members" "[I", Cond.fieldLink RX1 28 "TwinFinder$Kin" "leader" "[I", Cond.methodLink RX1 38 yX1_begin, Cond.instanceMethod yX1_begin, Cond.selects RX1 yX1_begin yX1_begin, Cond.code yX1_begin cX1_begin 3 none, Cond.methodLink RX1 62 Lib.Math.min.name, Cond.static Lib.Math.min.name, Cond.initialized "java/lang/Math"]
def wsX8_pairs_r2 : List Cond := [Cond.code Lib.Math.min.name Lib.Math.min.code 2 (some .int), Cond.fieldLink RX1 12 "TwinFinder$Kin" "candidates" "LTwinFinder$PairRow;", Cond.fieldLink RX1 68 "TwinFinder$PairRow" "size" "I", Cond.fieldLink RX1 18 "TwinFinder$Kin" "twins" "LTwinFinder$PairRow;", Cond.fieldLink RX1 21 "TwinFinder$Kin" "number" "[I", Cond.fieldLink RX1 70 "TwinFinder$Document" "number" "I", Cond.fieldLink RX1 25 "TwinFinder$Kin" "twinCount" "[I", Cond.methodLink RX1 58 yJx4a65c_size_8abf5, Cond.instanceMethod yJx4a65c_size_8abf5, Cond.selects RJx4a65c yJx4a65c_size_8abf5 yJx4a65c_size_8abf5, Cond.initialized RJx4a65c, Cond.code yJx4a65c_size_8abf5 cJx4a65c_size_8abf5 1 (some .int), Cond.fieldLink RJx4a65c 48 "java/util/ArrayList" "size" "I", Cond.methodLink RX1 46 yJx4a65c_get_915e3, Cond.instanceMethod yJx4a65c_get_915e3, Cond.selects RJx4a65c yJx4a65c_get_915e3 yJx4a65c_get_915e3, Cond.code yJx4a65c_get_915e3 cJx4a65c_get_915e3 2 (some (.object "java/lang/Object")), Cond.methodLink RJx4a65c 118 yJ15_checkIndex_7cf53, Cond.static yJ15_checkIndex_7cf53, Cond.initialized RJ15, Cond.code yJ15_checkIndex_7cf53 cJ15_checkIndex_7cf53 2 (some .int), Cond.methodLink RJ15 105 yJ3_checkIndex_8e157, Cond.static yJ3_checkIndex_8e157, Cond.initialized RJ3]
def wsX8_pairs_r3 : List Cond := [Cond.code yJ3_checkIndex_8e157 cJ3_checkIndex_8e157 3 (some .int), Cond.methodLink RJx4a65c 123 yJx4a65c_elementData_915e3, Cond.instanceMethod yJx4a65c_elementData_915e3, Cond.selects RJx4a65c yJx4a65c_elementData_915e3 yJx4a65c_elementData_915e3, Cond.code yJx4a65c_elementData_915e3 cJx4a65c_elementData_915e3 2 (some (.object "java/lang/Object")), Cond.fieldLink RJx4a65c 9 "java/util/ArrayList" "elementData" "[Ljava/lang/Object;", Cond.methodLink RX1 54 yX1_compare, Cond.instanceMethod yX1_compare, Cond.selects RX1 yX1_compare yX1_compare, Cond.code yX1_compare cX1_compare 6 none, Cond.methodLink RX1 72 yX2_firstBand, Cond.instanceMethod yX2_firstBand, Cond.selects RX2 yX2_firstBand yX2_firstBand, Cond.initialized RX2, Cond.code yX2_firstBand cX2_firstBand 4 (some .int), Cond.fieldLink RX2 33 "TwinFinder$Document" "size" "I", Cond.fieldLink RX2 9 "TwinFinder$Measure" "bandCount" "I", Cond.fieldLink RX2 15 "TwinFinder$Measure" "rowCount" "I", Cond.methodLink RX2 43 yX2_agree, Cond.instanceMethod yX2_agree, Cond.selects RX2 yX2_agree yX2_agree, Cond.code yX2_agree cX2_agree 5 (some .boolean), Cond.fieldLink RX2 40 "TwinFinder$Document" "least" "[I", Cond.methodLink RX1 78 yX3_put]
def wsX8_pairs_r4 : List Cond := [Cond.instanceMethod yX3_put, Cond.selects RX3 yX3_put yX3_put, Cond.initialized RX3, Cond.code yX3_put cX3_put 3 none, Cond.fieldLink RX3 18 "TwinFinder$PairRow" "size" "I", Cond.fieldLink RX3 9 "TwinFinder$PairRow" "first" "[I", Cond.fieldLink RX3 15 "TwinFinder$PairRow" "second" "[I", Cond.methodLink RX1 82 yX2_areNear, Cond.instanceMethod yX2_areNear, Cond.selects RX2 yX2_areNear yX2_areNear, Cond.code yX2_areNear cX2_areNear 3 (some .boolean), Cond.fieldLink RX2 21 "TwinFinder$Measure" "q" "I", Cond.fieldLink RX2 18 "TwinFinder$Measure" "p" "I", Cond.methodLink RX2 36 yX2_common, Cond.instanceMethod yX2_common, Cond.selects RX2 yX2_common yX2_common, Cond.code yX2_common cX2_common 3 (some .int), Cond.fieldLink RX2 24 "TwinFinder$Document" "shared" "[I", Cond.fieldLink RX2 30 "TwinFinder$Document" "slot" "I", Cond.methodLink RX2 54 yX2_all, Cond.instanceMethod yX2_all, Cond.selects RX2 yX2_all yX2_all, Cond.code yX2_all cX2_all 3 (some .int), Cond.methodLink RX1 86 yX1_join]
def wsX8_pairs_r5 : List Cond := [Cond.instanceMethod yX1_join, Cond.selects RX1 yX1_join yX1_join, Cond.code yX1_join cX1_join 6 none, Cond.methodLink RX1 89 Lib.Math.max.name, Cond.static Lib.Math.max.name, Cond.code Lib.Math.max.name Lib.Math.max.code 2 (some .int), Cond.methodLink RX8 235 yX1_families, Cond.instanceMethod yX1_families, Cond.selects RX1 yX1_families yX1_families, Cond.code yX1_families cX1_families 4 (some .int)]
def wsX8_pairs : List Cond := .code yX8_pairs cX8_pairs 2 (some .int) :: ((wsX8_pairs_r1 ++ (wsX8_pairs_r2 ++ (wsX8_pairs_r3 ++ (wsX8_pairs_r4 ++ wsX8_pairs_r5)))) ++ wsX80 ++ wsX50 ++ wsX10 ++ wsX30 ++ wsX00 ++ wsJx4a65c0 ++ wsX20)
def wsX8_pair_r1 : List Cond := [Cond.fieldLink RX8 47 "TwinFinder" "kin" "LTwinFinder$Kin;", Cond.fieldLink RX8 33 "TwinFinder" "shelf" "LTwinFinder$Shelf;", Cond.fieldLink RX8 168 "TwinFinder$Shelf" "here" "Ljava/util/ArrayList;", Cond.fieldLink RX8 40 "TwinFinder" "measure" "LTwinFinder$Measure;", Cond.fieldLink RX8 225 "TwinFinder$Kin" "candidates" "LTwinFinder$PairRow;", Cond.fieldLink RX8 232 "TwinFinder$Kin" "twins" "LTwinFinder$PairRow;", Cond.methodLink RX8 181 yX1_learn, Cond.instanceMethod yX1_learn, Cond.selects RX1 yX1_learn yX1_learn, Cond.initialized RX1, Cond.code yX1_learn cX1_learn 5 none, Cond.fieldLink RX1 34 "TwinFinder$Kin" "known" "Z", Cond.fieldLink RX1 42 "TwinFinder$Kin" "places" "I", Cond.classLink RX1 52 "TwinFinder$Document", Cond.fieldLink RX1 31 "TwinFinder$Kin" "members" "[I", Cond.fieldLink RX1 28 "TwinFinder$Kin" "leader" "[I", Cond.methodLink RX1 38 yX1_begin, Cond.instanceMethod yX1_begin, Cond.selects RX1 yX1_begin yX1_begin, Cond.code yX1_begin cX1_begin 3 none, Cond.methodLink RX1 62 Lib.Math.min.name, Cond.static Lib.Math.min.name, Cond.initialized "java/lang/Math", Cond.code Lib.Math.min.name Lib.Math.min.code 2 (some .int)]
def wsX8_pair_r2 : List Cond := [Cond.fieldLink RX1 12 "TwinFinder$Kin" "candidates" "LTwinFinder$PairRow;", Cond.fieldLink RX1 68 "TwinFinder$PairRow" "size" "I", Cond.fieldLink RX1 18 "TwinFinder$Kin" "twins" "LTwinFinder$PairRow;", Cond.fieldLink RX1 21 "TwinFinder$Kin" "number" "[I", Cond.fieldLink RX1 70 "TwinFinder$Document" "number" "I", Cond.fieldLink RX1 25 "TwinFinder$Kin" "twinCount" "[I", Cond.methodLink RX1 58 yJx4a65c_size_8abf5, Cond.instanceMethod yJx4a65c_size_8abf5, Cond.selects RJx4a65c yJx4a65c_size_8abf5 yJx4a65c_size_8abf5, Cond.initialized RJx4a65c, Cond.code yJx4a65c_size_8abf5 cJx4a65c_size_8abf5 1 (some .int), Cond.fieldLink RJx4a65c 48 "java/util/ArrayList" "size" "I", Cond.methodLink RX1 46 yJx4a65c_get_915e3, Cond.instanceMethod yJx4a65c_get_915e3, Cond.selects RJx4a65c yJx4a65c_get_915e3 yJx4a65c_get_915e3, Cond.code yJx4a65c_get_915e3 cJx4a65c_get_915e3 2 (some (.object "java/lang/Object")), Cond.methodLink RJx4a65c 118 yJ15_checkIndex_7cf53, Cond.static yJ15_checkIndex_7cf53, Cond.initialized RJ15, Cond.code yJ15_checkIndex_7cf53 cJ15_checkIndex_7cf53 2 (some .int), Cond.methodLink RJ15 105 yJ3_checkIndex_8e157, Cond.static yJ3_checkIndex_8e157, Cond.initialized RJ3, Cond.code yJ3_checkIndex_8e157 cJ3_checkIndex_8e157 3 (some .int)]
def wsX8_pair_r3 : List Cond := [Cond.methodLink RJx4a65c 123 yJx4a65c_elementData_915e3, Cond.instanceMethod yJx4a65c_elementData_915e3, Cond.selects RJx4a65c yJx4a65c_elementData_915e3 yJx4a65c_elementData_915e3, Cond.code yJx4a65c_elementData_915e3 cJx4a65c_elementData_915e3 2 (some (.object "java/lang/Object")), Cond.fieldLink RJx4a65c 9 "java/util/ArrayList" "elementData" "[Ljava/lang/Object;", Cond.methodLink RX1 54 yX1_compare, Cond.instanceMethod yX1_compare, Cond.selects RX1 yX1_compare yX1_compare, Cond.code yX1_compare cX1_compare 6 none, Cond.methodLink RX1 72 yX2_firstBand, Cond.instanceMethod yX2_firstBand, Cond.selects RX2 yX2_firstBand yX2_firstBand, Cond.initialized RX2, Cond.code yX2_firstBand cX2_firstBand 4 (some .int), Cond.fieldLink RX2 33 "TwinFinder$Document" "size" "I", Cond.fieldLink RX2 9 "TwinFinder$Measure" "bandCount" "I", Cond.fieldLink RX2 15 "TwinFinder$Measure" "rowCount" "I", Cond.methodLink RX2 43 yX2_agree, Cond.instanceMethod yX2_agree, Cond.selects RX2 yX2_agree yX2_agree, Cond.code yX2_agree cX2_agree 5 (some .boolean), Cond.fieldLink RX2 40 "TwinFinder$Document" "least" "[I", Cond.methodLink RX1 78 yX3_put, Cond.instanceMethod yX3_put]
def wsX8_pair_r4 : List Cond := [Cond.selects RX3 yX3_put yX3_put, Cond.initialized RX3, Cond.code yX3_put cX3_put 3 none, Cond.fieldLink RX3 18 "TwinFinder$PairRow" "size" "I", Cond.fieldLink RX3 9 "TwinFinder$PairRow" "first" "[I", Cond.fieldLink RX3 15 "TwinFinder$PairRow" "second" "[I", Cond.methodLink RX1 82 yX2_areNear, Cond.instanceMethod yX2_areNear, Cond.selects RX2 yX2_areNear yX2_areNear, Cond.code yX2_areNear cX2_areNear 3 (some .boolean), Cond.fieldLink RX2 21 "TwinFinder$Measure" "q" "I", Cond.fieldLink RX2 18 "TwinFinder$Measure" "p" "I", Cond.methodLink RX2 36 yX2_common, Cond.instanceMethod yX2_common, Cond.selects RX2 yX2_common yX2_common, Cond.code yX2_common cX2_common 3 (some .int), Cond.fieldLink RX2 24 "TwinFinder$Document" "shared" "[I", Cond.fieldLink RX2 30 "TwinFinder$Document" "slot" "I", Cond.methodLink RX2 54 yX2_all, Cond.instanceMethod yX2_all, Cond.selects RX2 yX2_all yX2_all, Cond.code yX2_all cX2_all 3 (some .int), Cond.methodLink RX1 86 yX1_join, Cond.instanceMethod yX1_join]
def wsX8_pair_r5 : List Cond := [Cond.selects RX1 yX1_join yX1_join, Cond.code yX1_join cX1_join 6 none, Cond.methodLink RX1 89 Lib.Math.max.name, Cond.static Lib.Math.max.name, Cond.code Lib.Math.max.name Lib.Math.max.code 2 (some .int), Cond.methodLink RX8 238 yX3_side, Cond.instanceMethod yX3_side, Cond.selects RX3 yX3_side yX3_side, Cond.code yX3_side cX3_side 3 (some .int), Cond.methodLink RX8 241 yX1_familyAt, Cond.instanceMethod yX1_familyAt, Cond.selects RX1 yX1_familyAt yX1_familyAt, Cond.code yX1_familyAt cX1_familyAt 5 (some .int)]
def wsX8_pair : List Cond := .code yX8_pair cX8_pair 4 (some .int) :: ((wsX8_pair_r1 ++ (wsX8_pair_r2 ++ (wsX8_pair_r3 ++ (wsX8_pair_r4 ++ wsX8_pair_r5)))) ++ wsX80 ++ wsX50 ++ wsX10 ++ wsX30 ++ wsX00 ++ wsJx4a65c0 ++ wsX20)
def wsX8_nearest_r1 : List Cond := [Cond.fieldLink RX8 33 "TwinFinder" "shelf" "LTwinFinder$Shelf;", Cond.fieldLink RX8 40 "TwinFinder" "measure" "LTwinFinder$Measure;", Cond.classLink RX8 99 "TwinFinder$Document", Cond.fieldLink RX8 119 "TwinFinder$Document" "number" "I", Cond.methodLink RX8 194 yX8_documentThere, Cond.instanceMethod yX8_documentThere, Cond.selects RX8 yX8_documentThere yX8_documentThere, Cond.initialized RX8, Cond.code yX8_documentThere cX8_documentThere 3 (some (.object "TwinFinder$Document")), Cond.classLink RX8 163 "java/util/NoSuchElementException", Cond.initialized "java/util/NoSuchElementException", Cond.fieldLink RX8 168 "TwinFinder$Shelf" "here" "Ljava/util/ArrayList;", Cond.methodLink RX8 159 yX5_placeOf, Cond.instanceMethod yX5_placeOf, Cond.selects RX5 yX5_placeOf yX5_placeOf, Cond.initialized RX5, Cond.code yX5_placeOf cX5_placeOf 3 (some .int), Cond.fieldLink RX5 12 "TwinFinder$Shelf" "here" "Ljava/util/ArrayList;", Cond.classLink RX5 36 "TwinFinder$Document", Cond.fieldLink RX5 38 "TwinFinder$Document" "number" "I", Cond.methodLink RX5 24 yJx4a65c_size_8abf5, Cond.instanceMethod yJx4a65c_size_8abf5, Cond.selects RJx4a65c yJx4a65c_size_8abf5 yJx4a65c_size_8abf5, Cond.initialized RJx4a65c]
def wsX8_nearest_r2 : List Cond := [Cond.code yJx4a65c_size_8abf5 cJx4a65c_size_8abf5 1 (some .int), Cond.fieldLink RJx4a65c 48 "java/util/ArrayList" "size" "I", Cond.methodLink RX5 32 yJx4a65c_get_915e3, Cond.instanceMethod yJx4a65c_get_915e3, Cond.selects RJx4a65c yJx4a65c_get_915e3 yJx4a65c_get_915e3, Cond.code yJx4a65c_get_915e3 cJx4a65c_get_915e3 2 (some (.object "java/lang/Object")), Cond.methodLink RJx4a65c 118 yJ15_checkIndex_7cf53, Cond.static yJ15_checkIndex_7cf53, Cond.initialized RJ15, Cond.code yJ15_checkIndex_7cf53 cJ15_checkIndex_7cf53 2 (some .int), Cond.methodLink RJ15 105 yJ3_checkIndex_8e157, Cond.static yJ3_checkIndex_8e157, Cond.initialized RJ3, Cond.code yJ3_checkIndex_8e157 cJ3_checkIndex_8e157 3 (some .int), Cond.methodLink RJx4a65c 123 yJx4a65c_elementData_915e3, Cond.instanceMethod yJx4a65c_elementData_915e3, Cond.selects RJx4a65c yJx4a65c_elementData_915e3 yJx4a65c_elementData_915e3, Cond.code yJx4a65c_elementData_915e3 cJx4a65c_elementData_915e3 2 (some (.object "java/lang/Object")), Cond.fieldLink RJx4a65c 9 "java/util/ArrayList" "elementData" "[Ljava/lang/Object;", Cond.methodLink RX8 172 yJx4a65c_get_915e3, Cond.methodLink RX8 244 yX5_othersByNearness, Cond.instanceMethod yX5_othersByNearness, Cond.selects RX5 yX5_othersByNearness yX5_othersByNearness, Cond.code yX5_othersByNearness cX5_othersByNearness 5 (some (.object "java/util/ArrayList"))]
def wsX8_nearest_r3 : List Cond := [Cond.fieldLink RX5 21 "TwinFinder$Shelf" "ranked" "Ljava/util/ArrayList;", Cond.methodLink RX5 70 yJx4a65c_clear_da8c8, Cond.instanceMethod yJx4a65c_clear_da8c8, Cond.selects RJx4a65c yJx4a65c_clear_da8c8 yJx4a65c_clear_da8c8, Cond.code yJx4a65c_clear_da8c8 cJx4a65c_clear_da8c8 4 none, Cond.fieldLink RJx4a65c 63 "java/util/ArrayList" "modCount" "I", Cond.sameField "java/util/ArrayList" "java/util/AbstractList" "modCount" "I", Cond.methodLink RX5 73 yX5_rankOf, Cond.instanceMethod yX5_rankOf, Cond.selects RX5 yX5_rankOf yX5_rankOf, Cond.code yX5_rankOf cX5_rankOf 5 (some .int), Cond.methodLink RX5 80 yX2_isNearer, Cond.instanceMethod yX2_isNearer, Cond.selects RX2 yX2_isNearer yX2_isNearer, Cond.initialized RX2, Cond.code yX2_isNearer cX2_isNearer 4 (some .boolean), Cond.methodLink RX2 57 Lib.Math.max.name, Cond.static Lib.Math.max.name, Cond.initialized "java/lang/Math", Cond.code Lib.Math.max.name Lib.Math.max.code 2 (some .int), Cond.methodLink RX2 36 yX2_common, Cond.instanceMethod yX2_common, Cond.selects RX2 yX2_common yX2_common, Cond.code yX2_common cX2_common 3 (some .int)]
def wsX8_nearest_r4 : List Cond := [Cond.fieldLink RX2 24 "TwinFinder$Document" "shared" "[I", Cond.fieldLink RX2 30 "TwinFinder$Document" "slot" "I", Cond.methodLink RX2 54 yX2_all, Cond.instanceMethod yX2_all, Cond.selects RX2 yX2_all yX2_all, Cond.code yX2_all cX2_all 3 (some .int), Cond.fieldLink RX2 33 "TwinFinder$Document" "size" "I", Cond.methodLink RX5 77 yJx4a65c_add_7a177, Cond.instanceMethod yJx4a65c_add_7a177, Cond.selects RJx4a65c yJx4a65c_add_7a177 yJx4a65c_add_7a177, Cond.code yJx4a65c_add_7a177 cJx4a65c_add_7a177 5 none, Cond.methodLink RJx4a65c 112 arraycopyName, Cond.native arraycopyName, Cond.static arraycopyName, Cond.initialized "java/lang/System", Cond.methodLink RJx4a65c 135 yJx4a65c_rangeCheckForAdd_d00df, Cond.instanceMethod yJx4a65c_rangeCheckForAdd_d00df, Cond.selects RJx4a65c yJx4a65c_rangeCheckForAdd_d00df yJx4a65c_rangeCheckForAdd_d00df, Cond.code yJx4a65c_rangeCheckForAdd_d00df cJx4a65c_rangeCheckForAdd_d00df 2 none, Cond.methodLink RJx4a65c 129 yJx4a65c_grow_d5877, Cond.instanceMethod yJx4a65c_grow_d5877, Cond.selects RJx4a65c yJx4a65c_grow_d5877 yJx4a65c_grow_d5877, Cond.code yJx4a65c_grow_d5877 cJx4a65c_grow_d5877 1 (some (.array (.object "java/lang/Object"))), Cond.methodLink RJx4a65c 69 yJx4a65c_grow_92f84]
def wsX8_nearest_r5 : List Cond := [Cond.instanceMethod yJx4a65c_grow_92f84, Cond.selects RJx4a65c yJx4a65c_grow_92f84 yJx4a65c_grow_92f84, Cond.code yJx4a65c_grow_92f84 cJx4a65c_grow_92f84 4 (some (.array (.object "java/lang/Object"))), Cond.fieldLink RJx4a65c 39 "java/util/ArrayList" "DEFAULTCAPACITY_EMPTY_ELEMENTDATA" "[Ljava/lang/Object;", Cond.methodLink RJx4a65c 79 Lib.Math.max.name, Cond.classLink RJx4a65c 7 "java/lang/Object", Cond.methodLink RJx4a65c 73 yJ8_newLength_cabcc, Cond.static yJ8_newLength_cabcc, Cond.initialized RJ8, Cond.code yJ8_newLength_cabcc cJ8_newLength_cabcc 4 (some .int), Cond.methodLink RJ8 194 Lib.Math.max.name, Cond.constant RJ8 200 (2147483639), Cond.methodLink RJ8 201 yJ8_hugeLength_7cf53, Cond.static yJ8_hugeLength_7cf53, Cond.code yJ8_hugeLength_7cf53 cJ8_hugeLength_7cf53 3 (some .int), Cond.methodLink RJx4a65c 66 yJ7_copyOf_1904c, Cond.static yJ7_copyOf_1904c, Cond.initialized RJ7, Cond.code yJ7_copyOf_1904c cJ7_copyOf_1904c 2 (some (.array (.object "java/lang/Object"))), Cond.methodLink RJ7 86 ⟨"java/lang/Object", "getClass", "()Ljava/lang/Class;"⟩, Cond.selects "[Ljava/lang/Object;" ⟨"java/lang/Object", "getClass", "()Ljava/lang/Class;"⟩ ⟨"java/lang/Object", "getClass", "()Ljava/lang/Class;"⟩, Cond.instanceMethod ⟨"java/lang/Object", "getClass", "()Ljava/lang/Class;"⟩, Cond.native ⟨"java/lang/Object", "getClass", "()Ljava/lang/Class;"⟩, Cond.methodLink RJ7 300 yJ7_copyOf_6403c]
def wsX8_nearest_r6 : List Cond := [Cond.static yJ7_copyOf_6403c, Cond.code yJ7_copyOf_6403c cJ7_copyOf_6403c 4 (some (.array (.object "java/lang/Object"))), Cond.classLink RJ7 110 "[Ljava/lang/Object;", Cond.classLink RJ7 2 "java/lang/Object", Cond.methodLink RJ7 304 Lib.Math.min.name, Cond.static Lib.Math.min.name, Cond.code Lib.Math.min.name Lib.Math.min.code 2 (some .int), Cond.methodLink RJ7 150 arraycopyName, Cond.methodLink RX8 248 yJx4a65c_size_8abf5]
def wsX8_nearest : List Cond := .code yX8_nearest cX8_nearest 4 (some .int) :: ((wsX8_nearest_r1 ++ (wsX8_nearest_r2 ++ (wsX8_nearest_r3 ++ (wsX8_nearest_r4 ++ (wsX8_nearest_r5 ++ wsX8_nearest_r6))))) ++ wsX80 ++ wsX00 ++ wsX50 ++ wsJx4a65c0 ++ (vx_atS RX8 167 "java/util/NoSuchElementException" ["java/lang/RuntimeException", "java/lang/Exception"]).filter goodWord)
def wsX8_count_r1 : List Cond := [Cond.fieldLink RX8 12 "TwinFinder" "tape" "LTwinFinder$Tape;", Cond.fieldLink RX8 62 "TwinFinder$Tape" "length" "I", Cond.fieldLink RX8 33 "TwinFinder" "shelf" "LTwinFinder$Shelf;", Cond.fieldLink RX8 168 "TwinFinder$Shelf" "here" "Ljava/util/ArrayList;", Cond.fieldLink RX8 250 "TwinFinder$Shelf" "came" "I", Cond.fieldLink RX8 19 "TwinFinder" "store" "LTwinFinder$Store;", Cond.fieldLink RX8 85 "TwinFinder$Store" "given" "I", Cond.fieldLink RX8 26 "TwinFinder" "permutations" "LTwinFinder$Permutations;", Cond.fieldLink RX8 145 "TwinFinder$Permutations" "kept" "I", Cond.fieldLink RX8 40 "TwinFinder" "measure" "LTwinFinder$Measure;", Cond.fieldLink RX8 256 "TwinFinder$Measure" "bandCount" "I", Cond.fieldLink RX8 259 "TwinFinder$Measure" "rowCount" "I", Cond.fieldLink RX8 262 "TwinFinder$Measure" "p" "I", Cond.fieldLink RX8 265 "TwinFinder$Measure" "q" "I", Cond.fieldLink RX8 55 "TwinFinder" "sortAtHand" "I", Cond.fieldLink RX8 59 "TwinFinder" "rowAtHand" "I", Cond.methodLink RX8 73 yX7_makePlain, Cond.instanceMethod yX7_makePlain, Cond.selects RX7 yX7_makePlain yX7_makePlain, Cond.initialized RX7, Cond.code yX7_makePlain cX7_makePlain 4 (some .int), Cond.fieldLink RX7 26 "TwinFinder$Tape" "plainLength" "I", Cond.fieldLink RX7 22 "TwinFinder$Tape" "length" "I", Cond.fieldLink RX7 9 "TwinFinder$Tape" "bytes" "[B"]
def wsX8_count_r2 : List Cond := [Cond.methodLink RX7 29 yX7_plainSign, Cond.static yX7_plainSign, Cond.code yX7_plainSign cX7_plainSign 2 (some .int), Cond.methodLink RX7 33 yX7_putPlain, Cond.instanceMethod yX7_putPlain, Cond.selects RX7 yX7_putPlain yX7_putPlain, Cond.code yX7_putPlain cX7_putPlain 2 none, Cond.fieldLink RX7 15 "TwinFinder$Tape" "plain" "[B", Cond.methodLink RX8 248 yJx4a65c_size_8abf5, Cond.instanceMethod yJx4a65c_size_8abf5, Cond.selects RJx4a65c yJx4a65c_size_8abf5 yJx4a65c_size_8abf5, Cond.initialized RJx4a65c, Cond.code yJx4a65c_size_8abf5 cJx4a65c_size_8abf5 1 (some .int), Cond.fieldLink RJx4a65c 48 "java/util/ArrayList" "size" "I", Cond.methodLink RX8 253 yX6_bytesUsed, Cond.instanceMethod yX6_bytesUsed, Cond.selects RX6 yX6_bytesUsed yX6_bytesUsed, Cond.initialized RX6, Cond.code yX6_bytesUsed cX6_bytesUsed 1 (some .int), Cond.fieldLink RX6 16 "TwinFinder$Store" "begin" "[I", Cond.fieldLink RX6 26 "TwinFinder$Store" "given" "I"]
def wsX8_count : List Cond := .code yX8_count cX8_count 2 (some .int) :: ((wsX8_count_r1 ++ wsX8_count_r2) ++ wsX80 ++ wsX70 ++ wsX50 ++ wsX60 ++ wsX40 ++ wsX20 ++ wsJx4a65c0)
def wsX9_thrown : List Cond := .code yX9_thrown cX9_thrown 1 (some .int) :: ([.fieldLink RX9 1 "TwinFinderModel" "thrown" "I"] ++ wsX90)
def wsX9_throwsIf : List Cond := .code yX9_throwsIf cX9_throwsIf 2 (some .boolean) :: ([.fieldLink RX9 1 "TwinFinderModel" "thrown" "I"] ++ wsX90)
def wsX9_four : List Cond := .code yX9_four cX9_four 3 none :: ([.fieldLink RX9 14 "TwinFinderModel" "tape" "[B", .fieldLink RX9 7 "TwinFinderModel" "length" "I"] ++ wsX90)
def wsX9_feed : List Cond := .code yX9_feed cX9_feed 6 (some .int) :: ([.fieldLink RX9 1 "TwinFinderModel" "thrown" "I", .fieldLink RX9 7 "TwinFinderModel" "length" "I", .methodLink RX9 10 yX9_four, .instanceMethod yX9_four, .selects RX9 yX9_four yX9_four, .initialized RX9, .code yX9_four cX9_four 3 none, .fieldLink RX9 14 "TwinFinderModel" "tape" "[B"] ++ wsX90)
def wsX9_end : List Cond := .code yX9_end cX9_end 2 (some .boolean) :: ([.fieldLink RX9 1 "TwinFinderModel" "thrown" "I", .fieldLink RX9 7 "TwinFinderModel" "length" "I"] ++ wsX90)
def wsX9_makePlain : List Cond := .code yX9_makePlain cX9_makePlain 5 none :: ([.fieldLink RX9 18 "TwinFinderModel" "plainSize" "I", .fieldLink RX9 7 "TwinFinderModel" "length" "I", .fieldLink RX9 14 "TwinFinderModel" "tape" "[B", .fieldLink RX9 21 "TwinFinderModel" "plain" "[B"] ++ wsX90)
def wsX9_numberOf : List Cond := .code yX9_numberOf cX9_numberOf 6 (some .int) :: ([.fieldLink RX9 24 "TwinFinderModel" "numbers" "I", .fieldLink RX9 27 "TwinFinderModel" "size" "[I", .fieldLink RX9 31 "TwinFinderModel" "letters" "[B", .fieldLink RX9 34 "TwinFinderModel" "from" "[I", .fieldLink RX9 21 "TwinFinderModel" "plain" "[B"] ++ wsX90)
def wsX9_comes : List Cond := .code yX9_comes cX9_comes 6 (some .boolean) :: ([.fieldLink RX9 24 "TwinFinderModel" "numbers" "I", .fieldLink RX9 41 "TwinFinderModel" "bytes" "I", .constant RX9 44 (50000), .fieldLink RX9 34 "TwinFinderModel" "from" "[I", .fieldLink RX9 27 "TwinFinderModel" "size" "[I", .fieldLink RX9 31 "TwinFinderModel" "letters" "[B", .fieldLink RX9 21 "TwinFinderModel" "plain" "[B", .fieldLink RX9 45 "TwinFinderModel" "freshMany" "I", .fieldLink RX9 48 "TwinFinderModel" "fresh" "[I", .methodLink RX9 37 yX9_numberOf, .instanceMethod yX9_numberOf, .selects RX9 yX9_numberOf yX9_numberOf, .initialized RX9, .code yX9_numberOf cX9_numberOf 6 (some .int)] ++ wsX90)
def wsX9_all : List Cond := .code yX9_all cX9_all 4 (some .boolean) :: ([.fieldLink RX9 45 "TwinFinderModel" "freshMany" "I", .fieldLink RX9 51 "TwinFinderModel" "sort" "I", .fieldLink RX9 54 "TwinFinderModel" "wide" "I", .fieldLink RX9 18 "TwinFinderModel" "plainSize" "I", .fieldLink RX9 21 "TwinFinderModel" "plain" "[B", .methodLink RX9 57 yX9_comes, .instanceMethod yX9_comes, .selects RX9 yX9_comes yX9_comes, .initialized RX9, .code yX9_comes cX9_comes 6 (some .boolean), .fieldLink RX9 24 "TwinFinderModel" "numbers" "I", .fieldLink RX9 41 "TwinFinderModel" "bytes" "I", .constant RX9 44 (50000), .fieldLink RX9 34 "TwinFinderModel" "from" "[I", .fieldLink RX9 27 "TwinFinderModel" "size" "[I", .fieldLink RX9 31 "TwinFinderModel" "letters" "[B", .fieldLink RX9 48 "TwinFinderModel" "fresh" "[I", .methodLink RX9 37 yX9_numberOf, .instanceMethod yX9_numberOf, .selects RX9 yX9_numberOf yX9_numberOf, .code yX9_numberOf cX9_numberOf 6 (some .int)] ++ wsX90)
def wsX9_add_r1 : List Cond := [Cond.fieldLink RX9 1 "TwinFinderModel" "thrown" "I", Cond.fieldLink RX9 7 "TwinFinderModel" "length" "I", Cond.fieldLink RX9 65 "TwinFinderModel" "documents" "I", Cond.fieldLink RX9 68 "TwinFinderModel" "came" "I", Cond.fieldLink RX9 24 "TwinFinderModel" "numbers" "I", Cond.fieldLink RX9 41 "TwinFinderModel" "bytes" "I", Cond.fieldLink RX9 45 "TwinFinderModel" "freshMany" "I", Cond.fieldLink RX9 75 "TwinFinderModel" "set" "[I", Cond.fieldLink RX9 48 "TwinFinderModel" "fresh" "[I", Cond.fieldLink RX9 78 "TwinFinderModel" "many" "[I", Cond.fieldLink RX9 81 "TwinFinderModel" "number" "[I", Cond.fieldLink RX9 84 "TwinFinderModel" "stale" "Z", Cond.methodLink RX9 61 yX9_makePlain, Cond.instanceMethod yX9_makePlain, Cond.selects RX9 yX9_makePlain yX9_makePlain, Cond.initialized RX9, Cond.code yX9_makePlain cX9_makePlain 5 none, Cond.fieldLink RX9 18 "TwinFinderModel" "plainSize" "I", Cond.fieldLink RX9 14 "TwinFinderModel" "tape" "[B", Cond.fieldLink RX9 21 "TwinFinderModel" "plain" "[B", Cond.methodLink RX9 71 yX9_all, Cond.instanceMethod yX9_all, Cond.selects RX9 yX9_all yX9_all, Cond.code yX9_all cX9_all 4 (some .boolean)]
def wsX9_add_r2 : List Cond := [Cond.fieldLink RX9 51 "TwinFinderModel" "sort" "I", Cond.fieldLink RX9 54 "TwinFinderModel" "wide" "I", Cond.methodLink RX9 57 yX9_comes, Cond.instanceMethod yX9_comes, Cond.selects RX9 yX9_comes yX9_comes, Cond.code yX9_comes cX9_comes 6 (some .boolean), Cond.constant RX9 44 (50000), Cond.fieldLink RX9 34 "TwinFinderModel" "from" "[I", Cond.fieldLink RX9 27 "TwinFinderModel" "size" "[I", Cond.fieldLink RX9 31 "TwinFinderModel" "letters" "[B", Cond.methodLink RX9 37 yX9_numberOf, Cond.instanceMethod yX9_numberOf, Cond.selects RX9 yX9_numberOf yX9_numberOf, Cond.code yX9_numberOf cX9_numberOf 6 (some .int)]
def wsX9_add : List Cond := .code yX9_add cX9_add 4 (some .int) :: ((wsX9_add_r1 ++ wsX9_add_r2) ++ wsX90)
def wsX9_slot : List Cond := .code yX9_slot cX9_slot 3 (some .int) :: ([.fieldLink RX9 65 "TwinFinderModel" "documents" "I", .fieldLink RX9 81 "TwinFinderModel" "number" "[I"] ++ wsX90)
def wsX9_remove : List Cond := .code yX9_remove cX9_remove 5 (some .boolean) :: ([.fieldLink RX9 1 "TwinFinderModel" "thrown" "I", .fieldLink RX9 65 "TwinFinderModel" "documents" "I", .fieldLink RX9 81 "TwinFinderModel" "number" "[I", .fieldLink RX9 78 "TwinFinderModel" "many" "[I", .fieldLink RX9 75 "TwinFinderModel" "set" "[I", .fieldLink RX9 84 "TwinFinderModel" "stale" "Z", .methodLink RX9 88 yX9_slot, .instanceMethod yX9_slot, .selects RX9 yX9_slot yX9_slot, .initialized RX9, .code yX9_slot cX9_slot 3 (some .int)] ++ wsX90)
def wsX9_mode : List Cond := .code yX9_mode cX9_mode 4 (some .int) :: ([.fieldLink RX9 65 "TwinFinderModel" "documents" "I", .fieldLink RX9 51 "TwinFinderModel" "sort" "I", .fieldLink RX9 54 "TwinFinderModel" "wide" "I", .fieldLink RX9 68 "TwinFinderModel" "came" "I", .fieldLink RX9 24 "TwinFinderModel" "numbers" "I", .fieldLink RX9 41 "TwinFinderModel" "bytes" "I", .fieldLink RX9 84 "TwinFinderModel" "stale" "Z", .methodLink RX9 92 yX9_throwsIf, .instanceMethod yX9_throwsIf, .selects RX9 yX9_throwsIf yX9_throwsIf, .initialized RX9, .code yX9_throwsIf cX9_throwsIf 2 (some .boolean), .fieldLink RX9 1 "TwinFinderModel" "thrown" "I"] ++ wsX90)
def wsX9_init_r1 : List Cond := [Cond.methodLink RX9 96 objectInit, Cond.instanceMethod objectInit, Cond.code objectInit ⟨#[0xb1]⟩ 1 none, Cond.arrayClass .byte, Cond.fieldLink RX9 14 "TwinFinderModel" "tape" "[B", Cond.fieldLink RX9 21 "TwinFinderModel" "plain" "[B", Cond.constant RX9 101 (50800), Cond.fieldLink RX9 31 "TwinFinderModel" "letters" "[B", Cond.arrayClass .int, Cond.fieldLink RX9 34 "TwinFinderModel" "from" "[I", Cond.fieldLink RX9 27 "TwinFinderModel" "size" "[I", Cond.fieldLink RX9 54 "TwinFinderModel" "wide" "I", Cond.fieldLink RX9 48 "TwinFinderModel" "fresh" "[I", Cond.fieldLink RX9 81 "TwinFinderModel" "number" "[I", Cond.fieldLink RX9 78 "TwinFinderModel" "many" "[I", Cond.constant RX9 102 (38400), Cond.fieldLink RX9 75 "TwinFinderModel" "set" "[I", Cond.fieldLink RX9 103 "TwinFinderModel" "times" "[I", Cond.fieldLink RX9 106 "TwinFinderModel" "more" "[I", Cond.fieldLink RX9 109 "TwinFinderModel" "whose" "[I", Cond.fieldLink RX9 112 "TwinFinderModel" "one" "[I", Cond.fieldLink RX9 115 "TwinFinderModel" "other" "[I", Cond.fieldLink RX9 118 "TwinFinderModel" "least" "[I", Cond.fieldLink RX9 121 "TwinFinderModel" "bands" "I"]
def wsX9_init_r2 : List Cond := [Cond.fieldLink RX9 124 "TwinFinderModel" "rows" "I", Cond.fieldLink RX9 127 "TwinFinderModel" "p" "I", Cond.fieldLink RX9 130 "TwinFinderModel" "q" "I", Cond.fieldLink RX9 133 "TwinFinderModel" "family" "[I"]
def wsX9_init : List Cond := .code yX9_init cX9_init 2 none :: ((wsX9_init_r1 ++ wsX9_init_r2) ++ wsX90)
def wsX9_isNone : List Cond := .code yX9_isNone cX9_isNone 3 (some .boolean) :: ([])
def wsX9_tell : List Cond := .code yX9_tell cX9_tell 6 (some .boolean) :: ([.fieldLink RX9 1 "TwinFinderModel" "thrown" "I", .constant RX9 140 (65520), .fieldLink RX9 103 "TwinFinderModel" "times" "[I", .fieldLink RX9 106 "TwinFinderModel" "more" "[I", .fieldLink RX9 141 "TwinFinderModel" "exchanges" "I", .fieldLink RX9 109 "TwinFinderModel" "whose" "[I", .fieldLink RX9 112 "TwinFinderModel" "one" "[I", .fieldLink RX9 115 "TwinFinderModel" "other" "[I", .fieldLink RX9 84 "TwinFinderModel" "stale" "Z", .methodLink RX9 136 yX9_isNone, .static yX9_isNone, .initialized RX9, .code yX9_isNone cX9_isNone 3 (some .boolean)] ++ wsX90)
def wsX9_exchange : List Cond := .code yX9_exchange cX9_exchange 4 (some .int) :: ([.fieldLink RX9 1 "TwinFinderModel" "thrown" "I", .constant RX9 140 (65520), .fieldLink RX9 141 "TwinFinderModel" "exchanges" "I", .fieldLink RX9 109 "TwinFinderModel" "whose" "[I", .fieldLink RX9 112 "TwinFinderModel" "one" "[I", .fieldLink RX9 115 "TwinFinderModel" "other" "[I", .fieldLink RX9 84 "TwinFinderModel" "stale" "Z", .methodLink RX9 136 yX9_isNone, .static yX9_isNone, .initialized RX9, .code yX9_isNone cX9_isNone 3 (some .boolean)] ++ wsX90)
def wsX9_imageOf : List Cond := .code yX9_imageOf cX9_imageOf 5 (some .int) :: ([.fieldLink RX9 141 "TwinFinderModel" "exchanges" "I", .fieldLink RX9 109 "TwinFinderModel" "whose" "[I", .fieldLink RX9 112 "TwinFinderModel" "one" "[I", .fieldLink RX9 115 "TwinFinderModel" "other" "[I", .fieldLink RX9 103 "TwinFinderModel" "times" "[I", .fieldLink RX9 106 "TwinFinderModel" "more" "[I", .constantLong RX9 144 (65521)] ++ wsX90)
def wsX9_image : List Cond := .code yX9_image cX9_image 3 (some .int) :: ([.fieldLink RX9 1 "TwinFinderModel" "thrown" "I", .constant RX9 140 (65520), .methodLink RX9 136 yX9_isNone, .static yX9_isNone, .initialized RX9, .code yX9_isNone cX9_isNone 3 (some .boolean), .methodLink RX9 146 yX9_imageOf, .instanceMethod yX9_imageOf, .selects RX9 yX9_imageOf yX9_imageOf, .code yX9_imageOf cX9_imageOf 5 (some .int), .fieldLink RX9 141 "TwinFinderModel" "exchanges" "I", .fieldLink RX9 109 "TwinFinderModel" "whose" "[I", .fieldLink RX9 112 "TwinFinderModel" "one" "[I", .fieldLink RX9 115 "TwinFinderModel" "other" "[I", .fieldLink RX9 103 "TwinFinderModel" "times" "[I", .fieldLink RX9 106 "TwinFinderModel" "more" "[I", .constantLong RX9 144 (65521)] ++ wsX90)
def wsX9_sign : List Cond := .code yX9_sign cX9_sign 8 none :: ([.fieldLink RX9 84 "TwinFinderModel" "stale" "Z", .fieldLink RX9 141 "TwinFinderModel" "exchanges" "I", .fieldLink RX9 109 "TwinFinderModel" "whose" "[I", .fieldLink RX9 65 "TwinFinderModel" "documents" "I", .constant RX9 149 (65521), .fieldLink RX9 78 "TwinFinderModel" "many" "[I", .fieldLink RX9 75 "TwinFinderModel" "set" "[I", .fieldLink RX9 103 "TwinFinderModel" "times" "[I", .fieldLink RX9 106 "TwinFinderModel" "more" "[I", .constantLong RX9 144 (65521), .fieldLink RX9 118 "TwinFinderModel" "least" "[I", .methodLink RX9 146 yX9_imageOf, .instanceMethod yX9_imageOf, .selects RX9 yX9_imageOf yX9_imageOf, .initialized RX9, .code yX9_imageOf cX9_imageOf 5 (some .int), .fieldLink RX9 112 "TwinFinderModel" "one" "[I", .fieldLink RX9 115 "TwinFinderModel" "other" "[I"] ++ wsX90)
def wsX9_bands : List Cond := .code yX9_bands cX9_bands 3 (some .boolean) :: ([.fieldLink RX9 1 "TwinFinderModel" "thrown" "I", .fieldLink RX9 121 "TwinFinderModel" "bands" "I", .fieldLink RX9 124 "TwinFinderModel" "rows" "I"] ++ wsX90)
def wsX9_threshold : List Cond := .code yX9_threshold cX9_threshold 3 (some .boolean) :: ([.fieldLink RX9 1 "TwinFinderModel" "thrown" "I", .fieldLink RX9 127 "TwinFinderModel" "p" "I", .fieldLink RX9 130 "TwinFinderModel" "q" "I"] ++ wsX90)
def wsX9_common : List Cond := .code yX9_common cX9_common 6 (some .int) :: ([.fieldLink RX9 78 "TwinFinderModel" "many" "[I", .fieldLink RX9 75 "TwinFinderModel" "set" "[I"] ++ wsX90)
def wsX9_band : List Cond := .code yX9_band cX9_band 6 (some .int) :: ([.fieldLink RX9 78 "TwinFinderModel" "many" "[I", .fieldLink RX9 121 "TwinFinderModel" "bands" "I", .fieldLink RX9 124 "TwinFinderModel" "rows" "I", .fieldLink RX9 118 "TwinFinderModel" "least" "[I", .methodLink RX9 150 yX9_sign, .instanceMethod yX9_sign, .selects RX9 yX9_sign yX9_sign, .initialized RX9, .code yX9_sign cX9_sign 8 none, .fieldLink RX9 84 "TwinFinderModel" "stale" "Z", .fieldLink RX9 141 "TwinFinderModel" "exchanges" "I", .fieldLink RX9 109 "TwinFinderModel" "whose" "[I", .fieldLink RX9 65 "TwinFinderModel" "documents" "I", .constant RX9 149 (65521), .fieldLink RX9 75 "TwinFinderModel" "set" "[I", .fieldLink RX9 103 "TwinFinderModel" "times" "[I", .fieldLink RX9 106 "TwinFinderModel" "more" "[I", .constantLong RX9 144 (65521), .methodLink RX9 146 yX9_imageOf, .instanceMethod yX9_imageOf, .selects RX9 yX9_imageOf yX9_imageOf, .code yX9_imageOf cX9_imageOf 5 (some .int), .fieldLink RX9 112 "TwinFinderModel" "one" "[I", .fieldLink RX9 115 "TwinFinderModel" "other" "[I"] ++ wsX90)
def wsX9_areTwins_r1 : List Cond := [Cond.fieldLink RX9 130 "TwinFinderModel" "q" "I", Cond.fieldLink RX9 78 "TwinFinderModel" "many" "[I", Cond.fieldLink RX9 127 "TwinFinderModel" "p" "I", Cond.methodLink RX9 153 yX9_band, Cond.instanceMethod yX9_band, Cond.selects RX9 yX9_band yX9_band, Cond.initialized RX9, Cond.code yX9_band cX9_band 6 (some .int), Cond.fieldLink RX9 121 "TwinFinderModel" "bands" "I", Cond.fieldLink RX9 124 "TwinFinderModel" "rows" "I", Cond.fieldLink RX9 118 "TwinFinderModel" "least" "[I", Cond.methodLink RX9 150 yX9_sign, Cond.instanceMethod yX9_sign, Cond.selects RX9 yX9_sign yX9_sign, Cond.code yX9_sign cX9_sign 8 none, Cond.fieldLink RX9 84 "TwinFinderModel" "stale" "Z", Cond.fieldLink RX9 141 "TwinFinderModel" "exchanges" "I", Cond.fieldLink RX9 109 "TwinFinderModel" "whose" "[I", Cond.fieldLink RX9 65 "TwinFinderModel" "documents" "I", Cond.constant RX9 149 (65521), Cond.fieldLink RX9 75 "TwinFinderModel" "set" "[I", Cond.fieldLink RX9 103 "TwinFinderModel" "times" "[I", Cond.fieldLink RX9 106 "TwinFinderModel" "more" "[I", Cond.constantLong RX9 144 (65521)]
def wsX9_areTwins_r2 : List Cond := [Cond.methodLink RX9 146 yX9_imageOf, Cond.instanceMethod yX9_imageOf, Cond.selects RX9 yX9_imageOf yX9_imageOf, Cond.code yX9_imageOf cX9_imageOf 5 (some .int), Cond.fieldLink RX9 112 "TwinFinderModel" "one" "[I", Cond.fieldLink RX9 115 "TwinFinderModel" "other" "[I", Cond.methodLink RX9 156 yX9_common, Cond.instanceMethod yX9_common, Cond.selects RX9 yX9_common yX9_common, Cond.code yX9_common cX9_common 6 (some .int)]
def wsX9_areTwins : List Cond := .code yX9_areTwins cX9_areTwins 5 (some .boolean) :: ((wsX9_areTwins_r1 ++ wsX9_areTwins_r2) ++ wsX90)
def wsX9_families_r1 : List Cond := [Cond.fieldLink RX9 65 "TwinFinderModel" "documents" "I", Cond.fieldLink RX9 133 "TwinFinderModel" "family" "[I", Cond.methodLink RX9 159 yX9_areTwins, Cond.instanceMethod yX9_areTwins, Cond.selects RX9 yX9_areTwins yX9_areTwins, Cond.initialized RX9, Cond.code yX9_areTwins cX9_areTwins 5 (some .boolean), Cond.fieldLink RX9 130 "TwinFinderModel" "q" "I", Cond.fieldLink RX9 78 "TwinFinderModel" "many" "[I", Cond.fieldLink RX9 127 "TwinFinderModel" "p" "I", Cond.methodLink RX9 153 yX9_band, Cond.instanceMethod yX9_band, Cond.selects RX9 yX9_band yX9_band, Cond.code yX9_band cX9_band 6 (some .int), Cond.fieldLink RX9 121 "TwinFinderModel" "bands" "I", Cond.fieldLink RX9 124 "TwinFinderModel" "rows" "I", Cond.fieldLink RX9 118 "TwinFinderModel" "least" "[I", Cond.methodLink RX9 150 yX9_sign, Cond.instanceMethod yX9_sign, Cond.selects RX9 yX9_sign yX9_sign, Cond.code yX9_sign cX9_sign 8 none, Cond.fieldLink RX9 84 "TwinFinderModel" "stale" "Z", Cond.fieldLink RX9 141 "TwinFinderModel" "exchanges" "I", Cond.fieldLink RX9 109 "TwinFinderModel" "whose" "[I"]
def wsX9_families_r2 : List Cond := [Cond.constant RX9 149 (65521), Cond.fieldLink RX9 75 "TwinFinderModel" "set" "[I", Cond.fieldLink RX9 103 "TwinFinderModel" "times" "[I", Cond.fieldLink RX9 106 "TwinFinderModel" "more" "[I", Cond.constantLong RX9 144 (65521), Cond.methodLink RX9 146 yX9_imageOf, Cond.instanceMethod yX9_imageOf, Cond.selects RX9 yX9_imageOf yX9_imageOf, Cond.code yX9_imageOf cX9_imageOf 5 (some .int), Cond.fieldLink RX9 112 "TwinFinderModel" "one" "[I", Cond.fieldLink RX9 115 "TwinFinderModel" "other" "[I", Cond.methodLink RX9 156 yX9_common, Cond.instanceMethod yX9_common, Cond.selects RX9 yX9_common yX9_common, Cond.code yX9_common cX9_common 6 (some .int)]
def wsX9_families : List Cond := .code yX9_families cX9_families 7 none :: ((wsX9_families_r1 ++ wsX9_families_r2) ++ wsX90)
def wsX9_inFamily : List Cond := .code yX9_inFamily cX9_inFamily 4 (some .int) :: ([.fieldLink RX9 65 "TwinFinderModel" "documents" "I", .fieldLink RX9 133 "TwinFinderModel" "family" "[I"] ++ wsX90)
def wsX9_document_r1 : List Cond := [Cond.fieldLink RX9 78 "TwinFinderModel" "many" "[I", Cond.fieldLink RX9 65 "TwinFinderModel" "documents" "I", Cond.fieldLink RX9 81 "TwinFinderModel" "number" "[I", Cond.fieldLink RX9 133 "TwinFinderModel" "family" "[I", Cond.methodLink RX9 88 yX9_slot, Cond.instanceMethod yX9_slot, Cond.selects RX9 yX9_slot yX9_slot, Cond.initialized RX9, Cond.code yX9_slot cX9_slot 3 (some .int), Cond.methodLink RX9 92 yX9_throwsIf, Cond.instanceMethod yX9_throwsIf, Cond.selects RX9 yX9_throwsIf yX9_throwsIf, Cond.code yX9_throwsIf cX9_throwsIf 2 (some .boolean), Cond.fieldLink RX9 1 "TwinFinderModel" "thrown" "I", Cond.methodLink RX9 159 yX9_areTwins, Cond.instanceMethod yX9_areTwins, Cond.selects RX9 yX9_areTwins yX9_areTwins, Cond.code yX9_areTwins cX9_areTwins 5 (some .boolean), Cond.fieldLink RX9 130 "TwinFinderModel" "q" "I", Cond.fieldLink RX9 127 "TwinFinderModel" "p" "I", Cond.methodLink RX9 153 yX9_band, Cond.instanceMethod yX9_band, Cond.selects RX9 yX9_band yX9_band, Cond.code yX9_band cX9_band 6 (some .int)]
def wsX9_document_r2 : List Cond := [Cond.fieldLink RX9 121 "TwinFinderModel" "bands" "I", Cond.fieldLink RX9 124 "TwinFinderModel" "rows" "I", Cond.fieldLink RX9 118 "TwinFinderModel" "least" "[I", Cond.methodLink RX9 150 yX9_sign, Cond.instanceMethod yX9_sign, Cond.selects RX9 yX9_sign yX9_sign, Cond.code yX9_sign cX9_sign 8 none, Cond.fieldLink RX9 84 "TwinFinderModel" "stale" "Z", Cond.fieldLink RX9 141 "TwinFinderModel" "exchanges" "I", Cond.fieldLink RX9 109 "TwinFinderModel" "whose" "[I", Cond.constant RX9 149 (65521), Cond.fieldLink RX9 75 "TwinFinderModel" "set" "[I", Cond.fieldLink RX9 103 "TwinFinderModel" "times" "[I", Cond.fieldLink RX9 106 "TwinFinderModel" "more" "[I", Cond.constantLong RX9 144 (65521), Cond.methodLink RX9 146 yX9_imageOf, Cond.instanceMethod yX9_imageOf, Cond.selects RX9 yX9_imageOf yX9_imageOf, Cond.code yX9_imageOf cX9_imageOf 5 (some .int), Cond.fieldLink RX9 112 "TwinFinderModel" "one" "[I", Cond.fieldLink RX9 115 "TwinFinderModel" "other" "[I", Cond.methodLink RX9 156 yX9_common, Cond.instanceMethod yX9_common, Cond.selects RX9 yX9_common yX9_common]
def wsX9_document_r3 : List Cond := [Cond.code yX9_common cX9_common 6 (some .int), Cond.methodLink RX9 162 yX9_families, Cond.instanceMethod yX9_families, Cond.selects RX9 yX9_families yX9_families, Cond.code yX9_families cX9_families 7 none, Cond.methodLink RX9 165 yX9_inFamily, Cond.instanceMethod yX9_inFamily, Cond.selects RX9 yX9_inFamily yX9_inFamily, Cond.code yX9_inFamily cX9_inFamily 4 (some .int)]
def wsX9_document : List Cond := .code yX9_document cX9_document 6 (some .int) :: ((wsX9_document_r1 ++ (wsX9_document_r2 ++ wsX9_document_r3)) ++ wsX90)
def wsX9_shingle : List Cond := .code yX9_shingle cX9_shingle 4 (some .int) :: ([.fieldLink RX9 78 "TwinFinderModel" "many" "[I", .fieldLink RX9 75 "TwinFinderModel" "set" "[I", .methodLink RX9 88 yX9_slot, .instanceMethod yX9_slot, .selects RX9 yX9_slot yX9_slot, .initialized RX9, .code yX9_slot cX9_slot 3 (some .int), .fieldLink RX9 65 "TwinFinderModel" "documents" "I", .fieldLink RX9 81 "TwinFinderModel" "number" "[I", .methodLink RX9 92 yX9_throwsIf, .instanceMethod yX9_throwsIf, .selects RX9 yX9_throwsIf yX9_throwsIf, .code yX9_throwsIf cX9_throwsIf 2 (some .boolean), .fieldLink RX9 1 "TwinFinderModel" "thrown" "I"] ++ wsX90)
def wsX9_letter : List Cond := .code yX9_letter cX9_letter 3 (some .int) :: ([.fieldLink RX9 1 "TwinFinderModel" "thrown" "I", .fieldLink RX9 24 "TwinFinderModel" "numbers" "I", .fieldLink RX9 27 "TwinFinderModel" "size" "[I", .fieldLink RX9 31 "TwinFinderModel" "letters" "[B", .fieldLink RX9 34 "TwinFinderModel" "from" "[I"] ++ wsX90)
def wsX9_signature_r1 : List Cond := [Cond.fieldLink RX9 118 "TwinFinderModel" "least" "[I", Cond.methodLink RX9 88 yX9_slot, Cond.instanceMethod yX9_slot, Cond.selects RX9 yX9_slot yX9_slot, Cond.initialized RX9, Cond.code yX9_slot cX9_slot 3 (some .int), Cond.fieldLink RX9 65 "TwinFinderModel" "documents" "I", Cond.fieldLink RX9 81 "TwinFinderModel" "number" "[I", Cond.methodLink RX9 136 yX9_isNone, Cond.static yX9_isNone, Cond.code yX9_isNone cX9_isNone 3 (some .boolean), Cond.methodLink RX9 92 yX9_throwsIf, Cond.instanceMethod yX9_throwsIf, Cond.selects RX9 yX9_throwsIf yX9_throwsIf, Cond.code yX9_throwsIf cX9_throwsIf 2 (some .boolean), Cond.fieldLink RX9 1 "TwinFinderModel" "thrown" "I", Cond.methodLink RX9 150 yX9_sign, Cond.instanceMethod yX9_sign, Cond.selects RX9 yX9_sign yX9_sign, Cond.code yX9_sign cX9_sign 8 none, Cond.fieldLink RX9 84 "TwinFinderModel" "stale" "Z", Cond.fieldLink RX9 141 "TwinFinderModel" "exchanges" "I", Cond.fieldLink RX9 109 "TwinFinderModel" "whose" "[I", Cond.constant RX9 149 (65521)]
def wsX9_signature_r2 : List Cond := [Cond.fieldLink RX9 78 "TwinFinderModel" "many" "[I", Cond.fieldLink RX9 75 "TwinFinderModel" "set" "[I", Cond.fieldLink RX9 103 "TwinFinderModel" "times" "[I", Cond.fieldLink RX9 106 "TwinFinderModel" "more" "[I", Cond.constantLong RX9 144 (65521), Cond.methodLink RX9 146 yX9_imageOf, Cond.instanceMethod yX9_imageOf, Cond.selects RX9 yX9_imageOf yX9_imageOf, Cond.code yX9_imageOf cX9_imageOf 5 (some .int), Cond.fieldLink RX9 112 "TwinFinderModel" "one" "[I", Cond.fieldLink RX9 115 "TwinFinderModel" "other" "[I"]
def wsX9_signature : List Cond := .code yX9_signature cX9_signature 4 (some .int) :: ((wsX9_signature_r1 ++ wsX9_signature_r2) ++ wsX90)
def wsX9_both_r1 : List Cond := [Cond.fieldLink RX9 78 "TwinFinderModel" "many" "[I", Cond.fieldLink RX9 121 "TwinFinderModel" "bands" "I", Cond.fieldLink RX9 124 "TwinFinderModel" "rows" "I", Cond.fieldLink RX9 118 "TwinFinderModel" "least" "[I", Cond.methodLink RX9 88 yX9_slot, Cond.instanceMethod yX9_slot, Cond.selects RX9 yX9_slot yX9_slot, Cond.initialized RX9, Cond.code yX9_slot cX9_slot 3 (some .int), Cond.fieldLink RX9 65 "TwinFinderModel" "documents" "I", Cond.fieldLink RX9 81 "TwinFinderModel" "number" "[I", Cond.methodLink RX9 92 yX9_throwsIf, Cond.instanceMethod yX9_throwsIf, Cond.selects RX9 yX9_throwsIf yX9_throwsIf, Cond.code yX9_throwsIf cX9_throwsIf 2 (some .boolean), Cond.fieldLink RX9 1 "TwinFinderModel" "thrown" "I", Cond.methodLink RX9 156 yX9_common, Cond.instanceMethod yX9_common, Cond.selects RX9 yX9_common yX9_common, Cond.code yX9_common cX9_common 6 (some .int), Cond.fieldLink RX9 75 "TwinFinderModel" "set" "[I", Cond.methodLink RX9 153 yX9_band, Cond.instanceMethod yX9_band, Cond.selects RX9 yX9_band yX9_band]
def wsX9_both_r2 : List Cond := [Cond.code yX9_band cX9_band 6 (some .int), Cond.methodLink RX9 150 yX9_sign, Cond.instanceMethod yX9_sign, Cond.selects RX9 yX9_sign yX9_sign, Cond.code yX9_sign cX9_sign 8 none, Cond.fieldLink RX9 84 "TwinFinderModel" "stale" "Z", Cond.fieldLink RX9 141 "TwinFinderModel" "exchanges" "I", Cond.fieldLink RX9 109 "TwinFinderModel" "whose" "[I", Cond.constant RX9 149 (65521), Cond.fieldLink RX9 103 "TwinFinderModel" "times" "[I", Cond.fieldLink RX9 106 "TwinFinderModel" "more" "[I", Cond.constantLong RX9 144 (65521), Cond.methodLink RX9 146 yX9_imageOf, Cond.instanceMethod yX9_imageOf, Cond.selects RX9 yX9_imageOf yX9_imageOf, Cond.code yX9_imageOf cX9_imageOf 5 (some .int), Cond.fieldLink RX9 112 "TwinFinderModel" "one" "[I", Cond.fieldLink RX9 115 "TwinFinderModel" "other" "[I", Cond.methodLink RX9 159 yX9_areTwins, Cond.instanceMethod yX9_areTwins, Cond.selects RX9 yX9_areTwins yX9_areTwins, Cond.code yX9_areTwins cX9_areTwins 5 (some .boolean), Cond.fieldLink RX9 130 "TwinFinderModel" "q" "I", Cond.fieldLink RX9 127 "TwinFinderModel" "p" "I"]
def wsX9_both : List Cond := .code yX9_both cX9_both 8 (some .int) :: ((wsX9_both_r1 ++ wsX9_both_r2) ++ wsX90)
def wsX9_isPair_r1 : List Cond := [Cond.methodLink RX9 153 yX9_band, Cond.instanceMethod yX9_band, Cond.selects RX9 yX9_band yX9_band, Cond.initialized RX9, Cond.code yX9_band cX9_band 6 (some .int), Cond.fieldLink RX9 78 "TwinFinderModel" "many" "[I", Cond.fieldLink RX9 121 "TwinFinderModel" "bands" "I", Cond.fieldLink RX9 124 "TwinFinderModel" "rows" "I", Cond.fieldLink RX9 118 "TwinFinderModel" "least" "[I", Cond.methodLink RX9 150 yX9_sign, Cond.instanceMethod yX9_sign, Cond.selects RX9 yX9_sign yX9_sign, Cond.code yX9_sign cX9_sign 8 none, Cond.fieldLink RX9 84 "TwinFinderModel" "stale" "Z", Cond.fieldLink RX9 141 "TwinFinderModel" "exchanges" "I", Cond.fieldLink RX9 109 "TwinFinderModel" "whose" "[I", Cond.fieldLink RX9 65 "TwinFinderModel" "documents" "I", Cond.constant RX9 149 (65521), Cond.fieldLink RX9 75 "TwinFinderModel" "set" "[I", Cond.fieldLink RX9 103 "TwinFinderModel" "times" "[I", Cond.fieldLink RX9 106 "TwinFinderModel" "more" "[I", Cond.constantLong RX9 144 (65521), Cond.methodLink RX9 146 yX9_imageOf, Cond.instanceMethod yX9_imageOf]
def wsX9_isPair_r2 : List Cond := [Cond.selects RX9 yX9_imageOf yX9_imageOf, Cond.code yX9_imageOf cX9_imageOf 5 (some .int), Cond.fieldLink RX9 112 "TwinFinderModel" "one" "[I", Cond.fieldLink RX9 115 "TwinFinderModel" "other" "[I", Cond.methodLink RX9 159 yX9_areTwins, Cond.instanceMethod yX9_areTwins, Cond.selects RX9 yX9_areTwins yX9_areTwins, Cond.code yX9_areTwins cX9_areTwins 5 (some .boolean), Cond.fieldLink RX9 130 "TwinFinderModel" "q" "I", Cond.fieldLink RX9 127 "TwinFinderModel" "p" "I", Cond.methodLink RX9 156 yX9_common, Cond.instanceMethod yX9_common, Cond.selects RX9 yX9_common yX9_common, Cond.code yX9_common cX9_common 6 (some .int)]
def wsX9_isPair : List Cond := .code yX9_isPair cX9_isPair 4 (some .boolean) :: ((wsX9_isPair_r1 ++ wsX9_isPair_r2) ++ wsX90)
def wsX9_isTold : List Cond := .code yX9_isTold cX9_isTold 3 (some .boolean) :: ([.fieldLink RX9 133 "TwinFinderModel" "family" "[I", .methodLink RX9 165 yX9_inFamily, .instanceMethod yX9_inFamily, .selects RX9 yX9_inFamily yX9_inFamily, .initialized RX9, .code yX9_inFamily cX9_inFamily 4 (some .int), .fieldLink RX9 65 "TwinFinderModel" "documents" "I"] ++ wsX90)
def wsX9_pairs_r1 : List Cond := [Cond.fieldLink RX9 1 "TwinFinderModel" "thrown" "I", Cond.fieldLink RX9 65 "TwinFinderModel" "documents" "I", Cond.methodLink RX9 162 yX9_families, Cond.instanceMethod yX9_families, Cond.selects RX9 yX9_families yX9_families, Cond.initialized RX9, Cond.code yX9_families cX9_families 7 none, Cond.fieldLink RX9 133 "TwinFinderModel" "family" "[I", Cond.methodLink RX9 159 yX9_areTwins, Cond.instanceMethod yX9_areTwins, Cond.selects RX9 yX9_areTwins yX9_areTwins, Cond.code yX9_areTwins cX9_areTwins 5 (some .boolean), Cond.fieldLink RX9 130 "TwinFinderModel" "q" "I", Cond.fieldLink RX9 78 "TwinFinderModel" "many" "[I", Cond.fieldLink RX9 127 "TwinFinderModel" "p" "I", Cond.methodLink RX9 153 yX9_band, Cond.instanceMethod yX9_band, Cond.selects RX9 yX9_band yX9_band, Cond.code yX9_band cX9_band 6 (some .int), Cond.fieldLink RX9 121 "TwinFinderModel" "bands" "I", Cond.fieldLink RX9 124 "TwinFinderModel" "rows" "I", Cond.fieldLink RX9 118 "TwinFinderModel" "least" "[I", Cond.methodLink RX9 150 yX9_sign, Cond.instanceMethod yX9_sign]
def wsX9_pairs_r2 : List Cond := [Cond.selects RX9 yX9_sign yX9_sign, Cond.code yX9_sign cX9_sign 8 none, Cond.fieldLink RX9 84 "TwinFinderModel" "stale" "Z", Cond.fieldLink RX9 141 "TwinFinderModel" "exchanges" "I", Cond.fieldLink RX9 109 "TwinFinderModel" "whose" "[I", Cond.constant RX9 149 (65521), Cond.fieldLink RX9 75 "TwinFinderModel" "set" "[I", Cond.fieldLink RX9 103 "TwinFinderModel" "times" "[I", Cond.fieldLink RX9 106 "TwinFinderModel" "more" "[I", Cond.constantLong RX9 144 (65521), Cond.methodLink RX9 146 yX9_imageOf, Cond.instanceMethod yX9_imageOf, Cond.selects RX9 yX9_imageOf yX9_imageOf, Cond.code yX9_imageOf cX9_imageOf 5 (some .int), Cond.fieldLink RX9 112 "TwinFinderModel" "one" "[I", Cond.fieldLink RX9 115 "TwinFinderModel" "other" "[I", Cond.methodLink RX9 156 yX9_common, Cond.instanceMethod yX9_common, Cond.selects RX9 yX9_common yX9_common, Cond.code yX9_common cX9_common 6 (some .int), Cond.methodLink RX9 168 yX9_isTold, Cond.instanceMethod yX9_isTold, Cond.selects RX9 yX9_isTold yX9_isTold, Cond.code yX9_isTold cX9_isTold 3 (some .boolean)]
def wsX9_pairs_r3 : List Cond := [Cond.methodLink RX9 165 yX9_inFamily, Cond.instanceMethod yX9_inFamily, Cond.selects RX9 yX9_inFamily yX9_inFamily, Cond.code yX9_inFamily cX9_inFamily 4 (some .int), Cond.methodLink RX9 171 yX9_isPair, Cond.instanceMethod yX9_isPair, Cond.selects RX9 yX9_isPair yX9_isPair, Cond.code yX9_isPair cX9_isPair 4 (some .boolean)]
def wsX9_pairs : List Cond := .code yX9_pairs cX9_pairs 5 (some .int) :: ((wsX9_pairs_r1 ++ (wsX9_pairs_r2 ++ wsX9_pairs_r3)) ++ wsX90)
def wsX9_pair_r1 : List Cond := [Cond.fieldLink RX9 1 "TwinFinderModel" "thrown" "I", Cond.fieldLink RX9 65 "TwinFinderModel" "documents" "I", Cond.fieldLink RX9 81 "TwinFinderModel" "number" "[I", Cond.methodLink RX9 162 yX9_families, Cond.instanceMethod yX9_families, Cond.selects RX9 yX9_families yX9_families, Cond.initialized RX9, Cond.code yX9_families cX9_families 7 none, Cond.fieldLink RX9 133 "TwinFinderModel" "family" "[I", Cond.methodLink RX9 159 yX9_areTwins, Cond.instanceMethod yX9_areTwins, Cond.selects RX9 yX9_areTwins yX9_areTwins, Cond.code yX9_areTwins cX9_areTwins 5 (some .boolean), Cond.fieldLink RX9 130 "TwinFinderModel" "q" "I", Cond.fieldLink RX9 78 "TwinFinderModel" "many" "[I", Cond.fieldLink RX9 127 "TwinFinderModel" "p" "I", Cond.methodLink RX9 153 yX9_band, Cond.instanceMethod yX9_band, Cond.selects RX9 yX9_band yX9_band, Cond.code yX9_band cX9_band 6 (some .int), Cond.fieldLink RX9 121 "TwinFinderModel" "bands" "I", Cond.fieldLink RX9 124 "TwinFinderModel" "rows" "I", Cond.fieldLink RX9 118 "TwinFinderModel" "least" "[I", Cond.methodLink RX9 150 yX9_sign]
def wsX9_pair_r2 : List Cond := [Cond.instanceMethod yX9_sign, Cond.selects RX9 yX9_sign yX9_sign, Cond.code yX9_sign cX9_sign 8 none, Cond.fieldLink RX9 84 "TwinFinderModel" "stale" "Z", Cond.fieldLink RX9 141 "TwinFinderModel" "exchanges" "I", Cond.fieldLink RX9 109 "TwinFinderModel" "whose" "[I", Cond.constant RX9 149 (65521), Cond.fieldLink RX9 75 "TwinFinderModel" "set" "[I", Cond.fieldLink RX9 103 "TwinFinderModel" "times" "[I", Cond.fieldLink RX9 106 "TwinFinderModel" "more" "[I", Cond.constantLong RX9 144 (65521), Cond.methodLink RX9 146 yX9_imageOf, Cond.instanceMethod yX9_imageOf, Cond.selects RX9 yX9_imageOf yX9_imageOf, Cond.code yX9_imageOf cX9_imageOf 5 (some .int), Cond.fieldLink RX9 112 "TwinFinderModel" "one" "[I", Cond.fieldLink RX9 115 "TwinFinderModel" "other" "[I", Cond.methodLink RX9 156 yX9_common, Cond.instanceMethod yX9_common, Cond.selects RX9 yX9_common yX9_common, Cond.code yX9_common cX9_common 6 (some .int), Cond.methodLink RX9 168 yX9_isTold, Cond.instanceMethod yX9_isTold, Cond.selects RX9 yX9_isTold yX9_isTold]
def wsX9_pair_r3 : List Cond := [Cond.code yX9_isTold cX9_isTold 3 (some .boolean), Cond.methodLink RX9 165 yX9_inFamily, Cond.instanceMethod yX9_inFamily, Cond.selects RX9 yX9_inFamily yX9_inFamily, Cond.code yX9_inFamily cX9_inFamily 4 (some .int), Cond.methodLink RX9 171 yX9_isPair, Cond.instanceMethod yX9_isPair, Cond.selects RX9 yX9_isPair yX9_isPair, Cond.code yX9_isPair cX9_isPair 4 (some .boolean)]
def wsX9_pair : List Cond := .code yX9_pair cX9_pair 7 (some .int) :: ((wsX9_pair_r1 ++ (wsX9_pair_r2 ++ wsX9_pair_r3)) ++ wsX90)
def wsX9_isNearer : List Cond := .code yX9_isNearer cX9_isNearer 12 (some .boolean) :: ([.fieldLink RX9 78 "TwinFinderModel" "many" "[I", .methodLink RX9 156 yX9_common, .instanceMethod yX9_common, .selects RX9 yX9_common yX9_common, .initialized RX9, .code yX9_common cX9_common 6 (some .int), .fieldLink RX9 75 "TwinFinderModel" "set" "[I"] ++ wsX90)
def wsX9_nearest : List Cond := .code yX9_nearest cX9_nearest 7 (some .int) :: ([.fieldLink RX9 65 "TwinFinderModel" "documents" "I", .fieldLink RX9 81 "TwinFinderModel" "number" "[I", .methodLink RX9 88 yX9_slot, .instanceMethod yX9_slot, .selects RX9 yX9_slot yX9_slot, .initialized RX9, .code yX9_slot cX9_slot 3 (some .int), .methodLink RX9 92 yX9_throwsIf, .instanceMethod yX9_throwsIf, .selects RX9 yX9_throwsIf yX9_throwsIf, .code yX9_throwsIf cX9_throwsIf 2 (some .boolean), .fieldLink RX9 1 "TwinFinderModel" "thrown" "I", .methodLink RX9 174 yX9_isNearer, .instanceMethod yX9_isNearer, .selects RX9 yX9_isNearer yX9_isNearer, .code yX9_isNearer cX9_isNearer 12 (some .boolean), .fieldLink RX9 78 "TwinFinderModel" "many" "[I", .methodLink RX9 156 yX9_common, .instanceMethod yX9_common, .selects RX9 yX9_common yX9_common, .code yX9_common cX9_common 6 (some .int), .fieldLink RX9 75 "TwinFinderModel" "set" "[I"] ++ wsX90)
def wsX9_count : List Cond := .code yX9_count cX9_count 2 (some .int) :: ([.fieldLink RX9 1 "TwinFinderModel" "thrown" "I", .fieldLink RX9 7 "TwinFinderModel" "length" "I", .fieldLink RX9 18 "TwinFinderModel" "plainSize" "I", .fieldLink RX9 65 "TwinFinderModel" "documents" "I", .fieldLink RX9 68 "TwinFinderModel" "came" "I", .fieldLink RX9 24 "TwinFinderModel" "numbers" "I", .fieldLink RX9 41 "TwinFinderModel" "bytes" "I", .fieldLink RX9 141 "TwinFinderModel" "exchanges" "I", .fieldLink RX9 121 "TwinFinderModel" "bands" "I", .fieldLink RX9 124 "TwinFinderModel" "rows" "I", .fieldLink RX9 127 "TwinFinderModel" "p" "I", .fieldLink RX9 130 "TwinFinderModel" "q" "I", .fieldLink RX9 51 "TwinFinderModel" "sort" "I", .fieldLink RX9 54 "TwinFinderModel" "wide" "I", .methodLink RX9 61 yX9_makePlain, .instanceMethod yX9_makePlain, .selects RX9 yX9_makePlain yX9_makePlain, .initialized RX9, .code yX9_makePlain cX9_makePlain 5 none, .fieldLink RX9 14 "TwinFinderModel" "tape" "[B", .fieldLink RX9 21 "TwinFinderModel" "plain" "[B"] ++ wsX90)
def wsJ9_max_7cf53 : List Cond := .code yJ9_max_7cf53 cJ9_max_7cf53 2 (some .int) :: ([])
def wsJ9_min_7cf53 : List Cond := .code yJ9_min_7cf53 cJ9_min_7cf53 2 (some .int) :: ([])
def wsL_mode_r1 : List Cond := [Cond.classLink RL 13 "java/lang/IllegalArgumentException", Cond.methodLink RL 7 yX8_mode, Cond.instanceMethod yX8_mode, Cond.selects RX8 yX8_mode yX8_mode, Cond.initialized RX8, Cond.code yX8_mode cX8_mode 3 (some .int), Cond.classLink RX8 125 "java/lang/IllegalArgumentException", Cond.initialized "java/lang/IllegalArgumentException", Cond.fieldLink RX8 55 "TwinFinder" "sortAtHand" "I", Cond.fieldLink RX8 59 "TwinFinder" "rowAtHand" "I", Cond.fieldLink RX8 19 "TwinFinder" "store" "LTwinFinder$Store;", Cond.fieldLink RX8 47 "TwinFinder" "kin" "LTwinFinder$Kin;", Cond.fieldLink RX8 115 "TwinFinder$Kin" "known" "Z", Cond.fieldLink RX8 33 "TwinFinder" "shelf" "LTwinFinder$Shelf;", Cond.methodLink RX8 91 yX6_forgetFrom, Cond.instanceMethod yX6_forgetFrom, Cond.selects RX6 yX6_forgetFrom yX6_forgetFrom, Cond.initialized RX6, Cond.code yX6_forgetFrom cX6_forgetFrom 3 none, Cond.fieldLink RX6 26 "TwinFinder$Store" "given" "I", Cond.fieldLink RX6 23 "TwinFinder$Store" "seats" "[I", Cond.fieldLink RX6 20 "TwinFinder$Store" "seatOf" "[I", Cond.methodLink RX8 132 yX5_putAllAway, Cond.instanceMethod yX5_putAllAway]
def wsL_mode_r2 : List Cond := [Cond.selects RX5 yX5_putAllAway yX5_putAllAway, Cond.initialized RX5, Cond.code yX5_putAllAway cX5_putAllAway 3 (some .int), Cond.fieldLink RX5 12 "TwinFinder$Shelf" "here" "Ljava/util/ArrayList;", Cond.fieldLink RX5 18 "TwinFinder$Shelf" "spare" "Ljava/util/ArrayList;", Cond.classLink RX5 36 "TwinFinder$Document", Cond.fieldLink RX5 28 "TwinFinder$Shelf" "came" "I", Cond.methodLink RX5 24 yJx4a65c_size_8abf5, Cond.instanceMethod yJx4a65c_size_8abf5, Cond.selects RJx4a65c yJx4a65c_size_8abf5 yJx4a65c_size_8abf5, Cond.initialized RJx4a65c, Cond.code yJx4a65c_size_8abf5 cJx4a65c_size_8abf5 1 (some .int), Cond.fieldLink RJx4a65c 48 "java/util/ArrayList" "size" "I", Cond.methodLink RX5 32 yJx4a65c_get_915e3, Cond.instanceMethod yJx4a65c_get_915e3, Cond.selects RJx4a65c yJx4a65c_get_915e3 yJx4a65c_get_915e3, Cond.code yJx4a65c_get_915e3 cJx4a65c_get_915e3 2 (some (.object "java/lang/Object")), Cond.methodLink RJx4a65c 118 yJ15_checkIndex_7cf53, Cond.static yJ15_checkIndex_7cf53, Cond.initialized RJ15, Cond.code yJ15_checkIndex_7cf53 cJ15_checkIndex_7cf53 2 (some .int), Cond.methodLink RJ15 105 yJ3_checkIndex_8e157, Cond.static yJ3_checkIndex_8e157, Cond.initialized RJ3]
def wsL_mode_r3 : List Cond := [Cond.code yJ3_checkIndex_8e157 cJ3_checkIndex_8e157 3 (some .int), Cond.methodLink RJx4a65c 123 yJx4a65c_elementData_915e3, Cond.instanceMethod yJx4a65c_elementData_915e3, Cond.selects RJx4a65c yJx4a65c_elementData_915e3 yJx4a65c_elementData_915e3, Cond.code yJx4a65c_elementData_915e3 cJx4a65c_elementData_915e3 2 (some (.object "java/lang/Object")), Cond.fieldLink RJx4a65c 9 "java/util/ArrayList" "elementData" "[Ljava/lang/Object;", Cond.methodLink RX5 51 yJx4a65c_add_9ea2d, Cond.instanceMethod yJx4a65c_add_9ea2d, Cond.selects RJx4a65c yJx4a65c_add_9ea2d yJx4a65c_add_9ea2d, Cond.code yJx4a65c_add_9ea2d cJx4a65c_add_9ea2d 2 (some .boolean), Cond.fieldLink RJx4a65c 63 "java/util/ArrayList" "modCount" "I", Cond.sameField "java/util/ArrayList" "java/util/AbstractList" "modCount" "I", Cond.methodLink RJx4a65c 131 yJx4a65c_add_72be8, Cond.instanceMethod yJx4a65c_add_72be8, Cond.selects RJx4a65c yJx4a65c_add_72be8 yJx4a65c_add_72be8, Cond.code yJx4a65c_add_72be8 cJx4a65c_add_72be8 4 none, Cond.methodLink RJx4a65c 129 yJx4a65c_grow_d5877, Cond.instanceMethod yJx4a65c_grow_d5877, Cond.selects RJx4a65c yJx4a65c_grow_d5877 yJx4a65c_grow_d5877, Cond.code yJx4a65c_grow_d5877 cJx4a65c_grow_d5877 1 (some (.array (.object "java/lang/Object"))), Cond.methodLink RJx4a65c 69 yJx4a65c_grow_92f84, Cond.instanceMethod yJx4a65c_grow_92f84, Cond.selects RJx4a65c yJx4a65c_grow_92f84 yJx4a65c_grow_92f84, Cond.code yJx4a65c_grow_92f84 cJx4a65c_grow_92f84 4 (some (.array (.object "java/lang/Object")))]
def wsL_mode_r4 : List Cond := [Cond.fieldLink RJx4a65c 39 "java/util/ArrayList" "DEFAULTCAPACITY_EMPTY_ELEMENTDATA" "[Ljava/lang/Object;", Cond.methodLink RJx4a65c 79 Lib.Math.max.name, Cond.static Lib.Math.max.name, Cond.initialized "java/lang/Math", Cond.code Lib.Math.max.name Lib.Math.max.code 2 (some .int), Cond.classLink RJx4a65c 7 "java/lang/Object", Cond.methodLink RJx4a65c 73 yJ8_newLength_cabcc, Cond.static yJ8_newLength_cabcc, Cond.initialized RJ8, Cond.code yJ8_newLength_cabcc cJ8_newLength_cabcc 4 (some .int), Cond.methodLink RJ8 194 Lib.Math.max.name, Cond.constant RJ8 200 (2147483639), Cond.methodLink RJ8 201 yJ8_hugeLength_7cf53, Cond.static yJ8_hugeLength_7cf53, Cond.code yJ8_hugeLength_7cf53 cJ8_hugeLength_7cf53 3 (some .int), Cond.methodLink RJx4a65c 66 yJ7_copyOf_1904c, Cond.static yJ7_copyOf_1904c, Cond.initialized RJ7, Cond.code yJ7_copyOf_1904c cJ7_copyOf_1904c 2 (some (.array (.object "java/lang/Object"))), Cond.methodLink RJ7 86 ⟨"java/lang/Object", "getClass", "()Ljava/lang/Class;"⟩, Cond.selects "[Ljava/lang/Object;" ⟨"java/lang/Object", "getClass", "()Ljava/lang/Class;"⟩ ⟨"java/lang/Object", "getClass", "()Ljava/lang/Class;"⟩, Cond.instanceMethod ⟨"java/lang/Object", "getClass", "()Ljava/lang/Class;"⟩, Cond.native ⟨"java/lang/Object", "getClass", "()Ljava/lang/Class;"⟩, Cond.methodLink RJ7 300 yJ7_copyOf_6403c]
def wsL_mode_r5 : List Cond := [Cond.static yJ7_copyOf_6403c, Cond.code yJ7_copyOf_6403c cJ7_copyOf_6403c 4 (some (.array (.object "java/lang/Object"))), Cond.classLink RJ7 110 "[Ljava/lang/Object;", Cond.classLink RJ7 2 "java/lang/Object", Cond.methodLink RJ7 304 Lib.Math.min.name, Cond.static Lib.Math.min.name, Cond.code Lib.Math.min.name Lib.Math.min.code 2 (some .int), Cond.methodLink RJ7 150 arraycopyName, Cond.native arraycopyName, Cond.static arraycopyName, Cond.initialized "java/lang/System", Cond.methodLink RX5 70 yJx4a65c_clear_da8c8, Cond.instanceMethod yJx4a65c_clear_da8c8, Cond.selects RJx4a65c yJx4a65c_clear_da8c8 yJx4a65c_clear_da8c8, Cond.code yJx4a65c_clear_da8c8 cJx4a65c_clear_da8c8 4 none]
def wsL_mode : List Cond := .codeWith yL_mode cL_mode 5 (some .int) [(0, 10, 13, 13)] :: ((wsL_mode_r1 ++ (wsL_mode_r2 ++ (wsL_mode_r3 ++ (wsL_mode_r4 ++ wsL_mode_r5)))) ++ wsX80 ++ wsX10 ++ wsX60 ++ wsX50 ++ wsJx4a65c0 ++ (vx_atS RX8 129 "java/lang/IllegalArgumentException" ["java/lang/RuntimeException", "java/lang/Exception"]).filter goodWord)
def wsL_document_r1 : List Cond := [Cond.classLink RL 18 "java/util/NoSuchElementException", Cond.methodLink RL 15 yX8_document, Cond.instanceMethod yX8_document, Cond.selects RX8 yX8_document yX8_document, Cond.initialized RX8, Cond.code yX8_document cX8_document 4 (some .int), Cond.classLink RX8 163 "java/util/NoSuchElementException", Cond.initialized "java/util/NoSuchElementException", Cond.fieldLink RX8 33 "TwinFinder" "shelf" "LTwinFinder$Shelf;", Cond.fieldLink RX8 168 "TwinFinder$Shelf" "here" "Ljava/util/ArrayList;", Cond.classLink RX8 99 "TwinFinder$Document", Cond.fieldLink RX8 178 "TwinFinder$Document" "size" "I", Cond.fieldLink RX8 47 "TwinFinder" "kin" "LTwinFinder$Kin;", Cond.fieldLink RX8 40 "TwinFinder" "measure" "LTwinFinder$Measure;", Cond.methodLink RX8 159 yX5_placeOf, Cond.instanceMethod yX5_placeOf, Cond.selects RX5 yX5_placeOf yX5_placeOf, Cond.initialized RX5, Cond.code yX5_placeOf cX5_placeOf 3 (some .int), Cond.fieldLink RX5 12 "TwinFinder$Shelf" "here" "Ljava/util/ArrayList;", Cond.classLink RX5 36 "TwinFinder$Document", Cond.fieldLink RX5 38 "TwinFinder$Document" "number" "I", Cond.methodLink RX5 24 yJx4a65c_size_8abf5, Cond.instanceMethod yJx4a65c_size_8abf5]
def wsL_document_r2 : List Cond := [Cond.selects RJx4a65c yJx4a65c_size_8abf5 yJx4a65c_size_8abf5, Cond.initialized RJx4a65c, Cond.code yJx4a65c_size_8abf5 cJx4a65c_size_8abf5 1 (some .int), Cond.fieldLink RJx4a65c 48 "java/util/ArrayList" "size" "I", Cond.methodLink RX5 32 yJx4a65c_get_915e3, Cond.instanceMethod yJx4a65c_get_915e3, Cond.selects RJx4a65c yJx4a65c_get_915e3 yJx4a65c_get_915e3, Cond.code yJx4a65c_get_915e3 cJx4a65c_get_915e3 2 (some (.object "java/lang/Object")), Cond.methodLink RJx4a65c 118 yJ15_checkIndex_7cf53, Cond.static yJ15_checkIndex_7cf53, Cond.initialized RJ15, Cond.code yJ15_checkIndex_7cf53 cJ15_checkIndex_7cf53 2 (some .int), Cond.methodLink RJ15 105 yJ3_checkIndex_8e157, Cond.static yJ3_checkIndex_8e157, Cond.initialized RJ3, Cond.code yJ3_checkIndex_8e157 cJ3_checkIndex_8e157 3 (some .int), Cond.methodLink RJx4a65c 123 yJx4a65c_elementData_915e3, Cond.instanceMethod yJx4a65c_elementData_915e3, Cond.selects RJx4a65c yJx4a65c_elementData_915e3 yJx4a65c_elementData_915e3, Cond.code yJx4a65c_elementData_915e3 cJx4a65c_elementData_915e3 2 (some (.object "java/lang/Object")), Cond.fieldLink RJx4a65c 9 "java/util/ArrayList" "elementData" "[Ljava/lang/Object;", Cond.methodLink RX8 172 yJx4a65c_get_915e3, Cond.methodLink RX8 181 yX1_learn, Cond.instanceMethod yX1_learn]
def wsL_document_r3 : List Cond := [Cond.selects RX1 yX1_learn yX1_learn, Cond.initialized RX1, Cond.code yX1_learn cX1_learn 5 none, Cond.fieldLink RX1 34 "TwinFinder$Kin" "known" "Z", Cond.fieldLink RX1 42 "TwinFinder$Kin" "places" "I", Cond.classLink RX1 52 "TwinFinder$Document", Cond.fieldLink RX1 31 "TwinFinder$Kin" "members" "[I", Cond.fieldLink RX1 28 "TwinFinder$Kin" "leader" "[I", Cond.methodLink RX1 38 yX1_begin, Cond.instanceMethod yX1_begin, Cond.selects RX1 yX1_begin yX1_begin, Cond.code yX1_begin cX1_begin 3 none, Cond.methodLink RX1 62 Lib.Math.min.name, Cond.static Lib.Math.min.name, Cond.initialized "java/lang/Math", Cond.code Lib.Math.min.name Lib.Math.min.code 2 (some .int), Cond.fieldLink RX1 12 "TwinFinder$Kin" "candidates" "LTwinFinder$PairRow;", Cond.fieldLink RX1 68 "TwinFinder$PairRow" "size" "I", Cond.fieldLink RX1 18 "TwinFinder$Kin" "twins" "LTwinFinder$PairRow;", Cond.fieldLink RX1 21 "TwinFinder$Kin" "number" "[I", Cond.fieldLink RX1 70 "TwinFinder$Document" "number" "I", Cond.fieldLink RX1 25 "TwinFinder$Kin" "twinCount" "[I", Cond.methodLink RX1 58 yJx4a65c_size_8abf5, Cond.methodLink RX1 46 yJx4a65c_get_915e3]
def wsL_document_r4 : List Cond := [Cond.methodLink RX1 54 yX1_compare, Cond.instanceMethod yX1_compare, Cond.selects RX1 yX1_compare yX1_compare, Cond.code yX1_compare cX1_compare 6 none, Cond.methodLink RX1 72 yX2_firstBand, Cond.instanceMethod yX2_firstBand, Cond.selects RX2 yX2_firstBand yX2_firstBand, Cond.initialized RX2, Cond.code yX2_firstBand cX2_firstBand 4 (some .int), Cond.fieldLink RX2 33 "TwinFinder$Document" "size" "I", Cond.fieldLink RX2 9 "TwinFinder$Measure" "bandCount" "I", Cond.fieldLink RX2 15 "TwinFinder$Measure" "rowCount" "I", Cond.methodLink RX2 43 yX2_agree, Cond.instanceMethod yX2_agree, Cond.selects RX2 yX2_agree yX2_agree, Cond.code yX2_agree cX2_agree 5 (some .boolean), Cond.fieldLink RX2 40 "TwinFinder$Document" "least" "[I", Cond.methodLink RX1 78 yX3_put, Cond.instanceMethod yX3_put, Cond.selects RX3 yX3_put yX3_put, Cond.initialized RX3, Cond.code yX3_put cX3_put 3 none, Cond.fieldLink RX3 18 "TwinFinder$PairRow" "size" "I", Cond.fieldLink RX3 9 "TwinFinder$PairRow" "first" "[I"]
def wsL_document_r5 : List Cond := [Cond.fieldLink RX3 15 "TwinFinder$PairRow" "second" "[I", Cond.methodLink RX1 82 yX2_areNear, Cond.instanceMethod yX2_areNear, Cond.selects RX2 yX2_areNear yX2_areNear, Cond.code yX2_areNear cX2_areNear 3 (some .boolean), Cond.fieldLink RX2 21 "TwinFinder$Measure" "q" "I", Cond.fieldLink RX2 18 "TwinFinder$Measure" "p" "I", Cond.methodLink RX2 36 yX2_common, Cond.instanceMethod yX2_common, Cond.selects RX2 yX2_common yX2_common, Cond.code yX2_common cX2_common 3 (some .int), Cond.fieldLink RX2 24 "TwinFinder$Document" "shared" "[I", Cond.fieldLink RX2 30 "TwinFinder$Document" "slot" "I", Cond.methodLink RX2 54 yX2_all, Cond.instanceMethod yX2_all, Cond.selects RX2 yX2_all yX2_all, Cond.code yX2_all cX2_all 3 (some .int), Cond.methodLink RX1 86 yX1_join, Cond.instanceMethod yX1_join, Cond.selects RX1 yX1_join yX1_join, Cond.code yX1_join cX1_join 6 none, Cond.methodLink RX1 89 Lib.Math.max.name, Cond.static Lib.Math.max.name, Cond.code Lib.Math.max.name Lib.Math.max.code 2 (some .int)]
def wsL_document_r6 : List Cond := [Cond.methodLink RX8 185 yX1_familyOf, Cond.instanceMethod yX1_familyOf, Cond.selects RX1 yX1_familyOf yX1_familyOf, Cond.code yX1_familyOf cX1_familyOf 2 (some .int), Cond.methodLink RX8 188 yX1_membersWith, Cond.instanceMethod yX1_membersWith, Cond.selects RX1 yX1_membersWith yX1_membersWith, Cond.code yX1_membersWith cX1_membersWith 2 (some .int), Cond.methodLink RX8 191 yX1_twinsOf, Cond.instanceMethod yX1_twinsOf, Cond.selects RX1 yX1_twinsOf yX1_twinsOf, Cond.code yX1_twinsOf cX1_twinsOf 2 (some .int)]
def wsL_document : List Cond := .codeWith yL_document cL_document 5 (some .int) [(0, 10, 13, 18)] :: ((wsL_document_r1 ++ (wsL_document_r2 ++ (wsL_document_r3 ++ (wsL_document_r4 ++ (wsL_document_r5 ++ wsL_document_r6))))) ++ wsX80 ++ wsX50 ++ wsX00 ++ wsJx4a65c0 ++ wsX10 ++ wsX30 ++ wsX20 ++ (vx_atS RX8 167 "java/util/NoSuchElementException" ["java/lang/RuntimeException", "java/lang/Exception"]).filter goodWord)
def wsL_shingle_r1 : List Cond := [Cond.classLink RL 18 "java/util/NoSuchElementException", Cond.methodLink RL 20 yX8_shingle, Cond.instanceMethod yX8_shingle, Cond.selects RX8 yX8_shingle yX8_shingle, Cond.initialized RX8, Cond.code yX8_shingle cX8_shingle 4 (some .int), Cond.fieldLink RX8 178 "TwinFinder$Document" "size" "I", Cond.fieldLink RX8 198 "TwinFinder$Document" "numbers" "[I", Cond.methodLink RX8 194 yX8_documentThere, Cond.instanceMethod yX8_documentThere, Cond.selects RX8 yX8_documentThere yX8_documentThere, Cond.code yX8_documentThere cX8_documentThere 3 (some (.object "TwinFinder$Document")), Cond.classLink RX8 163 "java/util/NoSuchElementException", Cond.initialized "java/util/NoSuchElementException", Cond.fieldLink RX8 33 "TwinFinder" "shelf" "LTwinFinder$Shelf;", Cond.fieldLink RX8 168 "TwinFinder$Shelf" "here" "Ljava/util/ArrayList;", Cond.classLink RX8 99 "TwinFinder$Document", Cond.methodLink RX8 159 yX5_placeOf, Cond.instanceMethod yX5_placeOf, Cond.selects RX5 yX5_placeOf yX5_placeOf, Cond.initialized RX5, Cond.code yX5_placeOf cX5_placeOf 3 (some .int), Cond.fieldLink RX5 12 "TwinFinder$Shelf" "here" "Ljava/util/ArrayList;", Cond.classLink RX5 36 "TwinFinder$Document"]
def wsL_shingle_r2 : List Cond := [Cond.fieldLink RX5 38 "TwinFinder$Document" "number" "I", Cond.methodLink RX5 24 yJx4a65c_size_8abf5, Cond.instanceMethod yJx4a65c_size_8abf5, Cond.selects RJx4a65c yJx4a65c_size_8abf5 yJx4a65c_size_8abf5, Cond.initialized RJx4a65c, Cond.code yJx4a65c_size_8abf5 cJx4a65c_size_8abf5 1 (some .int), Cond.fieldLink RJx4a65c 48 "java/util/ArrayList" "size" "I", Cond.methodLink RX5 32 yJx4a65c_get_915e3, Cond.instanceMethod yJx4a65c_get_915e3, Cond.selects RJx4a65c yJx4a65c_get_915e3 yJx4a65c_get_915e3, Cond.code yJx4a65c_get_915e3 cJx4a65c_get_915e3 2 (some (.object "java/lang/Object")), Cond.methodLink RJx4a65c 118 yJ15_checkIndex_7cf53, Cond.static yJ15_checkIndex_7cf53, Cond.initialized RJ15, Cond.code yJ15_checkIndex_7cf53 cJ15_checkIndex_7cf53 2 (some .int), Cond.methodLink RJ15 105 yJ3_checkIndex_8e157, Cond.static yJ3_checkIndex_8e157, Cond.initialized RJ3, Cond.code yJ3_checkIndex_8e157 cJ3_checkIndex_8e157 3 (some .int), Cond.methodLink RJx4a65c 123 yJx4a65c_elementData_915e3, Cond.instanceMethod yJx4a65c_elementData_915e3, Cond.selects RJx4a65c yJx4a65c_elementData_915e3 yJx4a65c_elementData_915e3, Cond.code yJx4a65c_elementData_915e3 cJx4a65c_elementData_915e3 2 (some (.object "java/lang/Object")), Cond.fieldLink RJx4a65c 9 "java/util/ArrayList" "elementData" "[Ljava/lang/Object;"]
def wsL_shingle_r3 : List Cond := [Cond.methodLink RX8 172 yJx4a65c_get_915e3]
def wsL_shingle : List Cond := .codeWith yL_shingle cL_shingle 5 (some .int) [(0, 10, 13, 18)] :: ((wsL_shingle_r1 ++ (wsL_shingle_r2 ++ wsL_shingle_r3)) ++ wsX00 ++ wsX80 ++ wsX50 ++ wsJx4a65c0 ++ (vx_atS RX8 167 "java/util/NoSuchElementException" ["java/lang/RuntimeException", "java/lang/Exception"]).filter goodWord)
def wsL_signature_r1 : List Cond := [Cond.classLink RL 18 "java/util/NoSuchElementException", Cond.methodLink RL 23 yX8_signature, Cond.instanceMethod yX8_signature, Cond.selects RX8 yX8_signature yX8_signature, Cond.initialized RX8, Cond.code yX8_signature cX8_signature 4 (some .int), Cond.classLink RX8 163 "java/util/NoSuchElementException", Cond.initialized "java/util/NoSuchElementException", Cond.fieldLink RX8 104 "TwinFinder$Document" "least" "[I", Cond.methodLink RX8 194 yX8_documentThere, Cond.instanceMethod yX8_documentThere, Cond.selects RX8 yX8_documentThere yX8_documentThere, Cond.code yX8_documentThere cX8_documentThere 3 (some (.object "TwinFinder$Document")), Cond.fieldLink RX8 33 "TwinFinder" "shelf" "LTwinFinder$Shelf;", Cond.fieldLink RX8 168 "TwinFinder$Shelf" "here" "Ljava/util/ArrayList;", Cond.classLink RX8 99 "TwinFinder$Document", Cond.methodLink RX8 159 yX5_placeOf, Cond.instanceMethod yX5_placeOf, Cond.selects RX5 yX5_placeOf yX5_placeOf, Cond.initialized RX5, Cond.code yX5_placeOf cX5_placeOf 3 (some .int), Cond.fieldLink RX5 12 "TwinFinder$Shelf" "here" "Ljava/util/ArrayList;", Cond.classLink RX5 36 "TwinFinder$Document", Cond.fieldLink RX5 38 "TwinFinder$Document" "number" "I"]
def wsL_signature_r2 : List Cond := [Cond.methodLink RX5 24 yJx4a65c_size_8abf5, Cond.instanceMethod yJx4a65c_size_8abf5, Cond.selects RJx4a65c yJx4a65c_size_8abf5 yJx4a65c_size_8abf5, Cond.initialized RJx4a65c, Cond.code yJx4a65c_size_8abf5 cJx4a65c_size_8abf5 1 (some .int), Cond.fieldLink RJx4a65c 48 "java/util/ArrayList" "size" "I", Cond.methodLink RX5 32 yJx4a65c_get_915e3, Cond.instanceMethod yJx4a65c_get_915e3, Cond.selects RJx4a65c yJx4a65c_get_915e3 yJx4a65c_get_915e3, Cond.code yJx4a65c_get_915e3 cJx4a65c_get_915e3 2 (some (.object "java/lang/Object")), Cond.methodLink RJx4a65c 118 yJ15_checkIndex_7cf53, Cond.static yJ15_checkIndex_7cf53, Cond.initialized RJ15, Cond.code yJ15_checkIndex_7cf53 cJ15_checkIndex_7cf53 2 (some .int), Cond.methodLink RJ15 105 yJ3_checkIndex_8e157, Cond.static yJ3_checkIndex_8e157, Cond.initialized RJ3, Cond.code yJ3_checkIndex_8e157 cJ3_checkIndex_8e157 3 (some .int), Cond.methodLink RJx4a65c 123 yJx4a65c_elementData_915e3, Cond.instanceMethod yJx4a65c_elementData_915e3, Cond.selects RJx4a65c yJx4a65c_elementData_915e3 yJx4a65c_elementData_915e3, Cond.code yJx4a65c_elementData_915e3 cJx4a65c_elementData_915e3 2 (some (.object "java/lang/Object")), Cond.fieldLink RJx4a65c 9 "java/util/ArrayList" "elementData" "[Ljava/lang/Object;", Cond.methodLink RX8 172 yJx4a65c_get_915e3]
def wsL_signature : List Cond := .codeWith yL_signature cL_signature 5 (some .int) [(0, 10, 13, 18)] :: ((wsL_signature_r1 ++ wsL_signature_r2) ++ wsX00 ++ wsX80 ++ wsX50 ++ wsJx4a65c0 ++ (vx_atS RX8 167 "java/util/NoSuchElementException" ["java/lang/RuntimeException", "java/lang/Exception"]).filter goodWord)
def wsL_both_r1 : List Cond := [Cond.classLink RL 18 "java/util/NoSuchElementException", Cond.methodLink RL 26 yX8_both, Cond.instanceMethod yX8_both, Cond.selects RX8 yX8_both yX8_both, Cond.initialized RX8, Cond.code yX8_both cX8_both 6 (some .int), Cond.classLink RX8 163 "java/util/NoSuchElementException", Cond.initialized "java/util/NoSuchElementException", Cond.fieldLink RX8 40 "TwinFinder" "measure" "LTwinFinder$Measure;", Cond.methodLink RX8 194 yX8_documentThere, Cond.instanceMethod yX8_documentThere, Cond.selects RX8 yX8_documentThere yX8_documentThere, Cond.code yX8_documentThere cX8_documentThere 3 (some (.object "TwinFinder$Document")), Cond.fieldLink RX8 33 "TwinFinder" "shelf" "LTwinFinder$Shelf;", Cond.fieldLink RX8 168 "TwinFinder$Shelf" "here" "Ljava/util/ArrayList;", Cond.classLink RX8 99 "TwinFinder$Document", Cond.methodLink RX8 159 yX5_placeOf, Cond.instanceMethod yX5_placeOf, Cond.selects RX5 yX5_placeOf yX5_placeOf, Cond.initialized RX5, Cond.code yX5_placeOf cX5_placeOf 3 (some .int), Cond.fieldLink RX5 12 "TwinFinder$Shelf" "here" "Ljava/util/ArrayList;", Cond.classLink RX5 36 "TwinFinder$Document", Cond.fieldLink RX5 38 "TwinFinder$Document" "number" "I"]
def wsL_both_r2 : List Cond := [Cond.methodLink RX5 24 yJx4a65c_size_8abf5, Cond.instanceMethod yJx4a65c_size_8abf5, Cond.selects RJx4a65c yJx4a65c_size_8abf5 yJx4a65c_size_8abf5, Cond.initialized RJx4a65c, Cond.code yJx4a65c_size_8abf5 cJx4a65c_size_8abf5 1 (some .int), Cond.fieldLink RJx4a65c 48 "java/util/ArrayList" "size" "I", Cond.methodLink RX5 32 yJx4a65c_get_915e3, Cond.instanceMethod yJx4a65c_get_915e3, Cond.selects RJx4a65c yJx4a65c_get_915e3 yJx4a65c_get_915e3, Cond.code yJx4a65c_get_915e3 cJx4a65c_get_915e3 2 (some (.object "java/lang/Object")), Cond.methodLink RJx4a65c 118 yJ15_checkIndex_7cf53, Cond.static yJ15_checkIndex_7cf53, Cond.initialized RJ15, Cond.code yJ15_checkIndex_7cf53 cJ15_checkIndex_7cf53 2 (some .int), Cond.methodLink RJ15 105 yJ3_checkIndex_8e157, Cond.static yJ3_checkIndex_8e157, Cond.initialized RJ3, Cond.code yJ3_checkIndex_8e157 cJ3_checkIndex_8e157 3 (some .int), Cond.methodLink RJx4a65c 123 yJx4a65c_elementData_915e3, Cond.instanceMethod yJx4a65c_elementData_915e3, Cond.selects RJx4a65c yJx4a65c_elementData_915e3 yJx4a65c_elementData_915e3, Cond.code yJx4a65c_elementData_915e3 cJx4a65c_elementData_915e3 2 (some (.object "java/lang/Object")), Cond.fieldLink RJx4a65c 9 "java/util/ArrayList" "elementData" "[Ljava/lang/Object;", Cond.methodLink RX8 172 yJx4a65c_get_915e3]
def wsL_both_r3 : List Cond := [Cond.methodLink RX8 208 yX2_common, Cond.instanceMethod yX2_common, Cond.selects RX2 yX2_common yX2_common, Cond.initialized RX2, Cond.code yX2_common cX2_common 3 (some .int), Cond.fieldLink RX2 24 "TwinFinder$Document" "shared" "[I", Cond.fieldLink RX2 30 "TwinFinder$Document" "slot" "I", Cond.methodLink RX8 212 yX2_all, Cond.instanceMethod yX2_all, Cond.selects RX2 yX2_all yX2_all, Cond.code yX2_all cX2_all 3 (some .int), Cond.fieldLink RX2 33 "TwinFinder$Document" "size" "I", Cond.methodLink RX2 36 yX2_common, Cond.methodLink RX8 215 yX2_sameImages, Cond.instanceMethod yX2_sameImages, Cond.selects RX2 yX2_sameImages yX2_sameImages, Cond.code yX2_sameImages cX2_sameImages 5 (some .int), Cond.fieldLink RX2 9 "TwinFinder$Measure" "bandCount" "I", Cond.fieldLink RX2 15 "TwinFinder$Measure" "rowCount" "I", Cond.fieldLink RX2 40 "TwinFinder$Document" "least" "[I", Cond.methodLink RX8 218 yX2_firstBand, Cond.instanceMethod yX2_firstBand, Cond.selects RX2 yX2_firstBand yX2_firstBand, Cond.code yX2_firstBand cX2_firstBand 4 (some .int)]
def wsL_both_r4 : List Cond := [Cond.methodLink RX2 43 yX2_agree, Cond.instanceMethod yX2_agree, Cond.selects RX2 yX2_agree yX2_agree, Cond.code yX2_agree cX2_agree 5 (some .boolean), Cond.methodLink RX8 221 yX2_areTwins, Cond.instanceMethod yX2_areTwins, Cond.selects RX2 yX2_areTwins yX2_areTwins, Cond.code yX2_areTwins cX2_areTwins 3 (some .boolean), Cond.methodLink RX2 47 yX2_firstBand, Cond.methodLink RX2 50 yX2_areNear, Cond.instanceMethod yX2_areNear, Cond.selects RX2 yX2_areNear yX2_areNear, Cond.code yX2_areNear cX2_areNear 3 (some .boolean), Cond.fieldLink RX2 21 "TwinFinder$Measure" "q" "I", Cond.fieldLink RX2 18 "TwinFinder$Measure" "p" "I", Cond.methodLink RX2 54 yX2_all]
def wsL_both : List Cond := .codeWith yL_both cL_both 6 (some .int) [(0, 12, 15, 18)] :: ((wsL_both_r1 ++ (wsL_both_r2 ++ (wsL_both_r3 ++ wsL_both_r4))) ++ wsX80 ++ wsX50 ++ wsX00 ++ wsJx4a65c0 ++ wsX20 ++ (vx_atS RX8 167 "java/util/NoSuchElementException" ["java/lang/RuntimeException", "java/lang/Exception"]).filter goodWord)
def wsL_nearest_r1 : List Cond := [Cond.classLink RL 18 "java/util/NoSuchElementException", Cond.methodLink RL 30 yX8_nearest, Cond.instanceMethod yX8_nearest, Cond.selects RX8 yX8_nearest yX8_nearest, Cond.initialized RX8, Cond.code yX8_nearest cX8_nearest 4 (some .int), Cond.fieldLink RX8 33 "TwinFinder" "shelf" "LTwinFinder$Shelf;", Cond.fieldLink RX8 40 "TwinFinder" "measure" "LTwinFinder$Measure;", Cond.classLink RX8 99 "TwinFinder$Document", Cond.fieldLink RX8 119 "TwinFinder$Document" "number" "I", Cond.methodLink RX8 194 yX8_documentThere, Cond.instanceMethod yX8_documentThere, Cond.selects RX8 yX8_documentThere yX8_documentThere, Cond.code yX8_documentThere cX8_documentThere 3 (some (.object "TwinFinder$Document")), Cond.classLink RX8 163 "java/util/NoSuchElementException", Cond.initialized "java/util/NoSuchElementException", Cond.fieldLink RX8 168 "TwinFinder$Shelf" "here" "Ljava/util/ArrayList;", Cond.methodLink RX8 159 yX5_placeOf, Cond.instanceMethod yX5_placeOf, Cond.selects RX5 yX5_placeOf yX5_placeOf, Cond.initialized RX5, Cond.code yX5_placeOf cX5_placeOf 3 (some .int), Cond.fieldLink RX5 12 "TwinFinder$Shelf" "here" "Ljava/util/ArrayList;", Cond.classLink RX5 36 "TwinFinder$Document"]
def wsL_nearest_r2 : List Cond := [Cond.fieldLink RX5 38 "TwinFinder$Document" "number" "I", Cond.methodLink RX5 24 yJx4a65c_size_8abf5, Cond.instanceMethod yJx4a65c_size_8abf5, Cond.selects RJx4a65c yJx4a65c_size_8abf5 yJx4a65c_size_8abf5, Cond.initialized RJx4a65c, Cond.code yJx4a65c_size_8abf5 cJx4a65c_size_8abf5 1 (some .int), Cond.fieldLink RJx4a65c 48 "java/util/ArrayList" "size" "I", Cond.methodLink RX5 32 yJx4a65c_get_915e3, Cond.instanceMethod yJx4a65c_get_915e3, Cond.selects RJx4a65c yJx4a65c_get_915e3 yJx4a65c_get_915e3, Cond.code yJx4a65c_get_915e3 cJx4a65c_get_915e3 2 (some (.object "java/lang/Object")), Cond.methodLink RJx4a65c 118 yJ15_checkIndex_7cf53, Cond.static yJ15_checkIndex_7cf53, Cond.initialized RJ15, Cond.code yJ15_checkIndex_7cf53 cJ15_checkIndex_7cf53 2 (some .int), Cond.methodLink RJ15 105 yJ3_checkIndex_8e157, Cond.static yJ3_checkIndex_8e157, Cond.initialized RJ3, Cond.code yJ3_checkIndex_8e157 cJ3_checkIndex_8e157 3 (some .int), Cond.methodLink RJx4a65c 123 yJx4a65c_elementData_915e3, Cond.instanceMethod yJx4a65c_elementData_915e3, Cond.selects RJx4a65c yJx4a65c_elementData_915e3 yJx4a65c_elementData_915e3, Cond.code yJx4a65c_elementData_915e3 cJx4a65c_elementData_915e3 2 (some (.object "java/lang/Object")), Cond.fieldLink RJx4a65c 9 "java/util/ArrayList" "elementData" "[Ljava/lang/Object;"]
def wsL_nearest_r3 : List Cond := [Cond.methodLink RX8 172 yJx4a65c_get_915e3, Cond.methodLink RX8 244 yX5_othersByNearness, Cond.instanceMethod yX5_othersByNearness, Cond.selects RX5 yX5_othersByNearness yX5_othersByNearness, Cond.code yX5_othersByNearness cX5_othersByNearness 5 (some (.object "java/util/ArrayList")), Cond.fieldLink RX5 21 "TwinFinder$Shelf" "ranked" "Ljava/util/ArrayList;", Cond.methodLink RX5 70 yJx4a65c_clear_da8c8, Cond.instanceMethod yJx4a65c_clear_da8c8, Cond.selects RJx4a65c yJx4a65c_clear_da8c8 yJx4a65c_clear_da8c8, Cond.code yJx4a65c_clear_da8c8 cJx4a65c_clear_da8c8 4 none, Cond.fieldLink RJx4a65c 63 "java/util/ArrayList" "modCount" "I", Cond.sameField "java/util/ArrayList" "java/util/AbstractList" "modCount" "I", Cond.methodLink RX5 73 yX5_rankOf, Cond.instanceMethod yX5_rankOf, Cond.selects RX5 yX5_rankOf yX5_rankOf, Cond.code yX5_rankOf cX5_rankOf 5 (some .int), Cond.methodLink RX5 80 yX2_isNearer, Cond.instanceMethod yX2_isNearer, Cond.selects RX2 yX2_isNearer yX2_isNearer, Cond.initialized RX2, Cond.code yX2_isNearer cX2_isNearer 4 (some .boolean), Cond.methodLink RX2 57 Lib.Math.max.name, Cond.static Lib.Math.max.name, Cond.initialized "java/lang/Math"]
def wsL_nearest_r4 : List Cond := [Cond.code Lib.Math.max.name Lib.Math.max.code 2 (some .int), Cond.methodLink RX2 36 yX2_common, Cond.instanceMethod yX2_common, Cond.selects RX2 yX2_common yX2_common, Cond.code yX2_common cX2_common 3 (some .int), Cond.fieldLink RX2 24 "TwinFinder$Document" "shared" "[I", Cond.fieldLink RX2 30 "TwinFinder$Document" "slot" "I", Cond.methodLink RX2 54 yX2_all, Cond.instanceMethod yX2_all, Cond.selects RX2 yX2_all yX2_all, Cond.code yX2_all cX2_all 3 (some .int), Cond.fieldLink RX2 33 "TwinFinder$Document" "size" "I", Cond.methodLink RX5 77 yJx4a65c_add_7a177, Cond.instanceMethod yJx4a65c_add_7a177, Cond.selects RJx4a65c yJx4a65c_add_7a177 yJx4a65c_add_7a177, Cond.code yJx4a65c_add_7a177 cJx4a65c_add_7a177 5 none, Cond.methodLink RJx4a65c 112 arraycopyName, Cond.native arraycopyName, Cond.static arraycopyName, Cond.initialized "java/lang/System", Cond.methodLink RJx4a65c 135 yJx4a65c_rangeCheckForAdd_d00df, Cond.instanceMethod yJx4a65c_rangeCheckForAdd_d00df, Cond.selects RJx4a65c yJx4a65c_rangeCheckForAdd_d00df yJx4a65c_rangeCheckForAdd_d00df, Cond.code yJx4a65c_rangeCheckForAdd_d00df cJx4a65c_rangeCheckForAdd_d00df 2 none]
def wsL_nearest_r5 : List Cond := [Cond.methodLink RJx4a65c 129 yJx4a65c_grow_d5877, Cond.instanceMethod yJx4a65c_grow_d5877, Cond.selects RJx4a65c yJx4a65c_grow_d5877 yJx4a65c_grow_d5877, Cond.code yJx4a65c_grow_d5877 cJx4a65c_grow_d5877 1 (some (.array (.object "java/lang/Object"))), Cond.methodLink RJx4a65c 69 yJx4a65c_grow_92f84, Cond.instanceMethod yJx4a65c_grow_92f84, Cond.selects RJx4a65c yJx4a65c_grow_92f84 yJx4a65c_grow_92f84, Cond.code yJx4a65c_grow_92f84 cJx4a65c_grow_92f84 4 (some (.array (.object "java/lang/Object"))), Cond.fieldLink RJx4a65c 39 "java/util/ArrayList" "DEFAULTCAPACITY_EMPTY_ELEMENTDATA" "[Ljava/lang/Object;", Cond.methodLink RJx4a65c 79 Lib.Math.max.name, Cond.classLink RJx4a65c 7 "java/lang/Object", Cond.methodLink RJx4a65c 73 yJ8_newLength_cabcc, Cond.static yJ8_newLength_cabcc, Cond.initialized RJ8, Cond.code yJ8_newLength_cabcc cJ8_newLength_cabcc 4 (some .int), Cond.methodLink RJ8 194 Lib.Math.max.name, Cond.constant RJ8 200 (2147483639), Cond.methodLink RJ8 201 yJ8_hugeLength_7cf53, Cond.static yJ8_hugeLength_7cf53, Cond.code yJ8_hugeLength_7cf53 cJ8_hugeLength_7cf53 3 (some .int), Cond.methodLink RJx4a65c 66 yJ7_copyOf_1904c, Cond.static yJ7_copyOf_1904c, Cond.initialized RJ7, Cond.code yJ7_copyOf_1904c cJ7_copyOf_1904c 2 (some (.array (.object "java/lang/Object")))]
def wsL_nearest_r6 : List Cond := [Cond.methodLink RJ7 86 ⟨"java/lang/Object", "getClass", "()Ljava/lang/Class;"⟩, Cond.selects "[Ljava/lang/Object;" ⟨"java/lang/Object", "getClass", "()Ljava/lang/Class;"⟩ ⟨"java/lang/Object", "getClass", "()Ljava/lang/Class;"⟩, Cond.instanceMethod ⟨"java/lang/Object", "getClass", "()Ljava/lang/Class;"⟩, Cond.native ⟨"java/lang/Object", "getClass", "()Ljava/lang/Class;"⟩, Cond.methodLink RJ7 300 yJ7_copyOf_6403c, Cond.static yJ7_copyOf_6403c, Cond.code yJ7_copyOf_6403c cJ7_copyOf_6403c 4 (some (.array (.object "java/lang/Object"))), Cond.classLink RJ7 110 "[Ljava/lang/Object;", Cond.classLink RJ7 2 "java/lang/Object", Cond.methodLink RJ7 304 Lib.Math.min.name, Cond.static Lib.Math.min.name, Cond.code Lib.Math.min.name Lib.Math.min.code 2 (some .int), Cond.methodLink RJ7 150 arraycopyName, Cond.methodLink RX8 248 yJx4a65c_size_8abf5]
def wsL_nearest : List Cond := .codeWith yL_nearest cL_nearest 5 (some .int) [(0, 10, 13, 18)] :: ((wsL_nearest_r1 ++ (wsL_nearest_r2 ++ (wsL_nearest_r3 ++ (wsL_nearest_r4 ++ (wsL_nearest_r5 ++ wsL_nearest_r6))))) ++ wsX80 ++ wsX00 ++ wsX50 ++ wsJx4a65c0 ++ (vx_atS RX8 167 "java/util/NoSuchElementException" ["java/lang/RuntimeException", "java/lang/Exception"]).filter goodWord)
abbrev vwCl : List vw_C := [(RJx4a65c, TJx4a65c, 3), (RX0, TX0, 7), (RX1, TX1, 8), (RX2, TX2, 4), (RX3, TX3, 3), (RX4, TX4, 7), (RX5, TX5, 4), (RX6, TX6, 5), (RX7, TX7, 7), (RX8, TX8, 9), (RX9, TX9, 32)]
end
section
/-! ===== the core: contracts over one world list, frames by positions, instructions over small naturals ===== -/
section CORE
/-- since ws only the positions in K, and new ones, have changed -/
def Sm (K : Nat → Prop) (ws ws' : va_W) : Prop := ws.length ≤ ws'.length ∧ ∀ k : Nat, k < ws.length → ¬ K k → ws'[k]? = ws[k]?
/-- one position has changed -/
def Up (q : Nat) (ws ws' : va_W) : Prop := ws'.length = ws.length ∧ ∀ k : Nat, k ≠ q → ws'[k]? = ws[k]?
/-- one cell has come at the end -/
def Ps (ws ws' : va_W) : Prop := ws'.length = ws.length + 1 ∧ ∀ k : Nat, k < ws.length → ws'[k]? = ws[k]?
theorem gl_lt {ws : va_W} {k : Nat} {x : Nat × va_E} (h : ws[k]? = some x) : k < ws.length := (List.getElem?_eq_some_iff.mp h).1
theorem Sm.rf {K : Nat → Prop} {ws : va_W} : Sm K ws ws := ⟨Nat.le_refl _, fun _ _ _ => rfl⟩
theorem Sm.trans {K : Nat → Prop} {a b c : va_W} (h1 : Sm K a b) (h2 : Sm K b c) : Sm K a c := ⟨Nat.le_trans h1.1 h2.1, fun k hk hn => (h2.2 k (Nat.lt_of_lt_of_le hk h1.1) hn).trans (h1.2 k hk hn)⟩
theorem Sm.mono {K K' : Nat → Prop} {a b : va_W} (h : Sm K a b) (hk : ∀ k, K k → K' k) : Sm K' a b := ⟨h.1, fun k h1 h2 => h.2 k h1 (fun q => h2 (hk k q))⟩
theorem Sm.up {K : Nat → Prop} {q : Nat} {a b c : va_W} (h1 : Sm K a b) (h2 : Up q b c) (hq : K q) : Sm K a c := ⟨by rw [h2.1]; exact h1.1, fun k hk hn => (h2.2 k (fun e => hn (by rw [e]; exact hq))).trans (h1.2 k hk hn)⟩
theorem Sm.ps {K : Nat → Prop} {a b c : va_W} (h1 : Sm K a b) (h2 : Ps b c) : Sm K a c := ⟨by rw [h2.1]; exact Nat.le_succ_of_le h1.1, fun k hk hn => (h2.2 k (Nat.lt_of_lt_of_le hk h1.1)).trans (h1.2 k hk hn)⟩
theorem Sm.call {K K' : Nat → Prop} {a b c : va_W} (h1 : Sm K a b) (h2 : Sm K' b c) (hk : ∀ k, K' k → K k) : Sm K a c := h1.trans (h2.mono hk)
theorem Sm.get {K : Nat → Prop} {ws ws' : va_W} {k : Nat} {x : Nat × va_E} (h : Sm K ws ws') (g : ws[k]? = some x) (hk : ¬ K k) : ws'[k]? = some x := (h.2 k (gl_lt g) hk).trans g
theorem Up.get {q : Nat} {ws ws' : va_W} {k : Nat} {x : Nat × va_E} (h : Up q ws ws') (g : ws[k]? = some x) (hk : k ≠ q) : ws'[k]? = some x := (h.2 k hk).trans g
theorem Ps.get {ws ws' : va_W} {k : Nat} {x : Nat × va_E} (h : Ps ws ws') (g : ws[k]? = some x) : ws'[k]? = some x := (h.2 k (gl_lt g)).trans g
theorem up_set {q : Nat} {ws : va_W} {x : Nat × va_E} : Up q ws (ws.set q x) := ⟨List.length_set, fun k hk => List.getElem?_set_ne (Ne.symm hk)⟩
theorem set_at {q : Nat} {ws : va_W} {x y : Nat × va_E} (h : ws[q]? = some x) : (ws.set q y)[q]? = some y := List.getElem?_set_self (gl_lt h)
theorem ps_app {ws : va_W} {x : Nat × va_E} : Ps ws (ws ++ [x]) := ⟨by simp, fun k hk => List.getElem?_append_left hk⟩
theorem app_at {ws : va_W} {x : Nat × va_E} : (ws ++ [x])[ws.length]? = some x := by simp
/-- two lookups of different cells are at different positions -/
theorem gl_ne {ws : va_W} {i j : Nat} {x y : Nat × va_E} (h1 : ws[i]? = some x) (h2 : ws[j]? = some y) (h : x ≠ y) : i ≠ j := fun e => by subst e; exact h (Option.some.inj (h1.symm.trans h2))

/-- what a method's body has at hand -/
def Cx (p : Program) (s : State) (m : MethodId) (meth : Method) (c : Code) (y : MethodName) (cc : ByteArray) (ret : Option FieldType) (nL : Nat) (args : Array Value) (Ts : List Cond) : Prop :=
  p.tables.exec = Jvm.exec ∧ c.code = cc ∧ meth.sig.returnType = ret ∧ c.maxLocals = nL ∧ (∀ w ∈ Ts, w.before args s = true) ∧ s.vm.findClass y.cls = some m.cls ∧ meth.locks = false ∧ meth.name = y.name
/-- the world behind a method -/
def Bw (D : va_G) (tys : List (ClassId × FieldType)) (A : Nat → Prop) (ws : va_W) (t : State) : Prop := va_P D vwCl ws t.heap ∧ va_K D vwCl tys t ∧ va_D A ws
def Pw (D : va_G) (tys : List (ClassId × FieldType)) (ws : va_W) (sz : Nat) (U : State) : Prop := U.heap.size = sz ∧ va_P D vwCl ws U.heap ∧ va_K D vwCl tys U ∧ va_D (fun _ => True) ws
/-- contracts: of an int (or boolean), of nothing, of a reference -/
def CI (D : va_G) (tys : List (ClassId × FieldType)) (l : Launch) (y : MethodName) (w : List Cond) (rm : Room) (av : List Value) (ws : va_W) (post : Int32 → va_W → Prop) : Prop :=
  ∀ sz : Nat, Met l y w rm (va_Pc av (Pw D tys ws sz)) (va_Qi post (Bw D tys (va_A ws sz)) (va_A ws sz)) rm.cells rm.slots (va_A ws sz)
def CV (D : va_G) (tys : List (ClassId × FieldType)) (l : Launch) (y : MethodName) (w : List Cond) (rm : Room) (av : List Value) (ws : va_W) (post : va_W → Prop) : Prop :=
  ∀ sz : Nat, Met l y w rm (va_Pc av (Pw D tys ws sz)) (va_Qv post (Bw D tys (va_A ws sz)) (va_A ws sz)) rm.cells rm.slots (va_A ws sz)
def CQ (D : va_G) (tys : List (ClassId × FieldType)) (l : Launch) (y : MethodName) (w : List Cond) (rm : Room) (av : List Value) (ws : va_W) (post : Option Nat → va_W → Prop) : Prop :=
  ∀ sz : Nat, Met l y w rm (va_Pc av (Pw D tys ws sz)) (va_Qq post (Bw D tys (va_A ws sz)) (va_A ws sz)) rm.cells rm.slots (va_A ws sz)
def ZI (D : va_G) (tys : List (ClassId × FieldType)) (post : Int32 → va_W → Prop) (below : List Frame) (av : List Value) (s : State) (mc ms : Nat) (A : Nat → Prop) : State → Prop := MQ below (va_Qi post (Bw D tys A) A) av.toArray s mc ms A
def ZV (D : va_G) (tys : List (ClassId × FieldType)) (post : va_W → Prop) (below : List Frame) (av : List Value) (s : State) (mc ms : Nat) (A : Nat → Prop) : State → Prop := MQ below (va_Qv post (Bw D tys A) A) av.toArray s mc ms A
def ZQ (D : va_G) (tys : List (ClassId × FieldType)) (post : Option Nat → va_W → Prop) (below : List Frame) (av : List Value) (s : State) (mc ms : Nat) (A : Nat → Prop) : State → Prop := MQ below (va_Qq post (Bw D tys A) A) av.toArray s mc ms A
theorem pw_blind {D : va_G} {tys : List (ClassId × FieldType)} {av : List Value} {ws : va_W} {sz : Nat} : FrameBlind (va_Pc av (Pw D tys ws sz)) := fun a U g mk q => by
  obtain ⟨q0, q1, qP, qK, qD⟩ := q
  exact ⟨q0, q1, qP, va_K.moved (u := U) (U := U.calling g mk a) (Vm.Alike.refl U.vm) qK, qD⟩
section Of
variable {D : va_G} {tys : List (ClassId × FieldType)} {l : Launch} {y : MethodName} {w w' : List Cond} {rm : Room} {av : List Value} {ws : va_W} {cc : ByteArray} {maxL : Nat} {ret : Option FieldType}
theorem CI.of {post : Int32 → va_W → Prop} (hy : plainName y.cls = true) (hw : w = Cond.code y cc maxL ret :: w') (hn : (lg_sl av).length ≤ maxL)
    (body : ∀ (p : Program) (e : Env) (s : State) (m : MethodId) (below : List Frame) (meth : Method) (c : Code) (A : Nat → Prop), Cx p s m meth c y cc ret maxL av.toArray w → va_K D vwCl tys s → va_P D vwCl ws s.heap → va_D A ws → (∀ q : Nat, s.heap.size ≤ q → A q) → va_S A s.heap s.heap [] → ∀ ls : Array Slot, lv_has ls maxL (lv_args 0 av) → W p l e rm s m av.toArray below meth c s.heap [] 0 0 (ZI D tys post below av s rm.cells rm.slots A) (F0 m 0 ls [])) : CI D tys l y w rm av ws post := by
  intro sz
  refine Met.ofW (cc := cc) (maxL := maxL) (ret := ret) hy hw ?_
  intro p e s m args below meth c s₁ B hml hv
  obtain ⟨rfl, rfl, hP, hK, hD0⟩ := hv
  have hl := lv_entry av (n := maxL) hn
  rw [lg_entry_eq]
  exact body p e s m below meth c _ ⟨B.exec, B.bytes, B.returns, hml, atoms_spec (ws := w) B.pre, findClass_of_methodNamed B.named, B.notSynchronized, (name_of_methodNamed B.named B.method).1⟩ hK hP (hD0.self (sz := s.heap.size)) (fun q h => Or.inr h) va_S.rf _ hl
theorem CV.of {post : va_W → Prop} (hy : plainName y.cls = true) (hw : w = Cond.code y cc maxL ret :: w') (hn : (lg_sl av).length ≤ maxL)
    (body : ∀ (p : Program) (e : Env) (s : State) (m : MethodId) (below : List Frame) (meth : Method) (c : Code) (A : Nat → Prop), Cx p s m meth c y cc ret maxL av.toArray w → va_K D vwCl tys s → va_P D vwCl ws s.heap → va_D A ws → (∀ q : Nat, s.heap.size ≤ q → A q) → va_S A s.heap s.heap [] → ∀ ls : Array Slot, lv_has ls maxL (lv_args 0 av) → W p l e rm s m av.toArray below meth c s.heap [] 0 0 (ZV D tys post below av s rm.cells rm.slots A) (F0 m 0 ls [])) : CV D tys l y w rm av ws post := by
  intro sz
  refine Met.ofW (cc := cc) (maxL := maxL) (ret := ret) hy hw ?_
  intro p e s m args below meth c s₁ B hml hv
  obtain ⟨rfl, rfl, hP, hK, hD0⟩ := hv
  have hl := lv_entry av (n := maxL) hn
  rw [lg_entry_eq]
  exact body p e s m below meth c _ ⟨B.exec, B.bytes, B.returns, hml, atoms_spec (ws := w) B.pre, findClass_of_methodNamed B.named, B.notSynchronized, (name_of_methodNamed B.named B.method).1⟩ hK hP (hD0.self (sz := s.heap.size)) (fun q h => Or.inr h) va_S.rf _ hl
theorem CQ.of {post : Option Nat → va_W → Prop} (hy : plainName y.cls = true) (hw : w = Cond.code y cc maxL ret :: w') (hn : (lg_sl av).length ≤ maxL)
    (body : ∀ (p : Program) (e : Env) (s : State) (m : MethodId) (below : List Frame) (meth : Method) (c : Code) (A : Nat → Prop), Cx p s m meth c y cc ret maxL av.toArray w → va_K D vwCl tys s → va_P D vwCl ws s.heap → va_D A ws → (∀ q : Nat, s.heap.size ≤ q → A q) → va_S A s.heap s.heap [] → ∀ ls : Array Slot, lv_has ls maxL (lv_args 0 av) → W p l e rm s m av.toArray below meth c s.heap [] 0 0 (ZQ D tys post below av s rm.cells rm.slots A) (F0 m 0 ls [])) : CQ D tys l y w rm av ws post := by
  intro sz
  refine Met.ofW (cc := cc) (maxL := maxL) (ret := ret) hy hw ?_
  intro p e s m args below meth c s₁ B hml hv
  obtain ⟨rfl, rfl, hP, hK, hD0⟩ := hv
  have hl := lv_entry av (n := maxL) hn
  rw [lg_entry_eq]
  exact body p e s m below meth c _ ⟨B.exec, B.bytes, B.returns, hml, atoms_spec (ws := w) B.pre, findClass_of_methodNamed B.named, B.notSynchronized, (name_of_methodNamed B.named B.method).1⟩ hK hP (hD0.self (sz := s.heap.size)) (fun q h => Or.inr h) va_S.rf _ hl
end Of
section Ret
variable {D : va_G} {tys : List (ClassId × FieldType)} {p : Program} {l : Launch} {e : Env} {R : Room} {s : State} {m : MethodId} {av : List Value} {below : List Frame} {meth : Method} {c : Code} {H : Heap} {locs : List Loc} {cells slots mc ms : Nat} {A : Nat → Prop}
  {y : MethodName} {cc : ByteArray} {nL pc : Nat} {Ts : List Cond} {ls : Array Slot} {ws : va_W}
theorem CI.ret {ty : FieldType} {v : Int32} {post : Int32 → va_W → Prop} (C : Cx p s m meth c y cc (some ty) nL av.toArray Ts) (hK : va_K D vwCl tys s) (hP : va_P D vwCl ws H) (hD : va_D A ws) (hS : va_S A s.heap H locs) (hn : narrow ty (.int v) = .int v) (hp : post v ws) (hc : cells ≤ mc) (hs : slots ≤ ms) (hdg : decode cc pc = .ok (.ireturn, 1)) :
    W p l e R s m av.toArray below meth c H locs cells slots (ZI D tys post below av s mc ms A) (F0 m pc ls [.int v]) := by
  obtain ⟨hx, hb, hr, hml, hts, hown, hlocks, hnm⟩ := C
  refine W.widen (k := mc) (n := ms) hc hs ?_
  exact W.zret hx hb hr hn (fun t ht hW => ⟨⟨v, ws, rfl, hp, by rw [ht]; exact hP, va_K.moved hW.alike hK, hD⟩, hS.F ht⟩) hS.2.2 hdg
theorem CV.ret {post : va_W → Prop} (C : Cx p s m meth c y cc none nL av.toArray Ts) (hK : va_K D vwCl tys s) (hP : va_P D vwCl ws H) (hD : va_D A ws) (hS : va_S A s.heap H locs) (hp : post ws) (hc : cells ≤ mc) (hs : slots ≤ ms) (hdg : decode cc pc = .ok (.return_, 1)) :
    W p l e R s m av.toArray below meth c H locs cells slots (ZV D tys post below av s mc ms A) (F0 m pc ls []) := by
  obtain ⟨hx, hb, hr, hml, hts, hown, hlocks, hnm⟩ := C
  refine W.widen (k := mc) (n := ms) hc hs ?_
  exact W.vret hx hb hr (fun t ht hW => ⟨⟨ws, rfl, hp, by rw [ht]; exact hP, va_K.moved hW.alike hK, hD⟩, hS.F ht⟩) hS.2.2 hdg
theorem CQ.ret {rt : FieldType} {v : Option Nat} {post : Option Nat → va_W → Prop} (C : Cx p s m meth c y cc (some rt) nL av.toArray Ts) (hK : va_K D vwCl tys s) (hP : va_P D vwCl ws H) (hD : va_D A ws) (hS : va_S A s.heap H locs) (hrt : (∃ n, rt = .object n) ∨ ∃ t, rt = .array t) (hp : post v ws) (hc : cells ≤ mc) (hs : slots ≤ ms) (hdg : decode cc pc = .ok (.areturn, 1)) :
    W p l e R s m av.toArray below meth c H locs cells slots (ZQ D tys post below av s mc ms A) (F0 m pc ls [va_rf v]) := by
  obtain ⟨hx, hb, hr, hml, hts, hown, hlocks, hnm⟩ := C
  refine W.widen (k := mc) (n := ms) hc hs ?_
  exact W.aret hx hb hr hrt (va_rf_or v) (fun t ht hW => ⟨⟨v, ws, rfl, hp, by rw [ht]; exact hP, va_K.moved hW.alike hK, hD⟩, hS.F ht⟩) hS.2.2 hdg
end Ret
section Call
variable {D : va_G} {tys : List (ClassId × FieldType)} {p : Program} {l : Launch} {e : Env} {R : Room} {s : State} {m : MethodId} {args : Array Value} {below : List Frame} {meth : Method} {c : Code} {H : Heap} {locs : List Loc} {cells slots : Nat} {A : Nat → Prop} {Q : State → Prop}
  {y y2 : MethodName} {cc bytes : ByteArray} {ret ret2 : Option FieldType} {nL maxL n index pc : Nat} {Ts w2 : List Cond} {ls : Array Slot} {ws : va_W} {rm2 : Room} {own Cn : String} {b : Nat} {As rest st0 : List Value}
theorem va_Aall (hD : va_D A ws) (hS : va_S A s.heap H locs) (hA : ∀ q : Nat, s.heap.size ≤ q → A q) : ∀ q : Nat, va_A ws H.size q → A q := fun q h => by
  rcases h with ⟨k, e, h⟩ | h
  · exact hD.2 k (q, e) h
  · exact hA q (Nat.le_trans hS.1 h)
theorem pw_pre (hK : va_K D vwCl tys s) (hP : va_P D vwCl ws H) (hD : va_D A ws) {av : List Value} {U : State} (hU : U.heap = H) (hW : s.WarmedH U.vm) : va_Pc av (Pw D tys ws H.size) av.toArray U :=
  ⟨rfl, by rw [hU], by rw [hU]; exact hP, va_K.moved hW.alike hK, hD.weaken (fun _ _ _ _ => trivial)⟩
/-- any run of a callee that has the whole world: int -/
theorem CI.go {post : Int32 → va_W → Prop} {av : List Value} (hr : va_Run p l e R s m args below meth c H locs cells slots rm2.cells rm2.slots (F0 m pc ls st0) rest (va_Qi post (Bw D tys (va_A ws H.size)) (va_A ws H.size) av.toArray) (va_A ws H.size)) (hD : va_D A ws) (hS : va_S A s.heap H locs) (hA : ∀ q : Nat, s.heap.size ≤ q → A q)
    (kk : ∀ (r : Int32) (ws' : va_W) (H1 : Heap) (locs1 : List Loc), post r ws' → va_P D vwCl ws' H1 → va_D A ws' → va_S A s.heap H1 locs1 → W p l e R s m args below meth c H1 locs1 (cells + rm2.cells) (slots + rm2.slots) Q (F0 m (pc + 3) ls (.int r :: rest))) : W p l e R s m args below meth c H locs cells slots Q (F0 m pc ls st0) :=
  va_calli hr hS (fun q _ h => va_Aall hD hS hA q h) (va_Aall hD hS hA) (fun r u t H1 locs1 ht hvm hp hB _ _ hS1 => kk r u H1 locs1 hp (by rw [← ht]; exact hB.1) (hB.2.2.weaken (fun _ q _ h => va_Aall hD hS hA q.1 h)) hS1)
theorem CV.go {post : va_W → Prop} {av : List Value} (hr : va_Run p l e R s m args below meth c H locs cells slots rm2.cells rm2.slots (F0 m pc ls st0) rest (va_Qv post (Bw D tys (va_A ws H.size)) (va_A ws H.size) av.toArray) (va_A ws H.size)) (hD : va_D A ws) (hS : va_S A s.heap H locs) (hA : ∀ q : Nat, s.heap.size ≤ q → A q)
    (kk : ∀ (ws' : va_W) (H1 : Heap) (locs1 : List Loc), post ws' → va_P D vwCl ws' H1 → va_D A ws' → va_S A s.heap H1 locs1 → W p l e R s m args below meth c H1 locs1 (cells + rm2.cells) (slots + rm2.slots) Q (F0 m (pc + 3) ls rest)) : W p l e R s m args below meth c H locs cells slots Q (F0 m pc ls st0) :=
  va_callv hr hS (fun q _ h => va_Aall hD hS hA q h) (va_Aall hD hS hA) (fun u t H1 locs1 ht hvm hp hB _ _ hS1 => kk u H1 locs1 hp (by rw [← ht]; exact hB.1) (hB.2.2.weaken (fun _ q _ h => va_Aall hD hS hA q.1 h)) hS1)
theorem CQ.go {post : Option Nat → va_W → Prop} {av : List Value} (hr : va_Run p l e R s m args below meth c H locs cells slots rm2.cells rm2.slots (F0 m pc ls st0) rest (va_Qq post (Bw D tys (va_A ws H.size)) (va_A ws H.size) av.toArray) (va_A ws H.size)) (hD : va_D A ws) (hS : va_S A s.heap H locs) (hA : ∀ q : Nat, s.heap.size ≤ q → A q)
    (kk : ∀ (r : Option Nat) (ws' : va_W) (H1 : Heap) (locs1 : List Loc), post r ws' → va_P D vwCl ws' H1 → va_D A ws' → va_S A s.heap H1 locs1 → W p l e R s m args below meth c H1 locs1 (cells + rm2.cells) (slots + rm2.slots) Q (F0 m (pc + 3) ls (va_rf r :: rest))) : W p l e R s m args below meth c H locs cells slots Q (F0 m pc ls st0) :=
  va_callq hr hS (fun q _ h => va_Aall hD hS hA q h) (va_Aall hD hS hA) (fun r u t H1 locs1 ht hvm hp hB _ _ hS1 => kk r u H1 locs1 hp (by rw [← ht]; exact hB.1) (hB.2.2.weaken (fun _ q _ h => va_Aall hD hS hA q.1 h)) hS1)
end Call
end CORE
end
section
/-! ===== instructions over small naturals, writes into an abstract world ===== -/
section NX
variable {p : Program} {l : Launch} {e : Env} {R : Room} {s : State} {m : MethodId} {args : Array Value} {below : List Frame} {meth : Method} {c : Code} {H : Heap} {locs : List Loc} {cells slots : Nat} {Q : State → Prop}
variable {cc : ByteArray} {pc : Nat} {ls : Array Slot} {rest : List Value} {D : va_G} {A : Nat → Prop} {a : Nat} {tys : List (ClassId × FieldType)} {ws : va_W} {H0 : Heap}

theorem nx_inc (a n : Nat) : nI a + Int32.ofInt (n : Int) = nI (a + n) := by
  rw [show Int32.ofInt (n : Int) = nI n from rfl, nI_add]
theorem nx_dec {a n : Nat} (h : n ≤ a) : nI a + Int32.ofInt (-(n : Int)) = nI (a - n) := by
  rw [← pk_sub h]
  apply Int32.toBitVec_inj.mp
  simp [nI, Int32.sub_eq_add_neg, Int32.ofInt_neg]
theorem nx_iadd (hexec : p.tables.exec = Jvm.exec) (hb : c.code = cc) {x y : Nat} (hdg : decode cc pc = .ok (.iadd, 1)) (k : W p l e R s m args below meth c H locs cells slots Q (F0 m (pc + 1) ls (.int (nI (x + y)) :: rest))) : W p l e R s m args below meth c H locs cells slots Q (F0 m pc ls (.int (nI y) :: .int (nI x) :: rest)) := lv_iadd hexec hb hdg (by rw [nI_add]; exact k)
theorem nx_isub (hexec : p.tables.exec = Jvm.exec) (hb : c.code = cc) {x y : Nat} (h : y ≤ x) (hdg : decode cc pc = .ok (.isub, 1)) (k : W p l e R s m args below meth c H locs cells slots Q (F0 m (pc + 1) ls (.int (nI (x - y)) :: rest))) : W p l e R s m args below meth c H locs cells slots Q (F0 m pc ls (.int (nI y) :: .int (nI x) :: rest)) := lv_isub hexec hb hdg (by rw [pk_sub h]; exact k)
theorem nx_imul (hexec : p.tables.exec = Jvm.exec) (hb : c.code = cc) {x y : Nat} (hdg : decode cc pc = .ok (.imul, 1)) (k : W p l e R s m args below meth c H locs cells slots Q (F0 m (pc + 1) ls (.int (nI (x * y)) :: rest))) : W p l e R s m args below meth c H locs cells slots Q (F0 m pc ls (.int (nI y) :: .int (nI x) :: rest)) := lv_imul hexec hb hdg (by rw [pk_mul]; exact k)
theorem nx_icmp_eq (hexec : p.tables.exec = Jvm.exec) (hb : c.code = cc) {x y : Nat} {off : Int} {tgt : Nat} (hx2 : x < 2 ^ 31) (hy2 : y < 2 ^ 31) (hdg : decode cc pc = .ok (.if_icmp .eq off, 3)) (ht : (pc : Int) + off = (tgt : Int)) (kt : x = y → W p l e R s m args below meth c H locs cells slots Q (F0 m tgt ls rest)) (kf : x ≠ y → W p l e R s m args below meth c H locs cells slots Q (F0 m (pc + 3) ls rest)) : W p l e R s m args below meth c H locs cells slots Q (F0 m pc ls (.int (nI y) :: .int (nI x) :: rest)) := lv_icmp_eq hexec hb hdg ht (fun h => kt ((nI_eq hx2 hy2).mp h)) (fun h => kf (fun e => h ((nI_eq hx2 hy2).mpr e)))
theorem nx_icmp_ne (hexec : p.tables.exec = Jvm.exec) (hb : c.code = cc) {x y : Nat} {off : Int} {tgt : Nat} (hx2 : x < 2 ^ 31) (hy2 : y < 2 ^ 31) (hdg : decode cc pc = .ok (.if_icmp .ne off, 3)) (ht : (pc : Int) + off = (tgt : Int)) (kt : x ≠ y → W p l e R s m args below meth c H locs cells slots Q (F0 m tgt ls rest)) (kf : x = y → W p l e R s m args below meth c H locs cells slots Q (F0 m (pc + 3) ls rest)) : W p l e R s m args below meth c H locs cells slots Q (F0 m pc ls (.int (nI y) :: .int (nI x) :: rest)) := lv_icmp_ne hexec hb hdg ht (fun h => kt (fun e => h ((nI_eq hx2 hy2).mpr e))) (fun h => kf ((nI_eq hx2 hy2).mp h))
theorem nx_icmp_lt (hexec : p.tables.exec = Jvm.exec) (hb : c.code = cc) {x y : Nat} {off : Int} {tgt : Nat} (hx2 : x < 2 ^ 31) (hy2 : y < 2 ^ 31) (hdg : decode cc pc = .ok (.if_icmp .lt off, 3)) (ht : (pc : Int) + off = (tgt : Int)) (kt : x < y → W p l e R s m args below meth c H locs cells slots Q (F0 m tgt ls rest)) (kf : y ≤ x → W p l e R s m args below meth c H locs cells slots Q (F0 m (pc + 3) ls rest)) : W p l e R s m args below meth c H locs cells slots Q (F0 m pc ls (.int (nI y) :: .int (nI x) :: rest)) := lv_icmp_lt hexec hb hdg ht (fun h => kt ((nI_ltI hx2 hy2).mp h)) (fun h => kf (Nat.le_of_not_lt (fun e => h ((nI_ltI hx2 hy2).mpr e))))
theorem nx_icmp_ge (hexec : p.tables.exec = Jvm.exec) (hb : c.code = cc) {x y : Nat} {off : Int} {tgt : Nat} (hx2 : x < 2 ^ 31) (hy2 : y < 2 ^ 31) (hdg : decode cc pc = .ok (.if_icmp .ge off, 3)) (ht : (pc : Int) + off = (tgt : Int)) (kt : y ≤ x → W p l e R s m args below meth c H locs cells slots Q (F0 m tgt ls rest)) (kf : x < y → W p l e R s m args below meth c H locs cells slots Q (F0 m (pc + 3) ls rest)) : W p l e R s m args below meth c H locs cells slots Q (F0 m pc ls (.int (nI y) :: .int (nI x) :: rest)) := lv_icmp_ge hexec hb hdg ht (fun h => kt ((nI_leI hy2 hx2).mp h)) (fun h => kf (Nat.lt_of_not_le (fun e => h ((nI_leI hy2 hx2).mpr e))))
theorem nx_icmp_gt (hexec : p.tables.exec = Jvm.exec) (hb : c.code = cc) {x y : Nat} {off : Int} {tgt : Nat} (hx2 : x < 2 ^ 31) (hy2 : y < 2 ^ 31) (hdg : decode cc pc = .ok (.if_icmp .gt off, 3)) (ht : (pc : Int) + off = (tgt : Int)) (kt : y < x → W p l e R s m args below meth c H locs cells slots Q (F0 m tgt ls rest)) (kf : x ≤ y → W p l e R s m args below meth c H locs cells slots Q (F0 m (pc + 3) ls rest)) : W p l e R s m args below meth c H locs cells slots Q (F0 m pc ls (.int (nI y) :: .int (nI x) :: rest)) := lv_icmp_gt hexec hb hdg ht (fun h => kt ((nI_ltI hy2 hx2).mp h)) (fun h => kf (Nat.le_of_not_lt (fun e => h ((nI_ltI hy2 hx2).mpr e))))
theorem nx_icmp_le (hexec : p.tables.exec = Jvm.exec) (hb : c.code = cc) {x y : Nat} {off : Int} {tgt : Nat} (hx2 : x < 2 ^ 31) (hy2 : y < 2 ^ 31) (hdg : decode cc pc = .ok (.if_icmp .le off, 3)) (ht : (pc : Int) + off = (tgt : Int)) (kt : x ≤ y → W p l e R s m args below meth c H locs cells slots Q (F0 m tgt ls rest)) (kf : y < x → W p l e R s m args below meth c H locs cells slots Q (F0 m (pc + 3) ls rest)) : W p l e R s m args below meth c H locs cells slots Q (F0 m pc ls (.int (nI y) :: .int (nI x) :: rest)) := lv_icmp_le hexec hb hdg ht (fun h => kt ((nI_leI hx2 hy2).mp h)) (fun h => kf (Nat.lt_of_not_le (fun e => h ((nI_leI hx2 hy2).mpr e))))
theorem nx_z {x : Nat} (h : x < 2 ^ 31) : nI x = 0 ↔ x = 0 := by
  rw [← nI_0]
  exact nI_eq h (by decide)
theorem nx_lz {x : Nat} (h : x < 2 ^ 31) : nI x ≤ 0 ↔ x = 0 := by
  rw [← nI_0, nI_leI h (by decide)]
  omega
theorem nx_gz {x : Nat} (h : x < 2 ^ 31) : 0 < nI x ↔ 0 < x := by
  rw [← nI_0, nI_ltI (by decide) h]
theorem nx_if_eq (hexec : p.tables.exec = Jvm.exec) (hb : c.code = cc) {x : Nat} {off : Int} {tgt : Nat} (hx2 : x < 2 ^ 31) (hdg : decode cc pc = .ok (.ifCond .eq off, 3)) (ht : (pc : Int) + off = (tgt : Int)) (kt : x = 0 → W p l e R s m args below meth c H locs cells slots Q (F0 m tgt ls rest)) (kf : 0 < x → W p l e R s m args below meth c H locs cells slots Q (F0 m (pc + 3) ls rest)) : W p l e R s m args below meth c H locs cells slots Q (F0 m pc ls (.int (nI x) :: rest)) := lv_if_eq hexec hb hdg ht (fun h => kt ((nx_z hx2).mp h)) (fun h => kf (Nat.pos_of_ne_zero (fun e => h ((nx_z hx2).mpr e))))
theorem nx_if_ne (hexec : p.tables.exec = Jvm.exec) (hb : c.code = cc) {x : Nat} {off : Int} {tgt : Nat} (hx2 : x < 2 ^ 31) (hdg : decode cc pc = .ok (.ifCond .ne off, 3)) (ht : (pc : Int) + off = (tgt : Int)) (kt : 0 < x → W p l e R s m args below meth c H locs cells slots Q (F0 m tgt ls rest)) (kf : x = 0 → W p l e R s m args below meth c H locs cells slots Q (F0 m (pc + 3) ls rest)) : W p l e R s m args below meth c H locs cells slots Q (F0 m pc ls (.int (nI x) :: rest)) := lv_if_ne hexec hb hdg ht (fun h => kt (Nat.pos_of_ne_zero (fun e => h ((nx_z hx2).mpr e)))) (fun h => kf ((nx_z hx2).mp h))
theorem nx_if_le (hexec : p.tables.exec = Jvm.exec) (hb : c.code = cc) {x : Nat} {off : Int} {tgt : Nat} (hx2 : x < 2 ^ 31) (hdg : decode cc pc = .ok (.ifCond .le off, 3)) (ht : (pc : Int) + off = (tgt : Int)) (kt : x = 0 → W p l e R s m args below meth c H locs cells slots Q (F0 m tgt ls rest)) (kf : 0 < x → W p l e R s m args below meth c H locs cells slots Q (F0 m (pc + 3) ls rest)) : W p l e R s m args below meth c H locs cells slots Q (F0 m pc ls (.int (nI x) :: rest)) := lv_if_le hexec hb hdg ht (fun h => kt ((nx_lz hx2).mp h)) (fun h => kf (Nat.pos_of_ne_zero (fun e => h ((nx_lz hx2).mpr e))))
theorem nx_if_gt (hexec : p.tables.exec = Jvm.exec) (hb : c.code = cc) {x : Nat} {off : Int} {tgt : Nat} (hx2 : x < 2 ^ 31) (hdg : decode cc pc = .ok (.ifCond .gt off, 3)) (ht : (pc : Int) + off = (tgt : Int)) (kt : 0 < x → W p l e R s m args below meth c H locs cells slots Q (F0 m tgt ls rest)) (kf : x = 0 → W p l e R s m args below meth c H locs cells slots Q (F0 m (pc + 3) ls rest)) : W p l e R s m args below meth c H locs cells slots Q (F0 m pc ls (.int (nI x) :: rest)) := lv_if_gt hexec hb hdg ht (fun h => kt ((nx_gz hx2).mp h)) (fun h => kf (Nat.eq_zero_of_not_pos (fun e => h ((nx_gz hx2).mpr e))))
theorem nx_if_lt (hexec : p.tables.exec = Jvm.exec) (hb : c.code = cc) {x : Nat} {off : Int} (hx2 : x < 2 ^ 31) (hdg : decode cc pc = .ok (.ifCond .lt off, 3)) {tgt : Nat} (ht : (pc : Int) + off = (tgt : Int)) (kf : W p l e R s m args below meth c H locs cells slots Q (F0 m (pc + 3) ls rest)) : W p l e R s m args below meth c H locs cells slots Q (F0 m pc ls (.int (nI x) :: rest)) := lv_if_lt hexec hb hdg ht (fun h => absurd h (nI_pos hx2)) (fun _ => kf)
theorem nx_if_ge (hexec : p.tables.exec = Jvm.exec) (hb : c.code = cc) {x : Nat} {off : Int} (hx2 : x < 2 ^ 31) (hdg : decode cc pc = .ok (.ifCond .ge off, 3)) {tgt : Nat} (ht : (pc : Int) + off = (tgt : Int)) (kt : W p l e R s m args below meth c H locs cells slots Q (F0 m tgt ls rest)) : W p l e R s m args below meth c H locs cells slots Q (F0 m pc ls (.int (nI x) :: rest)) := lv_if_ge hexec hb hdg ht (fun _ => kt) (fun h => absurd (nI_pos' hx2) h)
theorem nx_iald (hexec : p.tables.exec = Jvm.exec) (hb : c.code = cc) (hK : va_K D vwCl tys s) (hP : va_P D vwCl ws H) (q0 t0 : Nat) {cA : ClassId} {n : Nat} {f : Nat → Int32} (ha : ws[q0]? = some (a, .inl (cA, n, .inl f))) (ht : tys[t0]? = some (cA, .int)) {k : Nat} (hk : k < n) (hn : n < 2 ^ 31) (hdg : decode cc pc = .ok (.iaload, 1)) (kk : W p l e R s m args below meth c H locs cells slots Q (F0 m (pc + 1) ls (.int (f k) :: rest))) : W p l e R s m args below meth c H locs cells slots Q (F0 m pc ls (.int (nI k) :: .ref a :: rest)) := va_iald hexec hb hK hP q0 t0 ha ht (vp_in_nI hk hn) hdg (by rw [nI_clamp (Nat.lt_trans hk hn)]; exact kk)
theorem nx_bald (hexec : p.tables.exec = Jvm.exec) (hb : c.code = cc) (hK : va_K D vwCl tys s) (hP : va_P D vwCl ws H) (q0 t0 : Nat) {cA : ClassId} {n : Nat} {f : Nat → Int32} (ha : ws[q0]? = some (a, .inl (cA, n, .inl f))) (ht : tys[t0]? = some (cA, .byte)) {k : Nat} (hk : k < n) (hn : n < 2 ^ 31) (hdg : decode cc pc = .ok (.baload, 1)) (kk : W p l e R s m args below meth c H locs cells slots Q (F0 m (pc + 1) ls (.int (f k) :: rest))) : W p l e R s m args below meth c H locs cells slots Q (F0 m pc ls (.int (nI k) :: .ref a :: rest)) := va_bald hexec hb hK hP q0 t0 ha ht (vp_in_nI hk hn) hdg (by rw [nI_clamp (Nat.lt_trans hk hn)]; exact kk)
theorem nx_lald (hexec : p.tables.exec = Jvm.exec) (hb : c.code = cc) (hK : va_K D vwCl tys s) (hP : va_P D vwCl ws H) (q0 t0 : Nat) {cA : ClassId} {n : Nat} {f : Nat → Int64} (ha : ws[q0]? = some (a, .inl (cA, n, .inr (.inl f)))) (ht : tys[t0]? = some (cA, .long)) {k : Nat} (hk : k < n) (hn : n < 2 ^ 31) (hdg : decode cc pc = .ok (.laload, 1)) (kk : W p l e R s m args below meth c H locs cells slots Q (F0 m (pc + 1) ls (.long (f k) :: rest))) : W p l e R s m args below meth c H locs cells slots Q (F0 m pc ls (.int (nI k) :: .ref a :: rest)) := va_lald hexec hb hK hP q0 t0 ha ht (vp_in_nI hk hn) hdg (by rw [nI_clamp (Nat.lt_trans hk hn)]; exact kk)
theorem nx_iast (hexec : p.tables.exec = Jvm.exec) (hb : c.code = cc) (hK : va_K D vwCl tys s) (hP : va_P D vwCl ws H) (hD : va_D A ws) (hS : va_S A H0 H locs) (q0 t0 : Nat) {cA : ClassId} {n : Nat} {f : Nat → Int32} (ha : ws[q0]? = some (a, .inl (cA, n, .inl f))) (ht : tys[t0]? = some (cA, .int)) {k : Nat} {x : Int32} (hk : k < n) (hn : n < 2 ^ 31) (hdg : decode cc pc = .ok (.iastore, 1)) (kk : ∀ (ws1 : va_W) (H1 : Heap) (locs1 : List Loc), ws1[q0]? = some (a, .inl (cA, n, .inl (upd f k x))) → Up q0 ws ws1 → va_P D vwCl ws1 H1 → va_D A ws1 → va_S A H0 H1 locs1 → W p l e R s m args below meth c H1 locs1 cells slots Q (F0 m (pc + 1) ls rest)) : W p l e R s m args below meth c H locs cells slots Q (F0 m pc ls (.int x :: .int (nI k) :: .ref a :: rest)) := va_iast hexec hb hK hP hD hS q0 t0 ha ht (vp_in_nI hk hn) hdg (fun H1 locs1 hP1 hD1 hS1 => by
  rw [nI_clamp (Nat.lt_trans hk hn)] at hP1 hD1
  exact kk _ H1 locs1 (set_at ha) up_set hP1 hD1 hS1)
theorem nx_bast (hexec : p.tables.exec = Jvm.exec) (hb : c.code = cc) (hK : va_K D vwCl tys s) (hP : va_P D vwCl ws H) (hD : va_D A ws) (hS : va_S A H0 H locs) (q0 t0 : Nat) {cA : ClassId} {n : Nat} {f : Nat → Int32} (ha : ws[q0]? = some (a, .inl (cA, n, .inl f))) (ht : tys[t0]? = some (cA, .byte)) {k : Nat} {x : Int32} (hk : k < n) (hn : n < 2 ^ 31) (hdg : decode cc pc = .ok (.bastore, 1)) (kk : ∀ (ws1 : va_W) (H1 : Heap) (locs1 : List Loc), ws1[q0]? = some (a, .inl (cA, n, .inl (upd f k (x.toInt8.toInt32)))) → Up q0 ws ws1 → va_P D vwCl ws1 H1 → va_D A ws1 → va_S A H0 H1 locs1 → W p l e R s m args below meth c H1 locs1 cells slots Q (F0 m (pc + 1) ls rest)) : W p l e R s m args below meth c H locs cells slots Q (F0 m pc ls (.int x :: .int (nI k) :: .ref a :: rest)) := va_bast hexec hb hK hP hD hS q0 t0 ha ht (vp_in_nI hk hn) hdg (fun H1 locs1 hP1 hD1 hS1 => by
  rw [nI_clamp (Nat.lt_trans hk hn), vp_nar_byte] at hP1 hD1
  exact kk _ H1 locs1 (set_at ha) up_set hP1 hD1 hS1)
theorem nx_last (hexec : p.tables.exec = Jvm.exec) (hb : c.code = cc) (hK : va_K D vwCl tys s) (hP : va_P D vwCl ws H) (hD : va_D A ws) (hS : va_S A H0 H locs) (q0 t0 : Nat) {cA : ClassId} {n : Nat} {f : Nat → Int64} (ha : ws[q0]? = some (a, .inl (cA, n, .inr (.inl f)))) (ht : tys[t0]? = some (cA, .long)) {k : Nat} {x : Int64} (hk : k < n) (hn : n < 2 ^ 31) (hdg : decode cc pc = .ok (.lastore, 1)) (kk : ∀ (ws1 : va_W) (H1 : Heap) (locs1 : List Loc), ws1[q0]? = some (a, .inl (cA, n, .inr (.inl (vp_updL f k x)))) → Up q0 ws ws1 → va_P D vwCl ws1 H1 → va_D A ws1 → va_S A H0 H1 locs1 → W p l e R s m args below meth c H1 locs1 cells slots Q (F0 m (pc + 1) ls rest)) : W p l e R s m args below meth c H locs cells slots Q (F0 m pc ls (.long x :: .int (nI k) :: .ref a :: rest)) := va_last hexec hb hK hP hD hS q0 t0 ha ht (vp_in_nI hk hn) hdg (fun H1 locs1 hP1 hD1 hS1 => by
  rw [nI_clamp (Nat.lt_trans hk hn)] at hP1 hD1
  exact kk _ H1 locs1 (set_at ha) up_set hP1 hD1 hS1)
theorem nx_put (hexec : p.tables.exec = Jvm.exec) (hb : c.code = cc) {own ref C : String} {T : u_T} {N ci index : Nat} {Ts : List Cond} (hts : ∀ w ∈ Ts, w.before args s = true) (hin : ∀ w ∈ u_ws C T N, w ∈ Ts) (ty0 : Nat → FieldType) (hty : ∀ k, k < N → parseFieldDescriptor (T k).2.2.1 = some (ty0 k)) (hnm : ∀ a, a < N → ∀ b, b < N → a ≠ b → (T a).2.1 ≠ (T b).2.1) (hown : s.vm.findClass own = some m.cls) (hK : va_K D vwCl tys s) (hP : va_P D vwCl ws H) (hD : va_D A ws) (hS0 : va_S A H0 H locs) (q0 : Nat) {fs : List Value} (he : ws[q0]? = some (a, .inr (ci, fs))) (hc : vwCl[ci]? = some (C, T, N)) (k : Nat) (hk : k < N) (hlink : (Cond.fieldLink own index ref (T k).2.1 (T k).2.2.1).before args s = true) (hsame : ∀ x, s.fieldFound? (T k).1 (T k).2.1 (T k).2.2.1 = some x → s.fieldFound? ref (T k).2.1 (T k).2.2.1 = some x) (hfin : (T k).2.2.2 = false) {ty : FieldType} {v : Value} (hd : parseFieldDescriptor (T k).2.2.1 = some ty) (hn : narrow ty v = v) (hfit : fits ty v = true) (hl : k < fs.length) (hdg : decode cc pc = .ok (.putfield index, 3)) (kk : ∀ (ws1 : va_W) (H1 : Heap) (locs1 : List Loc), ws1[q0]? = some (a, .inr (ci, fs.set k v)) → Up q0 ws ws1 → va_P D vwCl ws1 H1 → va_D A ws1 → va_S A H0 H1 locs1 → W p l e R s m args below meth c H1 locs1 cells slots Q (F0 m (pc + 3) ls rest)) : W p l e R s m args below meth c H locs cells slots Q (F0 m pc ls (v :: .ref a :: rest)) := va_put hexec hb hts hin ty0 hty hnm hown hK hP hD hS0 q0 he hc k hk hlink hsame hfin hd hn hfit hl hdg (fun H1 locs1 hP1 hD1 hS1 => kk _ H1 locs1 (set_at he) up_set hP1 hD1 hS1)
theorem nx_putF (hexec : p.tables.exec = Jvm.exec) (hb : c.code = cc) {own ref C : String} {T : u_T} {N ci index : Nat} {Ts : List Cond} (hts : ∀ w ∈ Ts, w.before args s = true) (hin : ∀ w ∈ u_ws C T N, w ∈ Ts) (ty0 : Nat → FieldType) (hty : ∀ k, k < N → parseFieldDescriptor (T k).2.2.1 = some (ty0 k)) (hnm : ∀ a, a < N → ∀ b, b < N → a ≠ b → (T a).2.1 ≠ (T b).2.1) (hown : s.vm.findClass own = some m.cls) (hK : va_K D vwCl tys s) (hP : va_P D vwCl ws H) (hD : va_D A ws) (hS0 : va_S A H0 H locs) (q0 : Nat) {fs : List Value} (he : ws[q0]? = some (a, .inr (ci, fs))) (hc : vwCl[ci]? = some (C, T, N)) (k : Nat) (hk : k < N) (hlink : (Cond.fieldLink own index ref (T k).2.1 (T k).2.2.1).before args s = true) (hsame : ∀ x, s.fieldFound? (T k).1 (T k).2.1 (T k).2.2.1 = some x → s.fieldFound? ref (T k).2.1 (T k).2.2.1 = some x) (hfin : (T k).2.2.2 = true) (hin2 : meth.name = "<init>") (hdecl : (T k).1 = own) {ty : FieldType} {v : Value} (hd : parseFieldDescriptor (T k).2.2.1 = some ty) (hn : narrow ty v = v) (hfit : fits ty v = true) (hl : k < fs.length) (hdg : decode cc pc = .ok (.putfield index, 3)) (kk : ∀ (ws1 : va_W) (H1 : Heap) (locs1 : List Loc), ws1[q0]? = some (a, .inr (ci, fs.set k v)) → Up q0 ws ws1 → va_P D vwCl ws1 H1 → va_D A ws1 → va_S A H0 H1 locs1 → W p l e R s m args below meth c H1 locs1 cells slots Q (F0 m (pc + 3) ls rest)) : W p l e R s m args below meth c H locs cells slots Q (F0 m pc ls (v :: .ref a :: rest)) := va_putF hexec hb hts hin ty0 hty hnm hown hK hP hD hS0 q0 he hc k hk hlink hsame hfin hin2 hdecl hd hn hfit hl hdg (fun H1 locs1 hP1 hD1 hS1 => kk _ H1 locs1 (set_at he) up_set hP1 hD1 hS1)
end NX
end
section
/-- the array classes: bytes, ints, longs, objects -/
abbrev TY (cB cI cJ cO : ClassId) : List (ClassId × FieldType) := [(cB, .byte), (cI, .int), (cJ, .long), (cO, .object "java/lang/Object")]
/-- an array's first cells hold a list -/
def Hd (f : Nat → Int32) (L : List Int32) : Prop := ∀ i, i < L.length → f i = L.getD i 0
section NXM
variable {p : Program} {l : Launch} {e : Env} {R : Room} {s : State} {m : MethodId} {args : Array Value} {below : List Frame} {meth : Method} {c : Code} {H : Heap} {locs : List Loc} {cells slots : Nat} {Q : State → Prop}
variable {cc : ByteArray} {pc : Nat} {ls : Array Slot} {rest : List Value} {D : va_G} {A : Nat → Prop} {a : Nat} {tys : List (ClassId × FieldType)} {ws : va_W} {H0 : Heap}
theorem nx_up (g : Nat → Nat) (k v : Nat) : upd (fun j => nI (g j)) k (nI v) = fun j => nI (va_up g k v j) := by
  funext j
  by_cases h : j = k
  · simp [upd, va_up, h]
  · simp [upd, va_up, h]
theorem nx_iastN (hexec : p.tables.exec = Jvm.exec) (hb : c.code = cc) (hK : va_K D vwCl tys s) (hP : va_P D vwCl ws H) (hD : va_D A ws) (hS : va_S A H0 H locs) (q0 t0 : Nat) {cA : ClassId} {n : Nat} {g : Nat → Nat} (ha : ws[q0]? = some (a, .inl (cA, n, .inl (fun j => nI (g j))))) (ht : tys[t0]? = some (cA, .int)) {k : Nat} {v : Nat} (hk : k < n) (hn : n < 2 ^ 31) (hdg : decode cc pc = .ok (.iastore, 1)) (kk : ∀ (ws1 : va_W) (H1 : Heap) (locs1 : List Loc), ws1[q0]? = some (a, .inl (cA, n, .inl (fun j => nI (va_up g k v j)))) → Up q0 ws ws1 → va_P D vwCl ws1 H1 → va_D A ws1 → va_S A H0 H1 locs1 → W p l e R s m args below meth c H1 locs1 cells slots Q (F0 m (pc + 1) ls rest)) : W p l e R s m args below meth c H locs cells slots Q (F0 m pc ls (.int (nI v) :: .int (nI k) :: .ref a :: rest)) :=
  nx_iast hexec hb hK hP hD hS q0 t0 ha ht hk hn hdg (fun ws1 H1 locs1 h1 => by rw [nx_up] at h1; exact kk ws1 H1 locs1 h1)
theorem nx_ladd (hexec : p.tables.exec = Jvm.exec) (hb : c.code = cc) {x y : Nat} (hdg : decode cc pc = .ok (.ladd, 1)) (k : W p l e R s m args below meth c H locs cells slots Q (F0 m (pc + 1) ls (.long (lN (x + y)) :: rest))) : W p l e R s m args below meth c H locs cells slots Q (F0 m pc ls (.long (lN y) :: .long (lN x) :: rest)) := lv_ladd hexec hb hdg (by rw [lN_add]; exact k)
theorem nx_lmul (hexec : p.tables.exec = Jvm.exec) (hb : c.code = cc) {x y : Nat} (hdg : decode cc pc = .ok (.lmul, 1)) (k : W p l e R s m args below meth c H locs cells slots Q (F0 m (pc + 1) ls (.long (lN (x * y)) :: rest))) : W p l e R s m args below meth c H locs cells slots Q (F0 m pc ls (.long (lN y) :: .long (lN x) :: rest)) := lv_lmul hexec hb hdg (by rw [lN_mul]; exact k)
theorem nx_lsub (hexec : p.tables.exec = Jvm.exec) (hb : c.code = cc) {x y : Nat} (h : y ≤ x) (hdg : decode cc pc = .ok (.lsub, 1)) (k : W p l e R s m args below meth c H locs cells slots Q (F0 m (pc + 1) ls (.long (lN (x - y)) :: rest))) : W p l e R s m args below meth c H locs cells slots Q (F0 m pc ls (.long (lN y) :: .long (lN x) :: rest)) := lv_lsub hexec hb hdg (by rw [lN_sub h]; exact k)
theorem nx_lrem (hexec : p.tables.exec = Jvm.exec) (hb : c.code = cc) {x y : Nat} (h : x < 2 ^ 63 ∧ 0 < y ∧ y < 2 ^ 63) (hdg : decode cc pc = .ok (.lrem, 1)) (k : W p l e R s m args below meth c H locs cells slots Q (F0 m (pc + 1) ls (.long (lN (x % y)) :: rest))) : W p l e R s m args below meth c H locs cells slots Q (F0 m pc ls (.long (lN y) :: .long (lN x) :: rest)) := lv_lrem hexec hb hdg (fun q => by have h2 := (pk_lEQ (a := y) (b := 0) h.2.2 (by decide)).mp q; omega) (by rw [pk_lRem h.1 h.2.1 h.2.2]; exact k)
end NXM
end
section
theorem dX0_init_0 : decode cX0_init 0 = .ok (.aload_n 0, 1) := by decide +kernel
theorem dX0_init_1 : decode cX0_init 1 = .ok (.invokespecial 3, 3) := by decide +kernel
theorem dX0_init_4 : decode cX0_init 4 = .ok (.aload_n 0, 1) := by decide +kernel
theorem dX0_init_5 : decode cX0_init 5 = .ok (.bipush 94, 2) := by decide +kernel
theorem dX0_init_7 : decode cX0_init 7 = .ok (.newarray .long, 2) := by decide +kernel
theorem dX0_init_9 : decode cX0_init 9 = .ok (.putfield 9, 3) := by decide +kernel
theorem dX0_init_12 : decode cX0_init 12 = .ok (.aload_n 0, 1) := by decide +kernel
theorem dX0_init_13 : decode cX0_init 13 = .ok (.sipush 800, 3) := by decide +kernel
theorem dX0_init_16 : decode cX0_init 16 = .ok (.newarray .int, 2) := by decide +kernel
theorem dX0_init_18 : decode cX0_init 18 = .ok (.putfield 15, 3) := by decide +kernel
theorem dX0_init_21 : decode cX0_init 21 = .ok (.aload_n 0, 1) := by decide +kernel
theorem dX0_init_22 : decode cX0_init 22 = .ok (.bipush 64, 2) := by decide +kernel
theorem dX0_init_24 : decode cX0_init 24 = .ok (.newarray .int, 2) := by decide +kernel
theorem dX0_init_26 : decode cX0_init 26 = .ok (.putfield 19, 3) := by decide +kernel
theorem dX0_init_29 : decode cX0_init 29 = .ok (.aload_n 0, 1) := by decide +kernel
theorem dX0_init_30 : decode cX0_init 30 = .ok (.bipush 48, 2) := by decide +kernel
theorem dX0_init_32 : decode cX0_init 32 = .ok (.newarray .int, 2) := by decide +kernel
theorem dX0_init_34 : decode cX0_init 34 = .ok (.putfield 22, 3) := by decide +kernel
theorem dX0_init_37 : decode cX0_init 37 = .ok (.aload_n 0, 1) := by decide +kernel
theorem dX0_init_38 : decode cX0_init 38 = .ok (.iload_n 1, 1) := by decide +kernel
theorem dX0_init_39 : decode cX0_init 39 = .ok (.putfield 25, 3) := by decide +kernel
theorem dX0_init_42 : decode cX0_init 42 = .ok (.return_, 1) := by decide +kernel
theorem dX0_fillWith_0 : decode cX0_fillWith 0 = .ok (.iconst 0, 1) := by decide +kernel
theorem dX0_fillWith_1 : decode cX0_fillWith 1 = .ok (.istore 4, 2) := by decide +kernel
theorem dX0_fillWith_3 : decode cX0_fillWith 3 = .ok (.iload 4, 2) := by decide +kernel
theorem dX0_fillWith_5 : decode cX0_fillWith 5 = .ok (.bipush 94, 2) := by decide +kernel
theorem dX0_fillWith_7 : decode cX0_fillWith 7 = .ok (.if_icmp .ge 17, 3) := by decide +kernel
theorem dX0_fillWith_10 : decode cX0_fillWith 10 = .ok (.aload_n 0, 1) := by decide +kernel
theorem dX0_fillWith_11 : decode cX0_fillWith 11 = .ok (.getfield 9, 3) := by decide +kernel
theorem dX0_fillWith_14 : decode cX0_fillWith 14 = .ok (.iload 4, 2) := by decide +kernel
theorem dX0_fillWith_16 : decode cX0_fillWith 16 = .ok (.lconst 0, 1) := by decide +kernel
theorem dX0_fillWith_17 : decode cX0_fillWith 17 = .ok (.lastore, 1) := by decide +kernel
theorem dX0_fillWith_18 : decode cX0_fillWith 18 = .ok (.iinc 4 1, 3) := by decide +kernel
theorem dX0_fillWith_21 : decode cX0_fillWith 21 = .ok (.goto (-18), 3) := by decide +kernel
theorem dX0_fillWith_24 : decode cX0_fillWith 24 = .ok (.iconst 0, 1) := by decide +kernel
theorem dX0_fillWith_25 : decode cX0_fillWith 25 = .ok (.istore 4, 2) := by decide +kernel
theorem dX0_fillWith_27 : decode cX0_fillWith 27 = .ok (.iload 4, 2) := by decide +kernel
theorem dX0_fillWith_29 : decode cX0_fillWith 29 = .ok (.iload_n 2, 1) := by decide +kernel
theorem dX0_fillWith_30 : decode cX0_fillWith 30 = .ok (.if_icmp .ge 33, 3) := by decide +kernel
theorem dX0_fillWith_33 : decode cX0_fillWith 33 = .ok (.aload_n 0, 1) := by decide +kernel
theorem dX0_fillWith_34 : decode cX0_fillWith 34 = .ok (.getfield 9, 3) := by decide +kernel
theorem dX0_fillWith_37 : decode cX0_fillWith 37 = .ok (.aload_n 1, 1) := by decide +kernel
theorem dX0_fillWith_38 : decode cX0_fillWith 38 = .ok (.iload 4, 2) := by decide +kernel
theorem dX0_fillWith_40 : decode cX0_fillWith 40 = .ok (.iaload, 1) := by decide +kernel
theorem dX0_fillWith_41 : decode cX0_fillWith 41 = .ok (.bipush 6, 2) := by decide +kernel
theorem dX0_fillWith_43 : decode cX0_fillWith 43 = .ok (.ishr, 1) := by decide +kernel
theorem dX0_fillWith_44 : decode cX0_fillWith 44 = .ok (.dup2, 1) := by decide +kernel
theorem dX0_fillWith_45 : decode cX0_fillWith 45 = .ok (.laload, 1) := by decide +kernel
theorem dX0_fillWith_46 : decode cX0_fillWith 46 = .ok (.lconst 1, 1) := by decide +kernel
theorem dX0_fillWith_47 : decode cX0_fillWith 47 = .ok (.aload_n 1, 1) := by decide +kernel
theorem dX0_fillWith_48 : decode cX0_fillWith 48 = .ok (.iload 4, 2) := by decide +kernel
theorem dX0_fillWith_50 : decode cX0_fillWith 50 = .ok (.iaload, 1) := by decide +kernel
theorem dX0_fillWith_51 : decode cX0_fillWith 51 = .ok (.bipush 63, 2) := by decide +kernel
theorem dX0_fillWith_53 : decode cX0_fillWith 53 = .ok (.iand, 1) := by decide +kernel
theorem dX0_fillWith_54 : decode cX0_fillWith 54 = .ok (.lshl, 1) := by decide +kernel
theorem dX0_fillWith_55 : decode cX0_fillWith 55 = .ok (.lor, 1) := by decide +kernel
theorem dX0_fillWith_56 : decode cX0_fillWith 56 = .ok (.lastore, 1) := by decide +kernel
theorem dX0_fillWith_57 : decode cX0_fillWith 57 = .ok (.iinc 4 1, 3) := by decide +kernel
theorem dX0_fillWith_60 : decode cX0_fillWith 60 = .ok (.goto (-33), 3) := by decide +kernel
theorem dX0_fillWith_63 : decode cX0_fillWith 63 = .ok (.aload_n 0, 1) := by decide +kernel
theorem dX0_fillWith_64 : decode cX0_fillWith 64 = .ok (.iconst 0, 1) := by decide +kernel
theorem dX0_fillWith_65 : decode cX0_fillWith 65 = .ok (.putfield 29, 3) := by decide +kernel
theorem dX0_fillWith_68 : decode cX0_fillWith 68 = .ok (.iconst 0, 1) := by decide +kernel
theorem dX0_fillWith_69 : decode cX0_fillWith 69 = .ok (.istore 4, 2) := by decide +kernel
theorem dX0_fillWith_71 : decode cX0_fillWith 71 = .ok (.iload 4, 2) := by decide +kernel
theorem dX0_fillWith_73 : decode cX0_fillWith 73 = .ok (.iload_n 3, 1) := by decide +kernel
theorem dX0_fillWith_74 : decode cX0_fillWith 74 = .ok (.if_icmp .ge 63, 3) := by decide +kernel
theorem dX0_fillWith_77 : decode cX0_fillWith 77 = .ok (.aload_n 0, 1) := by decide +kernel
theorem dX0_fillWith_78 : decode cX0_fillWith 78 = .ok (.getfield 9, 3) := by decide +kernel
theorem dX0_fillWith_81 : decode cX0_fillWith 81 = .ok (.iload 4, 2) := by decide +kernel
theorem dX0_fillWith_83 : decode cX0_fillWith 83 = .ok (.bipush 6, 2) := by decide +kernel
theorem dX0_fillWith_85 : decode cX0_fillWith 85 = .ok (.ishr, 1) := by decide +kernel
theorem dX0_fillWith_86 : decode cX0_fillWith 86 = .ok (.laload, 1) := by decide +kernel
theorem dX0_fillWith_87 : decode cX0_fillWith 87 = .ok (.iload 4, 2) := by decide +kernel
theorem dX0_fillWith_89 : decode cX0_fillWith 89 = .ok (.bipush 63, 2) := by decide +kernel
theorem dX0_fillWith_91 : decode cX0_fillWith 91 = .ok (.iand, 1) := by decide +kernel
theorem dX0_fillWith_92 : decode cX0_fillWith 92 = .ok (.lushr, 1) := by decide +kernel
theorem dX0_fillWith_93 : decode cX0_fillWith 93 = .ok (.lconst 1, 1) := by decide +kernel
theorem dX0_fillWith_94 : decode cX0_fillWith 94 = .ok (.land, 1) := by decide +kernel
theorem dX0_fillWith_95 : decode cX0_fillWith 95 = .ok (.lconst 0, 1) := by decide +kernel
theorem dX0_fillWith_96 : decode cX0_fillWith 96 = .ok (.lcmp, 1) := by decide +kernel
theorem dX0_fillWith_97 : decode cX0_fillWith 97 = .ok (.ifCond .eq 34, 3) := by decide +kernel
theorem dX0_fillWith_100 : decode cX0_fillWith 100 = .ok (.aload_n 0, 1) := by decide +kernel
theorem dX0_fillWith_101 : decode cX0_fillWith 101 = .ok (.getfield 29, 3) := by decide +kernel
theorem dX0_fillWith_104 : decode cX0_fillWith 104 = .ok (.sipush 800, 3) := by decide +kernel
theorem dX0_fillWith_107 : decode cX0_fillWith 107 = .ok (.if_icmp .ge 24, 3) := by decide +kernel
theorem dX0_fillWith_110 : decode cX0_fillWith 110 = .ok (.aload_n 0, 1) := by decide +kernel
theorem dX0_fillWith_111 : decode cX0_fillWith 111 = .ok (.getfield 15, 3) := by decide +kernel
theorem dX0_fillWith_114 : decode cX0_fillWith 114 = .ok (.aload_n 0, 1) := by decide +kernel
theorem dX0_fillWith_115 : decode cX0_fillWith 115 = .ok (.getfield 29, 3) := by decide +kernel
theorem dX0_fillWith_118 : decode cX0_fillWith 118 = .ok (.iload 4, 2) := by decide +kernel
theorem dX0_fillWith_120 : decode cX0_fillWith 120 = .ok (.iastore, 1) := by decide +kernel
theorem dX0_fillWith_121 : decode cX0_fillWith 121 = .ok (.aload_n 0, 1) := by decide +kernel
theorem dX0_fillWith_122 : decode cX0_fillWith 122 = .ok (.dup, 1) := by decide +kernel
theorem dX0_fillWith_123 : decode cX0_fillWith 123 = .ok (.getfield 29, 3) := by decide +kernel
theorem dX0_fillWith_126 : decode cX0_fillWith 126 = .ok (.iconst 1, 1) := by decide +kernel
theorem dX0_fillWith_127 : decode cX0_fillWith 127 = .ok (.iadd, 1) := by decide +kernel
theorem dX0_fillWith_128 : decode cX0_fillWith 128 = .ok (.putfield 29, 3) := by decide +kernel
theorem dX0_fillWith_131 : decode cX0_fillWith 131 = .ok (.iinc 4 1, 3) := by decide +kernel
theorem dX0_fillWith_134 : decode cX0_fillWith 134 = .ok (.goto (-63), 3) := by decide +kernel
theorem dX0_fillWith_137 : decode cX0_fillWith 137 = .ok (.return_, 1) := by decide +kernel
theorem dX0_countShared_0 : decode cX0_countShared 0 = .ok (.iconst 0, 1) := by decide +kernel
theorem dX0_countShared_1 : decode cX0_countShared 1 = .ok (.istore_n 2, 1) := by decide +kernel
theorem dX0_countShared_2 : decode cX0_countShared 2 = .ok (.iconst 0, 1) := by decide +kernel
theorem dX0_countShared_3 : decode cX0_countShared 3 = .ok (.istore_n 3, 1) := by decide +kernel
theorem dX0_countShared_4 : decode cX0_countShared 4 = .ok (.iload_n 3, 1) := by decide +kernel
theorem dX0_countShared_5 : decode cX0_countShared 5 = .ok (.bipush 94, 2) := by decide +kernel
theorem dX0_countShared_7 : decode cX0_countShared 7 = .ok (.if_icmp .ge 28, 3) := by decide +kernel
theorem dX0_countShared_10 : decode cX0_countShared 10 = .ok (.iload_n 2, 1) := by decide +kernel
theorem dX0_countShared_11 : decode cX0_countShared 11 = .ok (.aload_n 0, 1) := by decide +kernel
theorem dX0_countShared_12 : decode cX0_countShared 12 = .ok (.getfield 9, 3) := by decide +kernel
theorem dX0_countShared_15 : decode cX0_countShared 15 = .ok (.iload_n 3, 1) := by decide +kernel
theorem dX0_countShared_16 : decode cX0_countShared 16 = .ok (.laload, 1) := by decide +kernel
theorem dX0_countShared_17 : decode cX0_countShared 17 = .ok (.aload_n 1, 1) := by decide +kernel
theorem dX0_countShared_18 : decode cX0_countShared 18 = .ok (.getfield 9, 3) := by decide +kernel
theorem dX0_countShared_21 : decode cX0_countShared 21 = .ok (.iload_n 3, 1) := by decide +kernel
theorem dX0_countShared_22 : decode cX0_countShared 22 = .ok (.laload, 1) := by decide +kernel
theorem dX0_countShared_23 : decode cX0_countShared 23 = .ok (.land, 1) := by decide +kernel
theorem dX0_countShared_24 : decode cX0_countShared 24 = .ok (.invokestatic 32, 3) := by decide +kernel
theorem dX0_countShared_27 : decode cX0_countShared 27 = .ok (.iadd, 1) := by decide +kernel
theorem dX0_countShared_28 : decode cX0_countShared 28 = .ok (.istore_n 2, 1) := by decide +kernel
theorem dX0_countShared_29 : decode cX0_countShared 29 = .ok (.iinc 3 1, 3) := by decide +kernel
theorem dX0_countShared_32 : decode cX0_countShared 32 = .ok (.goto (-28), 3) := by decide +kernel
theorem dX0_countShared_35 : decode cX0_countShared 35 = .ok (.iload_n 2, 1) := by decide +kernel
theorem dX0_countShared_36 : decode cX0_countShared 36 = .ok (.ireturn, 1) := by decide +kernel
theorem dX1_init_0 : decode cX1_init 0 = .ok (.aload_n 0, 1) := by decide +kernel
theorem dX1_init_1 : decode cX1_init 1 = .ok (.invokespecial 3, 3) := by decide +kernel
theorem dX1_init_4 : decode cX1_init 4 = .ok (.aload_n 0, 1) := by decide +kernel
theorem dX1_init_5 : decode cX1_init 5 = .ok (.new 9, 3) := by decide +kernel
theorem dX1_init_8 : decode cX1_init 8 = .ok (.dup, 1) := by decide +kernel
theorem dX1_init_9 : decode cX1_init 9 = .ok (.invokespecial 11, 3) := by decide +kernel
theorem dX1_init_12 : decode cX1_init 12 = .ok (.putfield 12, 3) := by decide +kernel
theorem dX1_init_15 : decode cX1_init 15 = .ok (.aload_n 0, 1) := by decide +kernel
theorem dX1_init_16 : decode cX1_init 16 = .ok (.new 9, 3) := by decide +kernel
theorem dX1_init_19 : decode cX1_init 19 = .ok (.dup, 1) := by decide +kernel
theorem dX1_init_20 : decode cX1_init 20 = .ok (.invokespecial 11, 3) := by decide +kernel
theorem dX1_init_23 : decode cX1_init 23 = .ok (.putfield 18, 3) := by decide +kernel
theorem dX1_init_26 : decode cX1_init 26 = .ok (.aload_n 0, 1) := by decide +kernel
theorem dX1_init_27 : decode cX1_init 27 = .ok (.bipush 48, 2) := by decide +kernel
theorem dX1_init_29 : decode cX1_init 29 = .ok (.newarray .int, 2) := by decide +kernel
theorem dX1_init_31 : decode cX1_init 31 = .ok (.putfield 21, 3) := by decide +kernel
theorem dX1_init_34 : decode cX1_init 34 = .ok (.aload_n 0, 1) := by decide +kernel
theorem dX1_init_35 : decode cX1_init 35 = .ok (.bipush 48, 2) := by decide +kernel
theorem dX1_init_37 : decode cX1_init 37 = .ok (.newarray .int, 2) := by decide +kernel
theorem dX1_init_39 : decode cX1_init 39 = .ok (.putfield 25, 3) := by decide +kernel
theorem dX1_init_42 : decode cX1_init 42 = .ok (.aload_n 0, 1) := by decide +kernel
theorem dX1_init_43 : decode cX1_init 43 = .ok (.bipush 48, 2) := by decide +kernel
theorem dX1_init_45 : decode cX1_init 45 = .ok (.newarray .int, 2) := by decide +kernel
theorem dX1_init_47 : decode cX1_init 47 = .ok (.putfield 28, 3) := by decide +kernel
theorem dX1_init_50 : decode cX1_init 50 = .ok (.aload_n 0, 1) := by decide +kernel
theorem dX1_init_51 : decode cX1_init 51 = .ok (.bipush 48, 2) := by decide +kernel
theorem dX1_init_53 : decode cX1_init 53 = .ok (.newarray .int, 2) := by decide +kernel
theorem dX1_init_55 : decode cX1_init 55 = .ok (.putfield 31, 3) := by decide +kernel
theorem dX1_init_58 : decode cX1_init 58 = .ok (.return_, 1) := by decide +kernel
theorem dX1_learn_0 : decode cX1_learn 0 = .ok (.aload_n 0, 1) := by decide +kernel
theorem dX1_learn_1 : decode cX1_learn 1 = .ok (.getfield 34, 3) := by decide +kernel
theorem dX1_learn_4 : decode cX1_learn 4 = .ok (.ifCond .eq 4, 3) := by decide +kernel
theorem dX1_learn_7 : decode cX1_learn 7 = .ok (.return_, 1) := by decide +kernel
theorem dX1_learn_8 : decode cX1_learn 8 = .ok (.aload_n 0, 1) := by decide +kernel
theorem dX1_learn_9 : decode cX1_learn 9 = .ok (.aload_n 1, 1) := by decide +kernel
theorem dX1_learn_10 : decode cX1_learn 10 = .ok (.invokevirtual 38, 3) := by decide +kernel
theorem dX1_learn_13 : decode cX1_learn 13 = .ok (.iconst 0, 1) := by decide +kernel
theorem dX1_learn_14 : decode cX1_learn 14 = .ok (.istore_n 3, 1) := by decide +kernel
theorem dX1_learn_15 : decode cX1_learn 15 = .ok (.iload_n 3, 1) := by decide +kernel
theorem dX1_learn_16 : decode cX1_learn 16 = .ok (.aload_n 0, 1) := by decide +kernel
theorem dX1_learn_17 : decode cX1_learn 17 = .ok (.getfield 42, 3) := by decide +kernel
theorem dX1_learn_20 : decode cX1_learn 20 = .ok (.if_icmp .ge 54, 3) := by decide +kernel
theorem dX1_learn_23 : decode cX1_learn 23 = .ok (.iload_n 3, 1) := by decide +kernel
theorem dX1_learn_24 : decode cX1_learn 24 = .ok (.iconst 1, 1) := by decide +kernel
theorem dX1_learn_25 : decode cX1_learn 25 = .ok (.iadd, 1) := by decide +kernel
theorem dX1_learn_26 : decode cX1_learn 26 = .ok (.istore 4, 2) := by decide +kernel
theorem dX1_learn_28 : decode cX1_learn 28 = .ok (.iload 4, 2) := by decide +kernel
theorem dX1_learn_30 : decode cX1_learn 30 = .ok (.aload_n 0, 1) := by decide +kernel
theorem dX1_learn_31 : decode cX1_learn 31 = .ok (.getfield 42, 3) := by decide +kernel
theorem dX1_learn_34 : decode cX1_learn 34 = .ok (.if_icmp .ge 34, 3) := by decide +kernel
theorem dX1_learn_37 : decode cX1_learn 37 = .ok (.aload_n 0, 1) := by decide +kernel
theorem dX1_learn_38 : decode cX1_learn 38 = .ok (.iload_n 3, 1) := by decide +kernel
theorem dX1_learn_39 : decode cX1_learn 39 = .ok (.aload_n 1, 1) := by decide +kernel
theorem dX1_learn_40 : decode cX1_learn 40 = .ok (.iload_n 3, 1) := by decide +kernel
theorem dX1_learn_41 : decode cX1_learn 41 = .ok (.invokevirtual 46, 3) := by decide +kernel
theorem dX1_learn_44 : decode cX1_learn 44 = .ok (.checkcast 52, 3) := by decide +kernel
theorem dX1_learn_47 : decode cX1_learn 47 = .ok (.iload 4, 2) := by decide +kernel
theorem dX1_learn_49 : decode cX1_learn 49 = .ok (.aload_n 1, 1) := by decide +kernel
theorem dX1_learn_50 : decode cX1_learn 50 = .ok (.iload 4, 2) := by decide +kernel
theorem dX1_learn_52 : decode cX1_learn 52 = .ok (.invokevirtual 46, 3) := by decide +kernel
theorem dX1_learn_55 : decode cX1_learn 55 = .ok (.checkcast 52, 3) := by decide +kernel
theorem dX1_learn_58 : decode cX1_learn 58 = .ok (.aload_n 2, 1) := by decide +kernel
theorem dX1_learn_59 : decode cX1_learn 59 = .ok (.invokevirtual 54, 3) := by decide +kernel
theorem dX1_learn_62 : decode cX1_learn 62 = .ok (.iinc 4 1, 3) := by decide +kernel
theorem dX1_learn_65 : decode cX1_learn 65 = .ok (.goto (-37), 3) := by decide +kernel
theorem dX1_learn_68 : decode cX1_learn 68 = .ok (.iinc 3 1, 3) := by decide +kernel
theorem dX1_learn_71 : decode cX1_learn 71 = .ok (.goto (-56), 3) := by decide +kernel
theorem dX1_learn_74 : decode cX1_learn 74 = .ok (.iconst 0, 1) := by decide +kernel
theorem dX1_learn_75 : decode cX1_learn 75 = .ok (.istore_n 3, 1) := by decide +kernel
theorem dX1_learn_76 : decode cX1_learn 76 = .ok (.iload_n 3, 1) := by decide +kernel
theorem dX1_learn_77 : decode cX1_learn 77 = .ok (.aload_n 0, 1) := by decide +kernel
theorem dX1_learn_78 : decode cX1_learn 78 = .ok (.getfield 42, 3) := by decide +kernel
theorem dX1_learn_81 : decode cX1_learn 81 = .ok (.if_icmp .ge 24, 3) := by decide +kernel
theorem dX1_learn_84 : decode cX1_learn 84 = .ok (.aload_n 0, 1) := by decide +kernel
theorem dX1_learn_85 : decode cX1_learn 85 = .ok (.getfield 31, 3) := by decide +kernel
theorem dX1_learn_88 : decode cX1_learn 88 = .ok (.aload_n 0, 1) := by decide +kernel
theorem dX1_learn_89 : decode cX1_learn 89 = .ok (.getfield 28, 3) := by decide +kernel
theorem dX1_learn_92 : decode cX1_learn 92 = .ok (.iload_n 3, 1) := by decide +kernel
theorem dX1_learn_93 : decode cX1_learn 93 = .ok (.iaload, 1) := by decide +kernel
theorem dX1_learn_94 : decode cX1_learn 94 = .ok (.dup2, 1) := by decide +kernel
theorem dX1_learn_95 : decode cX1_learn 95 = .ok (.iaload, 1) := by decide +kernel
theorem dX1_learn_96 : decode cX1_learn 96 = .ok (.iconst 1, 1) := by decide +kernel
theorem dX1_learn_97 : decode cX1_learn 97 = .ok (.iadd, 1) := by decide +kernel
theorem dX1_learn_98 : decode cX1_learn 98 = .ok (.iastore, 1) := by decide +kernel
theorem dX1_learn_99 : decode cX1_learn 99 = .ok (.iinc 3 1, 3) := by decide +kernel
theorem dX1_learn_102 : decode cX1_learn 102 = .ok (.goto (-26), 3) := by decide +kernel
theorem dX1_learn_105 : decode cX1_learn 105 = .ok (.aload_n 0, 1) := by decide +kernel
theorem dX1_learn_106 : decode cX1_learn 106 = .ok (.iconst 1, 1) := by decide +kernel
theorem dX1_learn_107 : decode cX1_learn 107 = .ok (.putfield 34, 3) := by decide +kernel
theorem dX1_learn_110 : decode cX1_learn 110 = .ok (.return_, 1) := by decide +kernel
theorem dX1_begin_0 : decode cX1_begin 0 = .ok (.aload_n 0, 1) := by decide +kernel
theorem dX1_begin_1 : decode cX1_begin 1 = .ok (.aload_n 1, 1) := by decide +kernel
theorem dX1_begin_2 : decode cX1_begin 2 = .ok (.invokevirtual 58, 3) := by decide +kernel
theorem dX1_begin_5 : decode cX1_begin 5 = .ok (.bipush 48, 2) := by decide +kernel
theorem dX1_begin_7 : decode cX1_begin 7 = .ok (.invokestatic 62, 3) := by decide +kernel
theorem dX1_begin_10 : decode cX1_begin 10 = .ok (.putfield 42, 3) := by decide +kernel
theorem dX1_begin_13 : decode cX1_begin 13 = .ok (.aload_n 0, 1) := by decide +kernel
theorem dX1_begin_14 : decode cX1_begin 14 = .ok (.getfield 12, 3) := by decide +kernel
theorem dX1_begin_17 : decode cX1_begin 17 = .ok (.iconst 0, 1) := by decide +kernel
theorem dX1_begin_18 : decode cX1_begin 18 = .ok (.putfield 68, 3) := by decide +kernel
theorem dX1_begin_21 : decode cX1_begin 21 = .ok (.aload_n 0, 1) := by decide +kernel
theorem dX1_begin_22 : decode cX1_begin 22 = .ok (.getfield 18, 3) := by decide +kernel
theorem dX1_begin_25 : decode cX1_begin 25 = .ok (.iconst 0, 1) := by decide +kernel
theorem dX1_begin_26 : decode cX1_begin 26 = .ok (.putfield 68, 3) := by decide +kernel
theorem dX1_begin_29 : decode cX1_begin 29 = .ok (.iconst 0, 1) := by decide +kernel
theorem dX1_begin_30 : decode cX1_begin 30 = .ok (.istore_n 2, 1) := by decide +kernel
theorem dX1_begin_31 : decode cX1_begin 31 = .ok (.iload_n 2, 1) := by decide +kernel
theorem dX1_begin_32 : decode cX1_begin 32 = .ok (.aload_n 0, 1) := by decide +kernel
theorem dX1_begin_33 : decode cX1_begin 33 = .ok (.getfield 42, 3) := by decide +kernel
theorem dX1_begin_36 : decode cX1_begin 36 = .ok (.if_icmp .ge 47, 3) := by decide +kernel
theorem dX1_begin_39 : decode cX1_begin 39 = .ok (.aload_n 0, 1) := by decide +kernel
theorem dX1_begin_40 : decode cX1_begin 40 = .ok (.getfield 21, 3) := by decide +kernel
theorem dX1_begin_43 : decode cX1_begin 43 = .ok (.iload_n 2, 1) := by decide +kernel
theorem dX1_begin_44 : decode cX1_begin 44 = .ok (.aload_n 1, 1) := by decide +kernel
theorem dX1_begin_45 : decode cX1_begin 45 = .ok (.iload_n 2, 1) := by decide +kernel
theorem dX1_begin_46 : decode cX1_begin 46 = .ok (.invokevirtual 46, 3) := by decide +kernel
theorem dX1_begin_49 : decode cX1_begin 49 = .ok (.checkcast 52, 3) := by decide +kernel
theorem dX1_begin_52 : decode cX1_begin 52 = .ok (.getfield 70, 3) := by decide +kernel
theorem dX1_begin_55 : decode cX1_begin 55 = .ok (.iastore, 1) := by decide +kernel
theorem dX1_begin_56 : decode cX1_begin 56 = .ok (.aload_n 0, 1) := by decide +kernel
theorem dX1_begin_57 : decode cX1_begin 57 = .ok (.getfield 25, 3) := by decide +kernel
theorem dX1_begin_60 : decode cX1_begin 60 = .ok (.iload_n 2, 1) := by decide +kernel
theorem dX1_begin_61 : decode cX1_begin 61 = .ok (.iconst 0, 1) := by decide +kernel
theorem dX1_begin_62 : decode cX1_begin 62 = .ok (.iastore, 1) := by decide +kernel
theorem dX1_begin_63 : decode cX1_begin 63 = .ok (.aload_n 0, 1) := by decide +kernel
theorem dX1_begin_64 : decode cX1_begin 64 = .ok (.getfield 28, 3) := by decide +kernel
theorem dX1_begin_67 : decode cX1_begin 67 = .ok (.iload_n 2, 1) := by decide +kernel
theorem dX1_begin_68 : decode cX1_begin 68 = .ok (.iload_n 2, 1) := by decide +kernel
theorem dX1_begin_69 : decode cX1_begin 69 = .ok (.iastore, 1) := by decide +kernel
theorem dX1_begin_70 : decode cX1_begin 70 = .ok (.aload_n 0, 1) := by decide +kernel
theorem dX1_begin_71 : decode cX1_begin 71 = .ok (.getfield 31, 3) := by decide +kernel
theorem dX1_begin_74 : decode cX1_begin 74 = .ok (.iload_n 2, 1) := by decide +kernel
theorem dX1_begin_75 : decode cX1_begin 75 = .ok (.iconst 0, 1) := by decide +kernel
theorem dX1_begin_76 : decode cX1_begin 76 = .ok (.iastore, 1) := by decide +kernel
theorem dX1_begin_77 : decode cX1_begin 77 = .ok (.iinc 2 1, 3) := by decide +kernel
theorem dX1_begin_80 : decode cX1_begin 80 = .ok (.goto (-49), 3) := by decide +kernel
theorem dX1_begin_83 : decode cX1_begin 83 = .ok (.return_, 1) := by decide +kernel
theorem dX1_compare_0 : decode cX1_compare 0 = .ok (.aload 5, 2) := by decide +kernel
theorem dX1_compare_2 : decode cX1_compare 2 = .ok (.aload_n 2, 1) := by decide +kernel
theorem dX1_compare_3 : decode cX1_compare 3 = .ok (.aload 4, 2) := by decide +kernel
theorem dX1_compare_5 : decode cX1_compare 5 = .ok (.invokevirtual 72, 3) := by decide +kernel
theorem dX1_compare_8 : decode cX1_compare 8 = .ok (.iconst (-1), 1) := by decide +kernel
theorem dX1_compare_9 : decode cX1_compare 9 = .ok (.if_icmp .ne 4, 3) := by decide +kernel
theorem dX1_compare_12 : decode cX1_compare 12 = .ok (.return_, 1) := by decide +kernel
theorem dX1_compare_13 : decode cX1_compare 13 = .ok (.aload_n 0, 1) := by decide +kernel
theorem dX1_compare_14 : decode cX1_compare 14 = .ok (.getfield 12, 3) := by decide +kernel
theorem dX1_compare_17 : decode cX1_compare 17 = .ok (.aload_n 2, 1) := by decide +kernel
theorem dX1_compare_18 : decode cX1_compare 18 = .ok (.getfield 70, 3) := by decide +kernel
theorem dX1_compare_21 : decode cX1_compare 21 = .ok (.aload 4, 2) := by decide +kernel
theorem dX1_compare_23 : decode cX1_compare 23 = .ok (.getfield 70, 3) := by decide +kernel
theorem dX1_compare_26 : decode cX1_compare 26 = .ok (.invokevirtual 78, 3) := by decide +kernel
theorem dX1_compare_29 : decode cX1_compare 29 = .ok (.aload 5, 2) := by decide +kernel
theorem dX1_compare_31 : decode cX1_compare 31 = .ok (.aload_n 2, 1) := by decide +kernel
theorem dX1_compare_32 : decode cX1_compare 32 = .ok (.aload 4, 2) := by decide +kernel
theorem dX1_compare_34 : decode cX1_compare 34 = .ok (.invokevirtual 82, 3) := by decide +kernel
theorem dX1_compare_37 : decode cX1_compare 37 = .ok (.ifCond .eq 55, 3) := by decide +kernel
theorem dX1_compare_40 : decode cX1_compare 40 = .ok (.aload_n 0, 1) := by decide +kernel
theorem dX1_compare_41 : decode cX1_compare 41 = .ok (.getfield 18, 3) := by decide +kernel
theorem dX1_compare_44 : decode cX1_compare 44 = .ok (.aload_n 2, 1) := by decide +kernel
theorem dX1_compare_45 : decode cX1_compare 45 = .ok (.getfield 70, 3) := by decide +kernel
theorem dX1_compare_48 : decode cX1_compare 48 = .ok (.aload 4, 2) := by decide +kernel
theorem dX1_compare_50 : decode cX1_compare 50 = .ok (.getfield 70, 3) := by decide +kernel
theorem dX1_compare_53 : decode cX1_compare 53 = .ok (.invokevirtual 78, 3) := by decide +kernel
theorem dX1_compare_56 : decode cX1_compare 56 = .ok (.aload_n 0, 1) := by decide +kernel
theorem dX1_compare_57 : decode cX1_compare 57 = .ok (.getfield 25, 3) := by decide +kernel
theorem dX1_compare_60 : decode cX1_compare 60 = .ok (.iload_n 1, 1) := by decide +kernel
theorem dX1_compare_61 : decode cX1_compare 61 = .ok (.dup2, 1) := by decide +kernel
theorem dX1_compare_62 : decode cX1_compare 62 = .ok (.iaload, 1) := by decide +kernel
theorem dX1_compare_63 : decode cX1_compare 63 = .ok (.iconst 1, 1) := by decide +kernel
theorem dX1_compare_64 : decode cX1_compare 64 = .ok (.iadd, 1) := by decide +kernel
theorem dX1_compare_65 : decode cX1_compare 65 = .ok (.iastore, 1) := by decide +kernel
theorem dX1_compare_66 : decode cX1_compare 66 = .ok (.aload_n 0, 1) := by decide +kernel
theorem dX1_compare_67 : decode cX1_compare 67 = .ok (.getfield 25, 3) := by decide +kernel
theorem dX1_compare_70 : decode cX1_compare 70 = .ok (.iload_n 3, 1) := by decide +kernel
theorem dX1_compare_71 : decode cX1_compare 71 = .ok (.dup2, 1) := by decide +kernel
theorem dX1_compare_72 : decode cX1_compare 72 = .ok (.iaload, 1) := by decide +kernel
theorem dX1_compare_73 : decode cX1_compare 73 = .ok (.iconst 1, 1) := by decide +kernel
theorem dX1_compare_74 : decode cX1_compare 74 = .ok (.iadd, 1) := by decide +kernel
theorem dX1_compare_75 : decode cX1_compare 75 = .ok (.iastore, 1) := by decide +kernel
theorem dX1_compare_76 : decode cX1_compare 76 = .ok (.aload_n 0, 1) := by decide +kernel
theorem dX1_compare_77 : decode cX1_compare 77 = .ok (.aload_n 0, 1) := by decide +kernel
theorem dX1_compare_78 : decode cX1_compare 78 = .ok (.getfield 28, 3) := by decide +kernel
theorem dX1_compare_81 : decode cX1_compare 81 = .ok (.iload_n 1, 1) := by decide +kernel
theorem dX1_compare_82 : decode cX1_compare 82 = .ok (.iaload, 1) := by decide +kernel
theorem dX1_compare_83 : decode cX1_compare 83 = .ok (.aload_n 0, 1) := by decide +kernel
theorem dX1_compare_84 : decode cX1_compare 84 = .ok (.getfield 28, 3) := by decide +kernel
theorem dX1_compare_87 : decode cX1_compare 87 = .ok (.iload_n 3, 1) := by decide +kernel
theorem dX1_compare_88 : decode cX1_compare 88 = .ok (.iaload, 1) := by decide +kernel
theorem dX1_compare_89 : decode cX1_compare 89 = .ok (.invokevirtual 86, 3) := by decide +kernel
theorem dX1_compare_92 : decode cX1_compare 92 = .ok (.return_, 1) := by decide +kernel
theorem dX1_join_0 : decode cX1_join 0 = .ok (.iload_n 1, 1) := by decide +kernel
theorem dX1_join_1 : decode cX1_join 1 = .ok (.iload_n 2, 1) := by decide +kernel
theorem dX1_join_2 : decode cX1_join 2 = .ok (.invokestatic 62, 3) := by decide +kernel
theorem dX1_join_5 : decode cX1_join 5 = .ok (.istore_n 3, 1) := by decide +kernel
theorem dX1_join_6 : decode cX1_join 6 = .ok (.iload_n 1, 1) := by decide +kernel
theorem dX1_join_7 : decode cX1_join 7 = .ok (.iload_n 2, 1) := by decide +kernel
theorem dX1_join_8 : decode cX1_join 8 = .ok (.invokestatic 89, 3) := by decide +kernel
theorem dX1_join_11 : decode cX1_join 11 = .ok (.istore 4, 2) := by decide +kernel
theorem dX1_join_13 : decode cX1_join 13 = .ok (.iconst 0, 1) := by decide +kernel
theorem dX1_join_14 : decode cX1_join 14 = .ok (.istore 5, 2) := by decide +kernel
theorem dX1_join_16 : decode cX1_join 16 = .ok (.iload 5, 2) := by decide +kernel
theorem dX1_join_18 : decode cX1_join 18 = .ok (.aload_n 0, 1) := by decide +kernel
theorem dX1_join_19 : decode cX1_join 19 = .ok (.getfield 42, 3) := by decide +kernel
theorem dX1_join_22 : decode cX1_join 22 = .ok (.if_icmp .ge 29, 3) := by decide +kernel
theorem dX1_join_25 : decode cX1_join 25 = .ok (.aload_n 0, 1) := by decide +kernel
theorem dX1_join_26 : decode cX1_join 26 = .ok (.getfield 28, 3) := by decide +kernel
theorem dX1_join_29 : decode cX1_join 29 = .ok (.iload 5, 2) := by decide +kernel
theorem dX1_join_31 : decode cX1_join 31 = .ok (.iaload, 1) := by decide +kernel
theorem dX1_join_32 : decode cX1_join 32 = .ok (.iload 4, 2) := by decide +kernel
theorem dX1_join_34 : decode cX1_join 34 = .ok (.if_icmp .ne 11, 3) := by decide +kernel
theorem dX1_join_37 : decode cX1_join 37 = .ok (.aload_n 0, 1) := by decide +kernel
theorem dX1_join_38 : decode cX1_join 38 = .ok (.getfield 28, 3) := by decide +kernel
theorem dX1_join_41 : decode cX1_join 41 = .ok (.iload 5, 2) := by decide +kernel
theorem dX1_join_43 : decode cX1_join 43 = .ok (.iload_n 3, 1) := by decide +kernel
theorem dX1_join_44 : decode cX1_join 44 = .ok (.iastore, 1) := by decide +kernel
theorem dX1_join_45 : decode cX1_join 45 = .ok (.iinc 5 1, 3) := by decide +kernel
theorem dX1_join_48 : decode cX1_join 48 = .ok (.goto (-32), 3) := by decide +kernel
theorem dX1_join_51 : decode cX1_join 51 = .ok (.return_, 1) := by decide +kernel
theorem dX1_familyOf_0 : decode cX1_familyOf 0 = .ok (.iload_n 1, 1) := by decide +kernel
theorem dX1_familyOf_1 : decode cX1_familyOf 1 = .ok (.ifCond .lt 25, 3) := by decide +kernel
theorem dX1_familyOf_4 : decode cX1_familyOf 4 = .ok (.iload_n 1, 1) := by decide +kernel
theorem dX1_familyOf_5 : decode cX1_familyOf 5 = .ok (.aload_n 0, 1) := by decide +kernel
theorem dX1_familyOf_6 : decode cX1_familyOf 6 = .ok (.getfield 42, 3) := by decide +kernel
theorem dX1_familyOf_9 : decode cX1_familyOf 9 = .ok (.if_icmp .ge 17, 3) := by decide +kernel
theorem dX1_familyOf_12 : decode cX1_familyOf 12 = .ok (.aload_n 0, 1) := by decide +kernel
theorem dX1_familyOf_13 : decode cX1_familyOf 13 = .ok (.getfield 21, 3) := by decide +kernel
theorem dX1_familyOf_16 : decode cX1_familyOf 16 = .ok (.aload_n 0, 1) := by decide +kernel
theorem dX1_familyOf_17 : decode cX1_familyOf 17 = .ok (.getfield 28, 3) := by decide +kernel
theorem dX1_familyOf_20 : decode cX1_familyOf 20 = .ok (.iload_n 1, 1) := by decide +kernel
theorem dX1_familyOf_21 : decode cX1_familyOf 21 = .ok (.iaload, 1) := by decide +kernel
theorem dX1_familyOf_22 : decode cX1_familyOf 22 = .ok (.iaload, 1) := by decide +kernel
theorem dX1_familyOf_23 : decode cX1_familyOf 23 = .ok (.goto 4, 3) := by decide +kernel
theorem dX1_familyOf_26 : decode cX1_familyOf 26 = .ok (.iconst (-1), 1) := by decide +kernel
theorem dX1_familyOf_27 : decode cX1_familyOf 27 = .ok (.ireturn, 1) := by decide +kernel
theorem dX1_membersWith_0 : decode cX1_membersWith 0 = .ok (.iload_n 1, 1) := by decide +kernel
theorem dX1_membersWith_1 : decode cX1_membersWith 1 = .ok (.ifCond .lt 25, 3) := by decide +kernel
theorem dX1_membersWith_4 : decode cX1_membersWith 4 = .ok (.iload_n 1, 1) := by decide +kernel
theorem dX1_membersWith_5 : decode cX1_membersWith 5 = .ok (.aload_n 0, 1) := by decide +kernel
theorem dX1_membersWith_6 : decode cX1_membersWith 6 = .ok (.getfield 42, 3) := by decide +kernel
theorem dX1_membersWith_9 : decode cX1_membersWith 9 = .ok (.if_icmp .ge 17, 3) := by decide +kernel
theorem dX1_membersWith_12 : decode cX1_membersWith 12 = .ok (.aload_n 0, 1) := by decide +kernel
theorem dX1_membersWith_13 : decode cX1_membersWith 13 = .ok (.getfield 31, 3) := by decide +kernel
theorem dX1_membersWith_16 : decode cX1_membersWith 16 = .ok (.aload_n 0, 1) := by decide +kernel
theorem dX1_membersWith_17 : decode cX1_membersWith 17 = .ok (.getfield 28, 3) := by decide +kernel
theorem dX1_membersWith_20 : decode cX1_membersWith 20 = .ok (.iload_n 1, 1) := by decide +kernel
theorem dX1_membersWith_21 : decode cX1_membersWith 21 = .ok (.iaload, 1) := by decide +kernel
theorem dX1_membersWith_22 : decode cX1_membersWith 22 = .ok (.iaload, 1) := by decide +kernel
theorem dX1_membersWith_23 : decode cX1_membersWith 23 = .ok (.goto 4, 3) := by decide +kernel
theorem dX1_membersWith_26 : decode cX1_membersWith 26 = .ok (.iconst (-1), 1) := by decide +kernel
theorem dX1_membersWith_27 : decode cX1_membersWith 27 = .ok (.ireturn, 1) := by decide +kernel
theorem dX1_twinsOf_0 : decode cX1_twinsOf 0 = .ok (.iload_n 1, 1) := by decide +kernel
theorem dX1_twinsOf_1 : decode cX1_twinsOf 1 = .ok (.ifCond .lt 20, 3) := by decide +kernel
theorem dX1_twinsOf_4 : decode cX1_twinsOf 4 = .ok (.iload_n 1, 1) := by decide +kernel
theorem dX1_twinsOf_5 : decode cX1_twinsOf 5 = .ok (.aload_n 0, 1) := by decide +kernel
theorem dX1_twinsOf_6 : decode cX1_twinsOf 6 = .ok (.getfield 42, 3) := by decide +kernel
theorem dX1_twinsOf_9 : decode cX1_twinsOf 9 = .ok (.if_icmp .ge 12, 3) := by decide +kernel
theorem dX1_twinsOf_12 : decode cX1_twinsOf 12 = .ok (.aload_n 0, 1) := by decide +kernel
theorem dX1_twinsOf_13 : decode cX1_twinsOf 13 = .ok (.getfield 25, 3) := by decide +kernel
theorem dX1_twinsOf_16 : decode cX1_twinsOf 16 = .ok (.iload_n 1, 1) := by decide +kernel
theorem dX1_twinsOf_17 : decode cX1_twinsOf 17 = .ok (.iaload, 1) := by decide +kernel
theorem dX1_twinsOf_18 : decode cX1_twinsOf 18 = .ok (.goto 4, 3) := by decide +kernel
theorem dX1_twinsOf_21 : decode cX1_twinsOf 21 = .ok (.iconst (-1), 1) := by decide +kernel
theorem dX1_twinsOf_22 : decode cX1_twinsOf 22 = .ok (.ireturn, 1) := by decide +kernel
theorem dX1_families_0 : decode cX1_families 0 = .ok (.iconst 0, 1) := by decide +kernel
theorem dX1_families_1 : decode cX1_families 1 = .ok (.istore_n 2, 1) := by decide +kernel
theorem dX1_families_2 : decode cX1_families 2 = .ok (.iconst 0, 1) := by decide +kernel
theorem dX1_families_3 : decode cX1_families 3 = .ok (.istore_n 3, 1) := by decide +kernel
theorem dX1_families_4 : decode cX1_families 4 = .ok (.iload_n 3, 1) := by decide +kernel
theorem dX1_families_5 : decode cX1_families 5 = .ok (.aload_n 0, 1) := by decide +kernel
theorem dX1_families_6 : decode cX1_families 6 = .ok (.getfield 42, 3) := by decide +kernel
theorem dX1_families_9 : decode cX1_families 9 = .ok (.if_icmp .ge 22, 3) := by decide +kernel
theorem dX1_families_12 : decode cX1_families 12 = .ok (.aload_n 0, 1) := by decide +kernel
theorem dX1_families_13 : decode cX1_families 13 = .ok (.getfield 31, 3) := by decide +kernel
theorem dX1_families_16 : decode cX1_families 16 = .ok (.iload_n 3, 1) := by decide +kernel
theorem dX1_families_17 : decode cX1_families 17 = .ok (.iaload, 1) := by decide +kernel
theorem dX1_families_18 : decode cX1_families 18 = .ok (.iload_n 1, 1) := by decide +kernel
theorem dX1_families_19 : decode cX1_families 19 = .ok (.if_icmp .lt 6, 3) := by decide +kernel
theorem dX1_families_22 : decode cX1_families 22 = .ok (.iinc 2 1, 3) := by decide +kernel
theorem dX1_families_25 : decode cX1_families 25 = .ok (.iinc 3 1, 3) := by decide +kernel
theorem dX1_families_28 : decode cX1_families 28 = .ok (.goto (-24), 3) := by decide +kernel
theorem dX1_families_31 : decode cX1_families 31 = .ok (.iload_n 2, 1) := by decide +kernel
theorem dX1_families_32 : decode cX1_families 32 = .ok (.ireturn, 1) := by decide +kernel
theorem dX1_familyAt_0 : decode cX1_familyAt 0 = .ok (.iconst 0, 1) := by decide +kernel
theorem dX1_familyAt_1 : decode cX1_familyAt 1 = .ok (.istore_n 3, 1) := by decide +kernel
theorem dX1_familyAt_2 : decode cX1_familyAt 2 = .ok (.iconst 0, 1) := by decide +kernel
theorem dX1_familyAt_3 : decode cX1_familyAt 3 = .ok (.istore 4, 2) := by decide +kernel
theorem dX1_familyAt_5 : decode cX1_familyAt 5 = .ok (.iload 4, 2) := by decide +kernel
theorem dX1_familyAt_7 : decode cX1_familyAt 7 = .ok (.aload_n 0, 1) := by decide +kernel
theorem dX1_familyAt_8 : decode cX1_familyAt 8 = .ok (.getfield 42, 3) := by decide +kernel
theorem dX1_familyAt_11 : decode cX1_familyAt 11 = .ok (.if_icmp .ge 36, 3) := by decide +kernel
theorem dX1_familyAt_14 : decode cX1_familyAt 14 = .ok (.aload_n 0, 1) := by decide +kernel
theorem dX1_familyAt_15 : decode cX1_familyAt 15 = .ok (.getfield 31, 3) := by decide +kernel
theorem dX1_familyAt_18 : decode cX1_familyAt 18 = .ok (.iload 4, 2) := by decide +kernel
theorem dX1_familyAt_20 : decode cX1_familyAt 20 = .ok (.iaload, 1) := by decide +kernel
theorem dX1_familyAt_21 : decode cX1_familyAt 21 = .ok (.iload_n 2, 1) := by decide +kernel
theorem dX1_familyAt_22 : decode cX1_familyAt 22 = .ok (.if_icmp .lt 19, 3) := by decide +kernel
theorem dX1_familyAt_25 : decode cX1_familyAt 25 = .ok (.iload_n 3, 1) := by decide +kernel
theorem dX1_familyAt_26 : decode cX1_familyAt 26 = .ok (.iload_n 1, 1) := by decide +kernel
theorem dX1_familyAt_27 : decode cX1_familyAt 27 = .ok (.if_icmp .ne 11, 3) := by decide +kernel
theorem dX1_familyAt_30 : decode cX1_familyAt 30 = .ok (.aload_n 0, 1) := by decide +kernel
theorem dX1_familyAt_31 : decode cX1_familyAt 31 = .ok (.getfield 21, 3) := by decide +kernel
theorem dX1_familyAt_34 : decode cX1_familyAt 34 = .ok (.iload 4, 2) := by decide +kernel
theorem dX1_familyAt_36 : decode cX1_familyAt 36 = .ok (.iaload, 1) := by decide +kernel
theorem dX1_familyAt_37 : decode cX1_familyAt 37 = .ok (.ireturn, 1) := by decide +kernel
theorem dX1_familyAt_38 : decode cX1_familyAt 38 = .ok (.iinc 3 1, 3) := by decide +kernel
theorem dX1_familyAt_41 : decode cX1_familyAt 41 = .ok (.iinc 4 1, 3) := by decide +kernel
theorem dX1_familyAt_44 : decode cX1_familyAt 44 = .ok (.goto (-39), 3) := by decide +kernel
theorem dX1_familyAt_47 : decode cX1_familyAt 47 = .ok (.iconst (-1), 1) := by decide +kernel
theorem dX1_familyAt_48 : decode cX1_familyAt 48 = .ok (.ireturn, 1) := by decide +kernel
theorem dX2_init_0 : decode cX2_init 0 = .ok (.aload_n 0, 1) := by decide +kernel
theorem dX2_init_1 : decode cX2_init 1 = .ok (.invokespecial 3, 3) := by decide +kernel
theorem dX2_init_4 : decode cX2_init 4 = .ok (.aload_n 0, 1) := by decide +kernel
theorem dX2_init_5 : decode cX2_init 5 = .ok (.bipush 16, 2) := by decide +kernel
theorem dX2_init_7 : decode cX2_init 7 = .ok (.putfield 9, 3) := by decide +kernel
theorem dX2_init_10 : decode cX2_init 10 = .ok (.aload_n 0, 1) := by decide +kernel
theorem dX2_init_11 : decode cX2_init 11 = .ok (.iconst 4, 1) := by decide +kernel
theorem dX2_init_12 : decode cX2_init 12 = .ok (.putfield 15, 3) := by decide +kernel
theorem dX2_init_15 : decode cX2_init 15 = .ok (.aload_n 0, 1) := by decide +kernel
theorem dX2_init_16 : decode cX2_init 16 = .ok (.iconst 1, 1) := by decide +kernel
theorem dX2_init_17 : decode cX2_init 17 = .ok (.putfield 18, 3) := by decide +kernel
theorem dX2_init_20 : decode cX2_init 20 = .ok (.aload_n 0, 1) := by decide +kernel
theorem dX2_init_21 : decode cX2_init 21 = .ok (.iconst 2, 1) := by decide +kernel
theorem dX2_init_22 : decode cX2_init 22 = .ok (.putfield 21, 3) := by decide +kernel
theorem dX2_init_25 : decode cX2_init 25 = .ok (.return_, 1) := by decide +kernel
theorem dX2_takeBands_0 : decode cX2_takeBands 0 = .ok (.iload_n 1, 1) := by decide +kernel
theorem dX2_takeBands_1 : decode cX2_takeBands 1 = .ok (.iconst 1, 1) := by decide +kernel
theorem dX2_takeBands_2 : decode cX2_takeBands 2 = .ok (.if_icmp .lt 28, 3) := by decide +kernel
theorem dX2_takeBands_5 : decode cX2_takeBands 5 = .ok (.iload_n 2, 1) := by decide +kernel
theorem dX2_takeBands_6 : decode cX2_takeBands 6 = .ok (.iconst 1, 1) := by decide +kernel
theorem dX2_takeBands_7 : decode cX2_takeBands 7 = .ok (.if_icmp .lt 23, 3) := by decide +kernel
theorem dX2_takeBands_10 : decode cX2_takeBands 10 = .ok (.iload_n 1, 1) := by decide +kernel
theorem dX2_takeBands_11 : decode cX2_takeBands 11 = .ok (.bipush 64, 2) := by decide +kernel
theorem dX2_takeBands_13 : decode cX2_takeBands 13 = .ok (.if_icmp .gt 17, 3) := by decide +kernel
theorem dX2_takeBands_16 : decode cX2_takeBands 16 = .ok (.iload_n 2, 1) := by decide +kernel
theorem dX2_takeBands_17 : decode cX2_takeBands 17 = .ok (.bipush 64, 2) := by decide +kernel
theorem dX2_takeBands_19 : decode cX2_takeBands 19 = .ok (.if_icmp .gt 11, 3) := by decide +kernel
theorem dX2_takeBands_22 : decode cX2_takeBands 22 = .ok (.iload_n 1, 1) := by decide +kernel
theorem dX2_takeBands_23 : decode cX2_takeBands 23 = .ok (.iload_n 2, 1) := by decide +kernel
theorem dX2_takeBands_24 : decode cX2_takeBands 24 = .ok (.imul, 1) := by decide +kernel
theorem dX2_takeBands_25 : decode cX2_takeBands 25 = .ok (.bipush 64, 2) := by decide +kernel
theorem dX2_takeBands_27 : decode cX2_takeBands 27 = .ok (.if_icmp .le 5, 3) := by decide +kernel
theorem dX2_takeBands_30 : decode cX2_takeBands 30 = .ok (.iconst 0, 1) := by decide +kernel
theorem dX2_takeBands_31 : decode cX2_takeBands 31 = .ok (.ireturn, 1) := by decide +kernel
theorem dX2_takeBands_32 : decode cX2_takeBands 32 = .ok (.aload_n 0, 1) := by decide +kernel
theorem dX2_takeBands_33 : decode cX2_takeBands 33 = .ok (.iload_n 1, 1) := by decide +kernel
theorem dX2_takeBands_34 : decode cX2_takeBands 34 = .ok (.putfield 9, 3) := by decide +kernel
theorem dX2_takeBands_37 : decode cX2_takeBands 37 = .ok (.aload_n 0, 1) := by decide +kernel
theorem dX2_takeBands_38 : decode cX2_takeBands 38 = .ok (.iload_n 2, 1) := by decide +kernel
theorem dX2_takeBands_39 : decode cX2_takeBands 39 = .ok (.putfield 15, 3) := by decide +kernel
theorem dX2_takeBands_42 : decode cX2_takeBands 42 = .ok (.iconst 1, 1) := by decide +kernel
theorem dX2_takeBands_43 : decode cX2_takeBands 43 = .ok (.ireturn, 1) := by decide +kernel
theorem dX2_takeThreshold_0 : decode cX2_takeThreshold 0 = .ok (.iload_n 1, 1) := by decide +kernel
theorem dX2_takeThreshold_1 : decode cX2_takeThreshold 1 = .ok (.ifCond .lt 20, 3) := by decide +kernel
theorem dX2_takeThreshold_4 : decode cX2_takeThreshold 4 = .ok (.iload_n 1, 1) := by decide +kernel
theorem dX2_takeThreshold_5 : decode cX2_takeThreshold 5 = .ok (.iload_n 2, 1) := by decide +kernel
theorem dX2_takeThreshold_6 : decode cX2_takeThreshold 6 = .ok (.if_icmp .gt 15, 3) := by decide +kernel
theorem dX2_takeThreshold_9 : decode cX2_takeThreshold 9 = .ok (.iload_n 2, 1) := by decide +kernel
theorem dX2_takeThreshold_10 : decode cX2_takeThreshold 10 = .ok (.iconst 1, 1) := by decide +kernel
theorem dX2_takeThreshold_11 : decode cX2_takeThreshold 11 = .ok (.if_icmp .lt 10, 3) := by decide +kernel
theorem dX2_takeThreshold_14 : decode cX2_takeThreshold 14 = .ok (.iload_n 2, 1) := by decide +kernel
theorem dX2_takeThreshold_15 : decode cX2_takeThreshold 15 = .ok (.sipush 10000, 3) := by decide +kernel
theorem dX2_takeThreshold_18 : decode cX2_takeThreshold 18 = .ok (.if_icmp .le 5, 3) := by decide +kernel
theorem dX2_takeThreshold_21 : decode cX2_takeThreshold 21 = .ok (.iconst 0, 1) := by decide +kernel
theorem dX2_takeThreshold_22 : decode cX2_takeThreshold 22 = .ok (.ireturn, 1) := by decide +kernel
theorem dX2_takeThreshold_23 : decode cX2_takeThreshold 23 = .ok (.aload_n 0, 1) := by decide +kernel
theorem dX2_takeThreshold_24 : decode cX2_takeThreshold 24 = .ok (.iload_n 1, 1) := by decide +kernel
theorem dX2_takeThreshold_25 : decode cX2_takeThreshold 25 = .ok (.putfield 18, 3) := by decide +kernel
theorem dX2_takeThreshold_28 : decode cX2_takeThreshold 28 = .ok (.aload_n 0, 1) := by decide +kernel
theorem dX2_takeThreshold_29 : decode cX2_takeThreshold 29 = .ok (.iload_n 2, 1) := by decide +kernel
theorem dX2_takeThreshold_30 : decode cX2_takeThreshold 30 = .ok (.putfield 21, 3) := by decide +kernel
theorem dX2_takeThreshold_33 : decode cX2_takeThreshold 33 = .ok (.iconst 1, 1) := by decide +kernel
theorem dX2_takeThreshold_34 : decode cX2_takeThreshold 34 = .ok (.ireturn, 1) := by decide +kernel
theorem dX2_common_0 : decode cX2_common 0 = .ok (.aload_n 1, 1) := by decide +kernel
theorem dX2_common_1 : decode cX2_common 1 = .ok (.getfield 24, 3) := by decide +kernel
theorem dX2_common_4 : decode cX2_common 4 = .ok (.aload_n 2, 1) := by decide +kernel
theorem dX2_common_5 : decode cX2_common 5 = .ok (.getfield 30, 3) := by decide +kernel
theorem dX2_common_8 : decode cX2_common 8 = .ok (.iaload, 1) := by decide +kernel
theorem dX2_common_9 : decode cX2_common 9 = .ok (.ireturn, 1) := by decide +kernel
theorem dX2_all_0 : decode cX2_all 0 = .ok (.aload_n 1, 1) := by decide +kernel
theorem dX2_all_1 : decode cX2_all 1 = .ok (.getfield 33, 3) := by decide +kernel
theorem dX2_all_4 : decode cX2_all 4 = .ok (.aload_n 2, 1) := by decide +kernel
theorem dX2_all_5 : decode cX2_all 5 = .ok (.getfield 33, 3) := by decide +kernel
theorem dX2_all_8 : decode cX2_all 8 = .ok (.iadd, 1) := by decide +kernel
theorem dX2_all_9 : decode cX2_all 9 = .ok (.aload_n 0, 1) := by decide +kernel
theorem dX2_all_10 : decode cX2_all 10 = .ok (.aload_n 1, 1) := by decide +kernel
theorem dX2_all_11 : decode cX2_all 11 = .ok (.aload_n 2, 1) := by decide +kernel
theorem dX2_all_12 : decode cX2_all 12 = .ok (.invokevirtual 36, 3) := by decide +kernel
theorem dX2_all_15 : decode cX2_all 15 = .ok (.isub, 1) := by decide +kernel
theorem dX2_all_16 : decode cX2_all 16 = .ok (.ireturn, 1) := by decide +kernel
theorem dX2_sameImages_0 : decode cX2_sameImages 0 = .ok (.iconst 0, 1) := by decide +kernel
theorem dX2_sameImages_1 : decode cX2_sameImages 1 = .ok (.istore_n 3, 1) := by decide +kernel
theorem dX2_sameImages_2 : decode cX2_sameImages 2 = .ok (.iconst 0, 1) := by decide +kernel
theorem dX2_sameImages_3 : decode cX2_sameImages 3 = .ok (.istore 4, 2) := by decide +kernel
theorem dX2_sameImages_5 : decode cX2_sameImages 5 = .ok (.iload 4, 2) := by decide +kernel
theorem dX2_sameImages_7 : decode cX2_sameImages 7 = .ok (.aload_n 0, 1) := by decide +kernel
theorem dX2_sameImages_8 : decode cX2_sameImages 8 = .ok (.getfield 9, 3) := by decide +kernel
theorem dX2_sameImages_11 : decode cX2_sameImages 11 = .ok (.aload_n 0, 1) := by decide +kernel
theorem dX2_sameImages_12 : decode cX2_sameImages 12 = .ok (.getfield 15, 3) := by decide +kernel
theorem dX2_sameImages_15 : decode cX2_sameImages 15 = .ok (.imul, 1) := by decide +kernel
theorem dX2_sameImages_16 : decode cX2_sameImages 16 = .ok (.if_icmp .ge 29, 3) := by decide +kernel
theorem dX2_sameImages_19 : decode cX2_sameImages 19 = .ok (.aload_n 1, 1) := by decide +kernel
theorem dX2_sameImages_20 : decode cX2_sameImages 20 = .ok (.getfield 40, 3) := by decide +kernel
theorem dX2_sameImages_23 : decode cX2_sameImages 23 = .ok (.iload 4, 2) := by decide +kernel
theorem dX2_sameImages_25 : decode cX2_sameImages 25 = .ok (.iaload, 1) := by decide +kernel
theorem dX2_sameImages_26 : decode cX2_sameImages 26 = .ok (.aload_n 2, 1) := by decide +kernel
theorem dX2_sameImages_27 : decode cX2_sameImages 27 = .ok (.getfield 40, 3) := by decide +kernel
theorem dX2_sameImages_30 : decode cX2_sameImages 30 = .ok (.iload 4, 2) := by decide +kernel
theorem dX2_sameImages_32 : decode cX2_sameImages 32 = .ok (.iaload, 1) := by decide +kernel
theorem dX2_sameImages_33 : decode cX2_sameImages 33 = .ok (.if_icmp .ne 6, 3) := by decide +kernel
theorem dX2_sameImages_36 : decode cX2_sameImages 36 = .ok (.iinc 3 1, 3) := by decide +kernel
theorem dX2_sameImages_39 : decode cX2_sameImages 39 = .ok (.iinc 4 1, 3) := by decide +kernel
theorem dX2_sameImages_42 : decode cX2_sameImages 42 = .ok (.goto (-37), 3) := by decide +kernel
theorem dX2_sameImages_45 : decode cX2_sameImages 45 = .ok (.iload_n 3, 1) := by decide +kernel
theorem dX2_sameImages_46 : decode cX2_sameImages 46 = .ok (.ireturn, 1) := by decide +kernel
theorem dX2_firstBand_0 : decode cX2_firstBand 0 = .ok (.aload_n 1, 1) := by decide +kernel
theorem dX2_firstBand_1 : decode cX2_firstBand 1 = .ok (.getfield 33, 3) := by decide +kernel
theorem dX2_firstBand_4 : decode cX2_firstBand 4 = .ok (.ifCond .eq 10, 3) := by decide +kernel
theorem dX2_firstBand_7 : decode cX2_firstBand 7 = .ok (.aload_n 2, 1) := by decide +kernel
theorem dX2_firstBand_8 : decode cX2_firstBand 8 = .ok (.getfield 33, 3) := by decide +kernel
theorem dX2_firstBand_11 : decode cX2_firstBand 11 = .ok (.ifCond .ne 5, 3) := by decide +kernel
theorem dX2_firstBand_14 : decode cX2_firstBand 14 = .ok (.iconst (-1), 1) := by decide +kernel
theorem dX2_firstBand_15 : decode cX2_firstBand 15 = .ok (.ireturn, 1) := by decide +kernel
theorem dX2_firstBand_16 : decode cX2_firstBand 16 = .ok (.iconst 0, 1) := by decide +kernel
theorem dX2_firstBand_17 : decode cX2_firstBand 17 = .ok (.istore_n 3, 1) := by decide +kernel
theorem dX2_firstBand_18 : decode cX2_firstBand 18 = .ok (.iload_n 3, 1) := by decide +kernel
theorem dX2_firstBand_19 : decode cX2_firstBand 19 = .ok (.aload_n 0, 1) := by decide +kernel
theorem dX2_firstBand_20 : decode cX2_firstBand 20 = .ok (.getfield 9, 3) := by decide +kernel
theorem dX2_firstBand_23 : decode cX2_firstBand 23 = .ok (.if_icmp .ge 26, 3) := by decide +kernel
theorem dX2_firstBand_26 : decode cX2_firstBand 26 = .ok (.aload_n 0, 1) := by decide +kernel
theorem dX2_firstBand_27 : decode cX2_firstBand 27 = .ok (.aload_n 1, 1) := by decide +kernel
theorem dX2_firstBand_28 : decode cX2_firstBand 28 = .ok (.aload_n 2, 1) := by decide +kernel
theorem dX2_firstBand_29 : decode cX2_firstBand 29 = .ok (.iload_n 3, 1) := by decide +kernel
theorem dX2_firstBand_30 : decode cX2_firstBand 30 = .ok (.aload_n 0, 1) := by decide +kernel
theorem dX2_firstBand_31 : decode cX2_firstBand 31 = .ok (.getfield 15, 3) := by decide +kernel
theorem dX2_firstBand_34 : decode cX2_firstBand 34 = .ok (.imul, 1) := by decide +kernel
theorem dX2_firstBand_35 : decode cX2_firstBand 35 = .ok (.invokevirtual 43, 3) := by decide +kernel
theorem dX2_firstBand_38 : decode cX2_firstBand 38 = .ok (.ifCond .eq 5, 3) := by decide +kernel
theorem dX2_firstBand_41 : decode cX2_firstBand 41 = .ok (.iload_n 3, 1) := by decide +kernel
theorem dX2_firstBand_42 : decode cX2_firstBand 42 = .ok (.ireturn, 1) := by decide +kernel
theorem dX2_firstBand_43 : decode cX2_firstBand 43 = .ok (.iinc 3 1, 3) := by decide +kernel
theorem dX2_firstBand_46 : decode cX2_firstBand 46 = .ok (.goto (-28), 3) := by decide +kernel
theorem dX2_firstBand_49 : decode cX2_firstBand 49 = .ok (.iconst (-1), 1) := by decide +kernel
theorem dX2_firstBand_50 : decode cX2_firstBand 50 = .ok (.ireturn, 1) := by decide +kernel
theorem dX2_agree_0 : decode cX2_agree 0 = .ok (.iload_n 3, 1) := by decide +kernel
theorem dX2_agree_1 : decode cX2_agree 1 = .ok (.istore 4, 2) := by decide +kernel
theorem dX2_agree_3 : decode cX2_agree 3 = .ok (.iload 4, 2) := by decide +kernel
theorem dX2_agree_5 : decode cX2_agree 5 = .ok (.iload_n 3, 1) := by decide +kernel
theorem dX2_agree_6 : decode cX2_agree 6 = .ok (.aload_n 0, 1) := by decide +kernel
theorem dX2_agree_7 : decode cX2_agree 7 = .ok (.getfield 15, 3) := by decide +kernel
theorem dX2_agree_10 : decode cX2_agree 10 = .ok (.iadd, 1) := by decide +kernel
theorem dX2_agree_11 : decode cX2_agree 11 = .ok (.if_icmp .ge 28, 3) := by decide +kernel
theorem dX2_agree_14 : decode cX2_agree 14 = .ok (.aload_n 1, 1) := by decide +kernel
theorem dX2_agree_15 : decode cX2_agree 15 = .ok (.getfield 40, 3) := by decide +kernel
theorem dX2_agree_18 : decode cX2_agree 18 = .ok (.iload 4, 2) := by decide +kernel
theorem dX2_agree_20 : decode cX2_agree 20 = .ok (.iaload, 1) := by decide +kernel
theorem dX2_agree_21 : decode cX2_agree 21 = .ok (.aload_n 2, 1) := by decide +kernel
theorem dX2_agree_22 : decode cX2_agree 22 = .ok (.getfield 40, 3) := by decide +kernel
theorem dX2_agree_25 : decode cX2_agree 25 = .ok (.iload 4, 2) := by decide +kernel
theorem dX2_agree_27 : decode cX2_agree 27 = .ok (.iaload, 1) := by decide +kernel
theorem dX2_agree_28 : decode cX2_agree 28 = .ok (.if_icmp .eq 5, 3) := by decide +kernel
theorem dX2_agree_31 : decode cX2_agree 31 = .ok (.iconst 0, 1) := by decide +kernel
theorem dX2_agree_32 : decode cX2_agree 32 = .ok (.ireturn, 1) := by decide +kernel
theorem dX2_agree_33 : decode cX2_agree 33 = .ok (.iinc 4 1, 3) := by decide +kernel
theorem dX2_agree_36 : decode cX2_agree 36 = .ok (.goto (-33), 3) := by decide +kernel
theorem dX2_agree_39 : decode cX2_agree 39 = .ok (.iconst 1, 1) := by decide +kernel
theorem dX2_agree_40 : decode cX2_agree 40 = .ok (.ireturn, 1) := by decide +kernel
theorem dX2_areTwins_0 : decode cX2_areTwins 0 = .ok (.aload_n 0, 1) := by decide +kernel
theorem dX2_areTwins_1 : decode cX2_areTwins 1 = .ok (.aload_n 1, 1) := by decide +kernel
theorem dX2_areTwins_2 : decode cX2_areTwins 2 = .ok (.aload_n 2, 1) := by decide +kernel
theorem dX2_areTwins_3 : decode cX2_areTwins 3 = .ok (.invokevirtual 47, 3) := by decide +kernel
theorem dX2_areTwins_6 : decode cX2_areTwins 6 = .ok (.iconst (-1), 1) := by decide +kernel
theorem dX2_areTwins_7 : decode cX2_areTwins 7 = .ok (.if_icmp .eq 16, 3) := by decide +kernel
theorem dX2_areTwins_10 : decode cX2_areTwins 10 = .ok (.aload_n 0, 1) := by decide +kernel
theorem dX2_areTwins_11 : decode cX2_areTwins 11 = .ok (.aload_n 1, 1) := by decide +kernel
theorem dX2_areTwins_12 : decode cX2_areTwins 12 = .ok (.aload_n 2, 1) := by decide +kernel
theorem dX2_areTwins_13 : decode cX2_areTwins 13 = .ok (.invokevirtual 50, 3) := by decide +kernel
theorem dX2_areTwins_16 : decode cX2_areTwins 16 = .ok (.ifCond .eq 7, 3) := by decide +kernel
theorem dX2_areTwins_19 : decode cX2_areTwins 19 = .ok (.iconst 1, 1) := by decide +kernel
theorem dX2_areTwins_20 : decode cX2_areTwins 20 = .ok (.goto 4, 3) := by decide +kernel
theorem dX2_areTwins_23 : decode cX2_areTwins 23 = .ok (.iconst 0, 1) := by decide +kernel
theorem dX2_areTwins_24 : decode cX2_areTwins 24 = .ok (.ireturn, 1) := by decide +kernel
theorem dX2_areNear_0 : decode cX2_areNear 0 = .ok (.aload_n 0, 1) := by decide +kernel
theorem dX2_areNear_1 : decode cX2_areNear 1 = .ok (.aload_n 1, 1) := by decide +kernel
theorem dX2_areNear_2 : decode cX2_areNear 2 = .ok (.aload_n 2, 1) := by decide +kernel
theorem dX2_areNear_3 : decode cX2_areNear 3 = .ok (.invokevirtual 36, 3) := by decide +kernel
theorem dX2_areNear_6 : decode cX2_areNear 6 = .ok (.aload_n 0, 1) := by decide +kernel
theorem dX2_areNear_7 : decode cX2_areNear 7 = .ok (.getfield 21, 3) := by decide +kernel
theorem dX2_areNear_10 : decode cX2_areNear 10 = .ok (.imul, 1) := by decide +kernel
theorem dX2_areNear_11 : decode cX2_areNear 11 = .ok (.aload_n 0, 1) := by decide +kernel
theorem dX2_areNear_12 : decode cX2_areNear 12 = .ok (.aload_n 1, 1) := by decide +kernel
theorem dX2_areNear_13 : decode cX2_areNear 13 = .ok (.aload_n 2, 1) := by decide +kernel
theorem dX2_areNear_14 : decode cX2_areNear 14 = .ok (.invokevirtual 54, 3) := by decide +kernel
theorem dX2_areNear_17 : decode cX2_areNear 17 = .ok (.aload_n 0, 1) := by decide +kernel
theorem dX2_areNear_18 : decode cX2_areNear 18 = .ok (.getfield 18, 3) := by decide +kernel
theorem dX2_areNear_21 : decode cX2_areNear 21 = .ok (.imul, 1) := by decide +kernel
theorem dX2_areNear_22 : decode cX2_areNear 22 = .ok (.if_icmp .lt 7, 3) := by decide +kernel
theorem dX2_areNear_25 : decode cX2_areNear 25 = .ok (.iconst 1, 1) := by decide +kernel
theorem dX2_areNear_26 : decode cX2_areNear 26 = .ok (.goto 4, 3) := by decide +kernel
theorem dX2_areNear_29 : decode cX2_areNear 29 = .ok (.iconst 0, 1) := by decide +kernel
theorem dX2_areNear_30 : decode cX2_areNear 30 = .ok (.ireturn, 1) := by decide +kernel
theorem dX2_isNearer_0 : decode cX2_isNearer 0 = .ok (.aload_n 0, 1) := by decide +kernel
theorem dX2_isNearer_1 : decode cX2_isNearer 1 = .ok (.aload_n 1, 1) := by decide +kernel
theorem dX2_isNearer_2 : decode cX2_isNearer 2 = .ok (.aload_n 2, 1) := by decide +kernel
theorem dX2_isNearer_3 : decode cX2_isNearer 3 = .ok (.invokevirtual 36, 3) := by decide +kernel
theorem dX2_isNearer_6 : decode cX2_isNearer 6 = .ok (.iconst 1, 1) := by decide +kernel
theorem dX2_isNearer_7 : decode cX2_isNearer 7 = .ok (.aload_n 0, 1) := by decide +kernel
theorem dX2_isNearer_8 : decode cX2_isNearer 8 = .ok (.aload_n 1, 1) := by decide +kernel
theorem dX2_isNearer_9 : decode cX2_isNearer 9 = .ok (.aload_n 3, 1) := by decide +kernel
theorem dX2_isNearer_10 : decode cX2_isNearer 10 = .ok (.invokevirtual 54, 3) := by decide +kernel
theorem dX2_isNearer_13 : decode cX2_isNearer 13 = .ok (.invokestatic 57, 3) := by decide +kernel
theorem dX2_isNearer_16 : decode cX2_isNearer 16 = .ok (.imul, 1) := by decide +kernel
theorem dX2_isNearer_17 : decode cX2_isNearer 17 = .ok (.aload_n 0, 1) := by decide +kernel
theorem dX2_isNearer_18 : decode cX2_isNearer 18 = .ok (.aload_n 1, 1) := by decide +kernel
theorem dX2_isNearer_19 : decode cX2_isNearer 19 = .ok (.aload_n 3, 1) := by decide +kernel
theorem dX2_isNearer_20 : decode cX2_isNearer 20 = .ok (.invokevirtual 36, 3) := by decide +kernel
theorem dX2_isNearer_23 : decode cX2_isNearer 23 = .ok (.iconst 1, 1) := by decide +kernel
theorem dX2_isNearer_24 : decode cX2_isNearer 24 = .ok (.aload_n 0, 1) := by decide +kernel
theorem dX2_isNearer_25 : decode cX2_isNearer 25 = .ok (.aload_n 1, 1) := by decide +kernel
theorem dX2_isNearer_26 : decode cX2_isNearer 26 = .ok (.aload_n 2, 1) := by decide +kernel
theorem dX2_isNearer_27 : decode cX2_isNearer 27 = .ok (.invokevirtual 54, 3) := by decide +kernel
theorem dX2_isNearer_30 : decode cX2_isNearer 30 = .ok (.invokestatic 57, 3) := by decide +kernel
theorem dX2_isNearer_33 : decode cX2_isNearer 33 = .ok (.imul, 1) := by decide +kernel
theorem dX2_isNearer_34 : decode cX2_isNearer 34 = .ok (.if_icmp .le 7, 3) := by decide +kernel
theorem dX2_isNearer_37 : decode cX2_isNearer 37 = .ok (.iconst 1, 1) := by decide +kernel
theorem dX2_isNearer_38 : decode cX2_isNearer 38 = .ok (.goto 4, 3) := by decide +kernel
theorem dX2_isNearer_41 : decode cX2_isNearer 41 = .ok (.iconst 0, 1) := by decide +kernel
theorem dX2_isNearer_42 : decode cX2_isNearer 42 = .ok (.ireturn, 1) := by decide +kernel
theorem dX3_init_0 : decode cX3_init 0 = .ok (.aload_n 0, 1) := by decide +kernel
theorem dX3_init_1 : decode cX3_init 1 = .ok (.invokespecial 3, 3) := by decide +kernel
theorem dX3_init_4 : decode cX3_init 4 = .ok (.aload_n 0, 1) := by decide +kernel
theorem dX3_init_5 : decode cX3_init 5 = .ok (.sipush 1128, 3) := by decide +kernel
theorem dX3_init_8 : decode cX3_init 8 = .ok (.newarray .int, 2) := by decide +kernel
theorem dX3_init_10 : decode cX3_init 10 = .ok (.putfield 9, 3) := by decide +kernel
theorem dX3_init_13 : decode cX3_init 13 = .ok (.aload_n 0, 1) := by decide +kernel
theorem dX3_init_14 : decode cX3_init 14 = .ok (.sipush 1128, 3) := by decide +kernel
theorem dX3_init_17 : decode cX3_init 17 = .ok (.newarray .int, 2) := by decide +kernel
theorem dX3_init_19 : decode cX3_init 19 = .ok (.putfield 15, 3) := by decide +kernel
theorem dX3_init_22 : decode cX3_init 22 = .ok (.return_, 1) := by decide +kernel
theorem dX3_put_0 : decode cX3_put 0 = .ok (.aload_n 0, 1) := by decide +kernel
theorem dX3_put_1 : decode cX3_put 1 = .ok (.getfield 18, 3) := by decide +kernel
theorem dX3_put_4 : decode cX3_put 4 = .ok (.sipush 1128, 3) := by decide +kernel
theorem dX3_put_7 : decode cX3_put 7 = .ok (.if_icmp .ge 33, 3) := by decide +kernel
theorem dX3_put_10 : decode cX3_put 10 = .ok (.aload_n 0, 1) := by decide +kernel
theorem dX3_put_11 : decode cX3_put 11 = .ok (.getfield 9, 3) := by decide +kernel
theorem dX3_put_14 : decode cX3_put 14 = .ok (.aload_n 0, 1) := by decide +kernel
theorem dX3_put_15 : decode cX3_put 15 = .ok (.getfield 18, 3) := by decide +kernel
theorem dX3_put_18 : decode cX3_put 18 = .ok (.iload_n 1, 1) := by decide +kernel
theorem dX3_put_19 : decode cX3_put 19 = .ok (.iastore, 1) := by decide +kernel
theorem dX3_put_20 : decode cX3_put 20 = .ok (.aload_n 0, 1) := by decide +kernel
theorem dX3_put_21 : decode cX3_put 21 = .ok (.getfield 15, 3) := by decide +kernel
theorem dX3_put_24 : decode cX3_put 24 = .ok (.aload_n 0, 1) := by decide +kernel
theorem dX3_put_25 : decode cX3_put 25 = .ok (.getfield 18, 3) := by decide +kernel
theorem dX3_put_28 : decode cX3_put 28 = .ok (.iload_n 2, 1) := by decide +kernel
theorem dX3_put_29 : decode cX3_put 29 = .ok (.iastore, 1) := by decide +kernel
theorem dX3_put_30 : decode cX3_put 30 = .ok (.aload_n 0, 1) := by decide +kernel
theorem dX3_put_31 : decode cX3_put 31 = .ok (.dup, 1) := by decide +kernel
theorem dX3_put_32 : decode cX3_put 32 = .ok (.getfield 18, 3) := by decide +kernel
theorem dX3_put_35 : decode cX3_put 35 = .ok (.iconst 1, 1) := by decide +kernel
theorem dX3_put_36 : decode cX3_put 36 = .ok (.iadd, 1) := by decide +kernel
theorem dX3_put_37 : decode cX3_put 37 = .ok (.putfield 18, 3) := by decide +kernel
theorem dX3_put_40 : decode cX3_put 40 = .ok (.return_, 1) := by decide +kernel
theorem dX3_side_0 : decode cX3_side 0 = .ok (.iload_n 1, 1) := by decide +kernel
theorem dX3_side_1 : decode cX3_side 1 = .ok (.ifCond .lt 20, 3) := by decide +kernel
theorem dX3_side_4 : decode cX3_side 4 = .ok (.iload_n 1, 1) := by decide +kernel
theorem dX3_side_5 : decode cX3_side 5 = .ok (.aload_n 0, 1) := by decide +kernel
theorem dX3_side_6 : decode cX3_side 6 = .ok (.getfield 18, 3) := by decide +kernel
theorem dX3_side_9 : decode cX3_side 9 = .ok (.if_icmp .ge 12, 3) := by decide +kernel
theorem dX3_side_12 : decode cX3_side 12 = .ok (.iload_n 2, 1) := by decide +kernel
theorem dX3_side_13 : decode cX3_side 13 = .ok (.ifCond .lt 8, 3) := by decide +kernel
theorem dX3_side_16 : decode cX3_side 16 = .ok (.iload_n 2, 1) := by decide +kernel
theorem dX3_side_17 : decode cX3_side 17 = .ok (.iconst 1, 1) := by decide +kernel
theorem dX3_side_18 : decode cX3_side 18 = .ok (.if_icmp .le 5, 3) := by decide +kernel
theorem dX3_side_21 : decode cX3_side 21 = .ok (.iconst (-1), 1) := by decide +kernel
theorem dX3_side_22 : decode cX3_side 22 = .ok (.ireturn, 1) := by decide +kernel
theorem dX3_side_23 : decode cX3_side 23 = .ok (.iload_n 2, 1) := by decide +kernel
theorem dX3_side_24 : decode cX3_side 24 = .ok (.ifCond .ne 12, 3) := by decide +kernel
theorem dX3_side_27 : decode cX3_side 27 = .ok (.aload_n 0, 1) := by decide +kernel
theorem dX3_side_28 : decode cX3_side 28 = .ok (.getfield 9, 3) := by decide +kernel
theorem dX3_side_31 : decode cX3_side 31 = .ok (.iload_n 1, 1) := by decide +kernel
theorem dX3_side_32 : decode cX3_side 32 = .ok (.iaload, 1) := by decide +kernel
theorem dX3_side_33 : decode cX3_side 33 = .ok (.goto 9, 3) := by decide +kernel
theorem dX3_side_36 : decode cX3_side 36 = .ok (.aload_n 0, 1) := by decide +kernel
theorem dX3_side_37 : decode cX3_side 37 = .ok (.getfield 15, 3) := by decide +kernel
theorem dX3_side_40 : decode cX3_side 40 = .ok (.iload_n 1, 1) := by decide +kernel
theorem dX3_side_41 : decode cX3_side 41 = .ok (.iaload, 1) := by decide +kernel
theorem dX3_side_42 : decode cX3_side 42 = .ok (.ireturn, 1) := by decide +kernel
theorem dX4_init_0 : decode cX4_init 0 = .ok (.aload_n 0, 1) := by decide +kernel
theorem dX4_init_1 : decode cX4_init 1 = .ok (.invokespecial 3, 3) := by decide +kernel
theorem dX4_init_4 : decode cX4_init 4 = .ok (.aload_n 0, 1) := by decide +kernel
theorem dX4_init_5 : decode cX4_init 5 = .ok (.bipush 64, 2) := by decide +kernel
theorem dX4_init_7 : decode cX4_init 7 = .ok (.newarray .int, 2) := by decide +kernel
theorem dX4_init_9 : decode cX4_init 9 = .ok (.putfield 9, 3) := by decide +kernel
theorem dX4_init_12 : decode cX4_init 12 = .ok (.aload_n 0, 1) := by decide +kernel
theorem dX4_init_13 : decode cX4_init 13 = .ok (.bipush 64, 2) := by decide +kernel
theorem dX4_init_15 : decode cX4_init 15 = .ok (.newarray .int, 2) := by decide +kernel
theorem dX4_init_17 : decode cX4_init 17 = .ok (.putfield 15, 3) := by decide +kernel
theorem dX4_init_20 : decode cX4_init 20 = .ok (.aload_n 0, 1) := by decide +kernel
theorem dX4_init_21 : decode cX4_init 21 = .ok (.bipush 64, 2) := by decide +kernel
theorem dX4_init_23 : decode cX4_init 23 = .ok (.newarray .int, 2) := by decide +kernel
theorem dX4_init_25 : decode cX4_init 25 = .ok (.putfield 18, 3) := by decide +kernel
theorem dX4_init_28 : decode cX4_init 28 = .ok (.aload_n 0, 1) := by decide +kernel
theorem dX4_init_29 : decode cX4_init 29 = .ok (.sipush 600, 3) := by decide +kernel
theorem dX4_init_32 : decode cX4_init 32 = .ok (.newarray .int, 2) := by decide +kernel
theorem dX4_init_34 : decode cX4_init 34 = .ok (.putfield 21, 3) := by decide +kernel
theorem dX4_init_37 : decode cX4_init 37 = .ok (.aload_n 0, 1) := by decide +kernel
theorem dX4_init_38 : decode cX4_init 38 = .ok (.sipush 600, 3) := by decide +kernel
theorem dX4_init_41 : decode cX4_init 41 = .ok (.newarray .int, 2) := by decide +kernel
theorem dX4_init_43 : decode cX4_init 43 = .ok (.putfield 24, 3) := by decide +kernel
theorem dX4_init_46 : decode cX4_init 46 = .ok (.iconst 0, 1) := by decide +kernel
theorem dX4_init_47 : decode cX4_init 47 = .ok (.istore_n 1, 1) := by decide +kernel
theorem dX4_init_48 : decode cX4_init 48 = .ok (.iload_n 1, 1) := by decide +kernel
theorem dX4_init_49 : decode cX4_init 49 = .ok (.bipush 64, 2) := by decide +kernel
theorem dX4_init_51 : decode cX4_init 51 = .ok (.if_icmp .ge 16, 3) := by decide +kernel
theorem dX4_init_54 : decode cX4_init 54 = .ok (.aload_n 0, 1) := by decide +kernel
theorem dX4_init_55 : decode cX4_init 55 = .ok (.getfield 9, 3) := by decide +kernel
theorem dX4_init_58 : decode cX4_init 58 = .ok (.iload_n 1, 1) := by decide +kernel
theorem dX4_init_59 : decode cX4_init 59 = .ok (.iconst 1, 1) := by decide +kernel
theorem dX4_init_60 : decode cX4_init 60 = .ok (.iastore, 1) := by decide +kernel
theorem dX4_init_61 : decode cX4_init 61 = .ok (.iinc 1 1, 3) := by decide +kernel
theorem dX4_init_64 : decode cX4_init 64 = .ok (.goto (-16), 3) := by decide +kernel
theorem dX4_init_67 : decode cX4_init 67 = .ok (.return_, 1) := by decide +kernel
theorem dX4_isOne_0 : decode cX4_isOne 0 = .ok (.iload_n 0, 1) := by decide +kernel
theorem dX4_isOne_1 : decode cX4_isOne 1 = .ok (.ifCond .lt 13, 3) := by decide +kernel
theorem dX4_isOne_4 : decode cX4_isOne 4 = .ok (.iload_n 0, 1) := by decide +kernel
theorem dX4_isOne_5 : decode cX4_isOne 5 = .ok (.bipush 64, 2) := by decide +kernel
theorem dX4_isOne_7 : decode cX4_isOne 7 = .ok (.if_icmp .ge 7, 3) := by decide +kernel
theorem dX4_isOne_10 : decode cX4_isOne 10 = .ok (.iconst 1, 1) := by decide +kernel
theorem dX4_isOne_11 : decode cX4_isOne 11 = .ok (.goto 4, 3) := by decide +kernel
theorem dX4_isOne_14 : decode cX4_isOne 14 = .ok (.iconst 0, 1) := by decide +kernel
theorem dX4_isOne_15 : decode cX4_isOne 15 = .ok (.ireturn, 1) := by decide +kernel
theorem dX4_isNumber_0 : decode cX4_isNumber 0 = .ok (.iload_n 0, 1) := by decide +kernel
theorem dX4_isNumber_1 : decode cX4_isNumber 1 = .ok (.ifCond .lt 13, 3) := by decide +kernel
theorem dX4_isNumber_4 : decode cX4_isNumber 4 = .ok (.iload_n 0, 1) := by decide +kernel
theorem dX4_isNumber_5 : decode cX4_isNumber 5 = .ok (.ldc 27, 2) := by decide +kernel
theorem dX4_isNumber_7 : decode cX4_isNumber 7 = .ok (.if_icmp .ge 7, 3) := by decide +kernel
theorem dX4_isNumber_10 : decode cX4_isNumber 10 = .ok (.iconst 1, 1) := by decide +kernel
theorem dX4_isNumber_11 : decode cX4_isNumber 11 = .ok (.goto 4, 3) := by decide +kernel
theorem dX4_isNumber_14 : decode cX4_isNumber 14 = .ok (.iconst 0, 1) := by decide +kernel
theorem dX4_isNumber_15 : decode cX4_isNumber 15 = .ok (.ireturn, 1) := by decide +kernel
theorem dX4_become_0 : decode cX4_become 0 = .ok (.iload_n 1, 1) := by decide +kernel
theorem dX4_become_1 : decode cX4_become 1 = .ok (.invokestatic 28, 3) := by decide +kernel
theorem dX4_become_4 : decode cX4_become 4 = .ok (.ifCond .eq 21, 3) := by decide +kernel
theorem dX4_become_7 : decode cX4_become 7 = .ok (.iload_n 2, 1) := by decide +kernel
theorem dX4_become_8 : decode cX4_become 8 = .ok (.invokestatic 32, 3) := by decide +kernel
theorem dX4_become_11 : decode cX4_become 11 = .ok (.ifCond .eq 14, 3) := by decide +kernel
theorem dX4_become_14 : decode cX4_become 14 = .ok (.iload_n 2, 1) := by decide +kernel
theorem dX4_become_15 : decode cX4_become 15 = .ok (.ifCond .eq 10, 3) := by decide +kernel
theorem dX4_become_18 : decode cX4_become 18 = .ok (.iload_n 3, 1) := by decide +kernel
theorem dX4_become_19 : decode cX4_become 19 = .ok (.invokestatic 32, 3) := by decide +kernel
theorem dX4_become_22 : decode cX4_become 22 = .ok (.ifCond .ne 5, 3) := by decide +kernel
theorem dX4_become_25 : decode cX4_become 25 = .ok (.iconst 0, 1) := by decide +kernel
theorem dX4_become_26 : decode cX4_become 26 = .ok (.ireturn, 1) := by decide +kernel
theorem dX4_become_27 : decode cX4_become 27 = .ok (.aload_n 0, 1) := by decide +kernel
theorem dX4_become_28 : decode cX4_become 28 = .ok (.getfield 9, 3) := by decide +kernel
theorem dX4_become_31 : decode cX4_become 31 = .ok (.iload_n 1, 1) := by decide +kernel
theorem dX4_become_32 : decode cX4_become 32 = .ok (.iload_n 2, 1) := by decide +kernel
theorem dX4_become_33 : decode cX4_become 33 = .ok (.iastore, 1) := by decide +kernel
theorem dX4_become_34 : decode cX4_become 34 = .ok (.aload_n 0, 1) := by decide +kernel
theorem dX4_become_35 : decode cX4_become 35 = .ok (.getfield 15, 3) := by decide +kernel
theorem dX4_become_38 : decode cX4_become 38 = .ok (.iload_n 1, 1) := by decide +kernel
theorem dX4_become_39 : decode cX4_become 39 = .ok (.iload_n 3, 1) := by decide +kernel
theorem dX4_become_40 : decode cX4_become 40 = .ok (.iastore, 1) := by decide +kernel
theorem dX4_become_41 : decode cX4_become 41 = .ok (.aload_n 0, 1) := by decide +kernel
theorem dX4_become_42 : decode cX4_become 42 = .ok (.dup, 1) := by decide +kernel
theorem dX4_become_43 : decode cX4_become 43 = .ok (.getfield 35, 3) := by decide +kernel
theorem dX4_become_46 : decode cX4_become 46 = .ok (.aload_n 0, 1) := by decide +kernel
theorem dX4_become_47 : decode cX4_become 47 = .ok (.getfield 18, 3) := by decide +kernel
theorem dX4_become_50 : decode cX4_become 50 = .ok (.iload_n 1, 1) := by decide +kernel
theorem dX4_become_51 : decode cX4_become 51 = .ok (.iaload, 1) := by decide +kernel
theorem dX4_become_52 : decode cX4_become 52 = .ok (.isub, 1) := by decide +kernel
theorem dX4_become_53 : decode cX4_become 53 = .ok (.putfield 35, 3) := by decide +kernel
theorem dX4_become_56 : decode cX4_become 56 = .ok (.aload_n 0, 1) := by decide +kernel
theorem dX4_become_57 : decode cX4_become 57 = .ok (.getfield 18, 3) := by decide +kernel
theorem dX4_become_60 : decode cX4_become 60 = .ok (.iload_n 1, 1) := by decide +kernel
theorem dX4_become_61 : decode cX4_become 61 = .ok (.iconst 0, 1) := by decide +kernel
theorem dX4_become_62 : decode cX4_become 62 = .ok (.iastore, 1) := by decide +kernel
theorem dX4_become_63 : decode cX4_become 63 = .ok (.aload_n 0, 1) := by decide +kernel
theorem dX4_become_64 : decode cX4_become 64 = .ok (.iload_n 1, 1) := by decide +kernel
theorem dX4_become_65 : decode cX4_become 65 = .ok (.invokevirtual 39, 3) := by decide +kernel
theorem dX4_become_68 : decode cX4_become 68 = .ok (.iconst 1, 1) := by decide +kernel
theorem dX4_become_69 : decode cX4_become 69 = .ok (.ireturn, 1) := by decide +kernel
theorem dX4_swap_0 : decode cX4_swap 0 = .ok (.iload_n 1, 1) := by decide +kernel
theorem dX4_swap_1 : decode cX4_swap 1 = .ok (.invokestatic 28, 3) := by decide +kernel
theorem dX4_swap_4 : decode cX4_swap 4 = .ok (.ifCond .eq 27, 3) := by decide +kernel
theorem dX4_swap_7 : decode cX4_swap 7 = .ok (.iload_n 2, 1) := by decide +kernel
theorem dX4_swap_8 : decode cX4_swap 8 = .ok (.invokestatic 32, 3) := by decide +kernel
theorem dX4_swap_11 : decode cX4_swap 11 = .ok (.ifCond .eq 20, 3) := by decide +kernel
theorem dX4_swap_14 : decode cX4_swap 14 = .ok (.iload_n 3, 1) := by decide +kernel
theorem dX4_swap_15 : decode cX4_swap 15 = .ok (.invokestatic 32, 3) := by decide +kernel
theorem dX4_swap_18 : decode cX4_swap 18 = .ok (.ifCond .eq 13, 3) := by decide +kernel
theorem dX4_swap_21 : decode cX4_swap 21 = .ok (.aload_n 0, 1) := by decide +kernel
theorem dX4_swap_22 : decode cX4_swap 22 = .ok (.getfield 35, 3) := by decide +kernel
theorem dX4_swap_25 : decode cX4_swap 25 = .ok (.sipush 300, 3) := by decide +kernel
theorem dX4_swap_28 : decode cX4_swap 28 = .ok (.if_icmp .lt 5, 3) := by decide +kernel
theorem dX4_swap_31 : decode cX4_swap 31 = .ok (.iconst 0, 1) := by decide +kernel
theorem dX4_swap_32 : decode cX4_swap 32 = .ok (.ireturn, 1) := by decide +kernel
theorem dX4_swap_33 : decode cX4_swap 33 = .ok (.aload_n 0, 1) := by decide +kernel
theorem dX4_swap_34 : decode cX4_swap 34 = .ok (.iload_n 1, 1) := by decide +kernel
theorem dX4_swap_35 : decode cX4_swap 35 = .ok (.iload_n 2, 1) := by decide +kernel
theorem dX4_swap_36 : decode cX4_swap 36 = .ok (.invokevirtual 43, 3) := by decide +kernel
theorem dX4_swap_39 : decode cX4_swap 39 = .ok (.istore 4, 2) := by decide +kernel
theorem dX4_swap_41 : decode cX4_swap 41 = .ok (.aload_n 0, 1) := by decide +kernel
theorem dX4_swap_42 : decode cX4_swap 42 = .ok (.iload_n 1, 1) := by decide +kernel
theorem dX4_swap_43 : decode cX4_swap 43 = .ok (.iload_n 3, 1) := by decide +kernel
theorem dX4_swap_44 : decode cX4_swap 44 = .ok (.invokevirtual 43, 3) := by decide +kernel
theorem dX4_swap_47 : decode cX4_swap 47 = .ok (.istore 5, 2) := by decide +kernel
theorem dX4_swap_49 : decode cX4_swap 49 = .ok (.aload_n 0, 1) := by decide +kernel
theorem dX4_swap_50 : decode cX4_swap 50 = .ok (.getfield 18, 3) := by decide +kernel
theorem dX4_swap_53 : decode cX4_swap 53 = .ok (.iload_n 1, 1) := by decide +kernel
theorem dX4_swap_54 : decode cX4_swap 54 = .ok (.dup2, 1) := by decide +kernel
theorem dX4_swap_55 : decode cX4_swap 55 = .ok (.iaload, 1) := by decide +kernel
theorem dX4_swap_56 : decode cX4_swap 56 = .ok (.iconst 1, 1) := by decide +kernel
theorem dX4_swap_57 : decode cX4_swap 57 = .ok (.iadd, 1) := by decide +kernel
theorem dX4_swap_58 : decode cX4_swap 58 = .ok (.iastore, 1) := by decide +kernel
theorem dX4_swap_59 : decode cX4_swap 59 = .ok (.aload_n 0, 1) := by decide +kernel
theorem dX4_swap_60 : decode cX4_swap 60 = .ok (.dup, 1) := by decide +kernel
theorem dX4_swap_61 : decode cX4_swap 61 = .ok (.getfield 35, 3) := by decide +kernel
theorem dX4_swap_64 : decode cX4_swap 64 = .ok (.iconst 1, 1) := by decide +kernel
theorem dX4_swap_65 : decode cX4_swap 65 = .ok (.iadd, 1) := by decide +kernel
theorem dX4_swap_66 : decode cX4_swap 66 = .ok (.putfield 35, 3) := by decide +kernel
theorem dX4_swap_69 : decode cX4_swap 69 = .ok (.aload_n 0, 1) := by decide +kernel
theorem dX4_swap_70 : decode cX4_swap 70 = .ok (.iload_n 1, 1) := by decide +kernel
theorem dX4_swap_71 : decode cX4_swap 71 = .ok (.iload_n 2, 1) := by decide +kernel
theorem dX4_swap_72 : decode cX4_swap 72 = .ok (.invokestatic 47, 3) := by decide +kernel
theorem dX4_swap_75 : decode cX4_swap 75 = .ok (.iload 5, 2) := by decide +kernel
theorem dX4_swap_77 : decode cX4_swap 77 = .ok (.invokevirtual 50, 3) := by decide +kernel
theorem dX4_swap_80 : decode cX4_swap 80 = .ok (.aload_n 0, 1) := by decide +kernel
theorem dX4_swap_81 : decode cX4_swap 81 = .ok (.iload_n 1, 1) := by decide +kernel
theorem dX4_swap_82 : decode cX4_swap 82 = .ok (.iload_n 3, 1) := by decide +kernel
theorem dX4_swap_83 : decode cX4_swap 83 = .ok (.invokestatic 47, 3) := by decide +kernel
theorem dX4_swap_86 : decode cX4_swap 86 = .ok (.iload 4, 2) := by decide +kernel
theorem dX4_swap_88 : decode cX4_swap 88 = .ok (.invokevirtual 50, 3) := by decide +kernel
theorem dX4_swap_91 : decode cX4_swap 91 = .ok (.iconst 1, 1) := by decide +kernel
theorem dX4_swap_92 : decode cX4_swap 92 = .ok (.ireturn, 1) := by decide +kernel
theorem dX4_imageOf_0 : decode cX4_imageOf 0 = .ok (.iload_n 1, 1) := by decide +kernel
theorem dX4_imageOf_1 : decode cX4_imageOf 1 = .ok (.invokestatic 28, 3) := by decide +kernel
theorem dX4_imageOf_4 : decode cX4_imageOf 4 = .ok (.ifCond .eq 10, 3) := by decide +kernel
theorem dX4_imageOf_7 : decode cX4_imageOf 7 = .ok (.iload_n 2, 1) := by decide +kernel
theorem dX4_imageOf_8 : decode cX4_imageOf 8 = .ok (.invokestatic 32, 3) := by decide +kernel
theorem dX4_imageOf_11 : decode cX4_imageOf 11 = .ok (.ifCond .ne 5, 3) := by decide +kernel
theorem dX4_imageOf_14 : decode cX4_imageOf 14 = .ok (.iconst (-1), 1) := by decide +kernel
theorem dX4_imageOf_15 : decode cX4_imageOf 15 = .ok (.ireturn, 1) := by decide +kernel
theorem dX4_imageOf_16 : decode cX4_imageOf 16 = .ok (.aload_n 0, 1) := by decide +kernel
theorem dX4_imageOf_17 : decode cX4_imageOf 17 = .ok (.getfield 18, 3) := by decide +kernel
theorem dX4_imageOf_20 : decode cX4_imageOf 20 = .ok (.iload_n 1, 1) := by decide +kernel
theorem dX4_imageOf_21 : decode cX4_imageOf 21 = .ok (.iaload, 1) := by decide +kernel
theorem dX4_imageOf_22 : decode cX4_imageOf 22 = .ok (.ifCond .le 44, 3) := by decide +kernel
theorem dX4_imageOf_25 : decode cX4_imageOf 25 = .ok (.iload_n 1, 1) := by decide +kernel
theorem dX4_imageOf_26 : decode cX4_imageOf 26 = .ok (.iload_n 2, 1) := by decide +kernel
theorem dX4_imageOf_27 : decode cX4_imageOf 27 = .ok (.invokestatic 47, 3) := by decide +kernel
theorem dX4_imageOf_30 : decode cX4_imageOf 30 = .ok (.istore_n 3, 1) := by decide +kernel
theorem dX4_imageOf_31 : decode cX4_imageOf 31 = .ok (.aload_n 0, 1) := by decide +kernel
theorem dX4_imageOf_32 : decode cX4_imageOf 32 = .ok (.iload_n 3, 1) := by decide +kernel
theorem dX4_imageOf_33 : decode cX4_imageOf 33 = .ok (.invokevirtual 54, 3) := by decide +kernel
theorem dX4_imageOf_36 : decode cX4_imageOf 36 = .ok (.istore 4, 2) := by decide +kernel
theorem dX4_imageOf_38 : decode cX4_imageOf 38 = .ok (.iload 4, 2) := by decide +kernel
theorem dX4_imageOf_40 : decode cX4_imageOf 40 = .ok (.aload_n 0, 1) := by decide +kernel
theorem dX4_imageOf_41 : decode cX4_imageOf 41 = .ok (.getfield 58, 3) := by decide +kernel
theorem dX4_imageOf_44 : decode cX4_imageOf 44 = .ok (.if_icmp .ge 22, 3) := by decide +kernel
theorem dX4_imageOf_47 : decode cX4_imageOf 47 = .ok (.aload_n 0, 1) := by decide +kernel
theorem dX4_imageOf_48 : decode cX4_imageOf 48 = .ok (.getfield 21, 3) := by decide +kernel
theorem dX4_imageOf_51 : decode cX4_imageOf 51 = .ok (.iload 4, 2) := by decide +kernel
theorem dX4_imageOf_53 : decode cX4_imageOf 53 = .ok (.iaload, 1) := by decide +kernel
theorem dX4_imageOf_54 : decode cX4_imageOf 54 = .ok (.iload_n 3, 1) := by decide +kernel
theorem dX4_imageOf_55 : decode cX4_imageOf 55 = .ok (.if_icmp .ne 11, 3) := by decide +kernel
theorem dX4_imageOf_58 : decode cX4_imageOf 58 = .ok (.aload_n 0, 1) := by decide +kernel
theorem dX4_imageOf_59 : decode cX4_imageOf 59 = .ok (.getfield 24, 3) := by decide +kernel
theorem dX4_imageOf_62 : decode cX4_imageOf 62 = .ok (.iload 4, 2) := by decide +kernel
theorem dX4_imageOf_64 : decode cX4_imageOf 64 = .ok (.iaload, 1) := by decide +kernel
theorem dX4_imageOf_65 : decode cX4_imageOf 65 = .ok (.ireturn, 1) := by decide +kernel
theorem dX4_imageOf_66 : decode cX4_imageOf 66 = .ok (.aload_n 0, 1) := by decide +kernel
theorem dX4_imageOf_67 : decode cX4_imageOf 67 = .ok (.getfield 9, 3) := by decide +kernel
theorem dX4_imageOf_70 : decode cX4_imageOf 70 = .ok (.iload_n 1, 1) := by decide +kernel
theorem dX4_imageOf_71 : decode cX4_imageOf 71 = .ok (.iaload, 1) := by decide +kernel
theorem dX4_imageOf_72 : decode cX4_imageOf 72 = .ok (.i2l, 1) := by decide +kernel
theorem dX4_imageOf_73 : decode cX4_imageOf 73 = .ok (.iload_n 2, 1) := by decide +kernel
theorem dX4_imageOf_74 : decode cX4_imageOf 74 = .ok (.i2l, 1) := by decide +kernel
theorem dX4_imageOf_75 : decode cX4_imageOf 75 = .ok (.lmul, 1) := by decide +kernel
theorem dX4_imageOf_76 : decode cX4_imageOf 76 = .ok (.aload_n 0, 1) := by decide +kernel
theorem dX4_imageOf_77 : decode cX4_imageOf 77 = .ok (.getfield 15, 3) := by decide +kernel
theorem dX4_imageOf_80 : decode cX4_imageOf 80 = .ok (.iload_n 1, 1) := by decide +kernel
theorem dX4_imageOf_81 : decode cX4_imageOf 81 = .ok (.iaload, 1) := by decide +kernel
theorem dX4_imageOf_82 : decode cX4_imageOf 82 = .ok (.i2l, 1) := by decide +kernel
theorem dX4_imageOf_83 : decode cX4_imageOf 83 = .ok (.ladd, 1) := by decide +kernel
theorem dX4_imageOf_84 : decode cX4_imageOf 84 = .ok (.ldc2_w 61, 3) := by decide +kernel
theorem dX4_imageOf_87 : decode cX4_imageOf 87 = .ok (.lrem, 1) := by decide +kernel
theorem dX4_imageOf_88 : decode cX4_imageOf 88 = .ok (.l2i, 1) := by decide +kernel
theorem dX4_imageOf_89 : decode cX4_imageOf 89 = .ok (.ireturn, 1) := by decide +kernel
theorem dX4_leastOf_0 : decode cX4_leastOf 0 = .ok (.ldc 27, 2) := by decide +kernel
theorem dX4_leastOf_2 : decode cX4_leastOf 2 = .ok (.istore_n 3, 1) := by decide +kernel
theorem dX4_leastOf_3 : decode cX4_leastOf 3 = .ok (.iconst 0, 1) := by decide +kernel
theorem dX4_leastOf_4 : decode cX4_leastOf 4 = .ok (.istore 4, 2) := by decide +kernel
theorem dX4_leastOf_6 : decode cX4_leastOf 6 = .ok (.iload 4, 2) := by decide +kernel
theorem dX4_leastOf_8 : decode cX4_leastOf 8 = .ok (.aload_n 1, 1) := by decide +kernel
theorem dX4_leastOf_9 : decode cX4_leastOf 9 = .ok (.getfield 63, 3) := by decide +kernel
theorem dX4_leastOf_12 : decode cX4_leastOf 12 = .ok (.if_icmp .ge 26, 3) := by decide +kernel
theorem dX4_leastOf_15 : decode cX4_leastOf 15 = .ok (.iload_n 3, 1) := by decide +kernel
theorem dX4_leastOf_16 : decode cX4_leastOf 16 = .ok (.aload_n 0, 1) := by decide +kernel
theorem dX4_leastOf_17 : decode cX4_leastOf 17 = .ok (.iload_n 2, 1) := by decide +kernel
theorem dX4_leastOf_18 : decode cX4_leastOf 18 = .ok (.aload_n 1, 1) := by decide +kernel
theorem dX4_leastOf_19 : decode cX4_leastOf 19 = .ok (.getfield 68, 3) := by decide +kernel
theorem dX4_leastOf_22 : decode cX4_leastOf 22 = .ok (.iload 4, 2) := by decide +kernel
theorem dX4_leastOf_24 : decode cX4_leastOf 24 = .ok (.iaload, 1) := by decide +kernel
theorem dX4_leastOf_25 : decode cX4_leastOf 25 = .ok (.invokevirtual 43, 3) := by decide +kernel
theorem dX4_leastOf_28 : decode cX4_leastOf 28 = .ok (.invokestatic 71, 3) := by decide +kernel
theorem dX4_leastOf_31 : decode cX4_leastOf 31 = .ok (.istore_n 3, 1) := by decide +kernel
theorem dX4_leastOf_32 : decode cX4_leastOf 32 = .ok (.iinc 4 1, 3) := by decide +kernel
theorem dX4_leastOf_35 : decode cX4_leastOf 35 = .ok (.goto (-29), 3) := by decide +kernel
theorem dX4_leastOf_38 : decode cX4_leastOf 38 = .ok (.iload_n 3, 1) := by decide +kernel
theorem dX4_leastOf_39 : decode cX4_leastOf 39 = .ok (.ireturn, 1) := by decide +kernel
theorem dX4_keyOf_0 : decode cX4_keyOf 0 = .ok (.iload_n 0, 1) := by decide +kernel
theorem dX4_keyOf_1 : decode cX4_keyOf 1 = .ok (.bipush 16, 2) := by decide +kernel
theorem dX4_keyOf_3 : decode cX4_keyOf 3 = .ok (.ishl, 1) := by decide +kernel
theorem dX4_keyOf_4 : decode cX4_keyOf 4 = .ok (.iload_n 1, 1) := by decide +kernel
theorem dX4_keyOf_5 : decode cX4_keyOf 5 = .ok (.ior, 1) := by decide +kernel
theorem dX4_keyOf_6 : decode cX4_keyOf 6 = .ok (.ireturn, 1) := by decide +kernel
theorem dX4_placeFor_0 : decode cX4_placeFor 0 = .ok (.iconst 0, 1) := by decide +kernel
theorem dX4_placeFor_1 : decode cX4_placeFor 1 = .ok (.istore_n 2, 1) := by decide +kernel
theorem dX4_placeFor_2 : decode cX4_placeFor 2 = .ok (.sipush 512, 3) := by decide +kernel
theorem dX4_placeFor_5 : decode cX4_placeFor 5 = .ok (.istore_n 3, 1) := by decide +kernel
theorem dX4_placeFor_6 : decode cX4_placeFor 6 = .ok (.iload_n 3, 1) := by decide +kernel
theorem dX4_placeFor_7 : decode cX4_placeFor 7 = .ok (.ifCond .le 38, 3) := by decide +kernel
theorem dX4_placeFor_10 : decode cX4_placeFor 10 = .ok (.iload_n 2, 1) := by decide +kernel
theorem dX4_placeFor_11 : decode cX4_placeFor 11 = .ok (.iload_n 3, 1) := by decide +kernel
theorem dX4_placeFor_12 : decode cX4_placeFor 12 = .ok (.iadd, 1) := by decide +kernel
theorem dX4_placeFor_13 : decode cX4_placeFor 13 = .ok (.aload_n 0, 1) := by decide +kernel
theorem dX4_placeFor_14 : decode cX4_placeFor 14 = .ok (.getfield 58, 3) := by decide +kernel
theorem dX4_placeFor_17 : decode cX4_placeFor 17 = .ok (.if_icmp .gt 21, 3) := by decide +kernel
theorem dX4_placeFor_20 : decode cX4_placeFor 20 = .ok (.aload_n 0, 1) := by decide +kernel
theorem dX4_placeFor_21 : decode cX4_placeFor 21 = .ok (.getfield 21, 3) := by decide +kernel
theorem dX4_placeFor_24 : decode cX4_placeFor 24 = .ok (.iload_n 2, 1) := by decide +kernel
theorem dX4_placeFor_25 : decode cX4_placeFor 25 = .ok (.iload_n 3, 1) := by decide +kernel
theorem dX4_placeFor_26 : decode cX4_placeFor 26 = .ok (.iadd, 1) := by decide +kernel
theorem dX4_placeFor_27 : decode cX4_placeFor 27 = .ok (.iconst 1, 1) := by decide +kernel
theorem dX4_placeFor_28 : decode cX4_placeFor 28 = .ok (.isub, 1) := by decide +kernel
theorem dX4_placeFor_29 : decode cX4_placeFor 29 = .ok (.iaload, 1) := by decide +kernel
theorem dX4_placeFor_30 : decode cX4_placeFor 30 = .ok (.iload_n 1, 1) := by decide +kernel
theorem dX4_placeFor_31 : decode cX4_placeFor 31 = .ok (.if_icmp .ge 7, 3) := by decide +kernel
theorem dX4_placeFor_34 : decode cX4_placeFor 34 = .ok (.iload_n 2, 1) := by decide +kernel
theorem dX4_placeFor_35 : decode cX4_placeFor 35 = .ok (.iload_n 3, 1) := by decide +kernel
theorem dX4_placeFor_36 : decode cX4_placeFor 36 = .ok (.iadd, 1) := by decide +kernel
theorem dX4_placeFor_37 : decode cX4_placeFor 37 = .ok (.istore_n 2, 1) := by decide +kernel
theorem dX4_placeFor_38 : decode cX4_placeFor 38 = .ok (.iload_n 3, 1) := by decide +kernel
theorem dX4_placeFor_39 : decode cX4_placeFor 39 = .ok (.iconst 2, 1) := by decide +kernel
theorem dX4_placeFor_40 : decode cX4_placeFor 40 = .ok (.idiv, 1) := by decide +kernel
theorem dX4_placeFor_41 : decode cX4_placeFor 41 = .ok (.istore_n 3, 1) := by decide +kernel
theorem dX4_placeFor_42 : decode cX4_placeFor 42 = .ok (.goto (-36), 3) := by decide +kernel
theorem dX4_placeFor_45 : decode cX4_placeFor 45 = .ok (.iload_n 2, 1) := by decide +kernel
theorem dX4_placeFor_46 : decode cX4_placeFor 46 = .ok (.ireturn, 1) := by decide +kernel
theorem dX4_move_0 : decode cX4_move 0 = .ok (.aload_n 0, 1) := by decide +kernel
theorem dX4_move_1 : decode cX4_move 1 = .ok (.iload_n 1, 1) := by decide +kernel
theorem dX4_move_2 : decode cX4_move 2 = .ok (.invokevirtual 54, 3) := by decide +kernel
theorem dX4_move_5 : decode cX4_move 5 = .ok (.istore_n 3, 1) := by decide +kernel
theorem dX4_move_6 : decode cX4_move 6 = .ok (.iload_n 3, 1) := by decide +kernel
theorem dX4_move_7 : decode cX4_move 7 = .ok (.aload_n 0, 1) := by decide +kernel
theorem dX4_move_8 : decode cX4_move 8 = .ok (.getfield 58, 3) := by decide +kernel
theorem dX4_move_11 : decode cX4_move 11 = .ok (.if_icmp .ge 23, 3) := by decide +kernel
theorem dX4_move_14 : decode cX4_move 14 = .ok (.aload_n 0, 1) := by decide +kernel
theorem dX4_move_15 : decode cX4_move 15 = .ok (.getfield 21, 3) := by decide +kernel
theorem dX4_move_18 : decode cX4_move 18 = .ok (.iload_n 3, 1) := by decide +kernel
theorem dX4_move_19 : decode cX4_move 19 = .ok (.iaload, 1) := by decide +kernel
theorem dX4_move_20 : decode cX4_move 20 = .ok (.iload_n 1, 1) := by decide +kernel
theorem dX4_move_21 : decode cX4_move 21 = .ok (.if_icmp .ne 13, 3) := by decide +kernel
theorem dX4_move_24 : decode cX4_move 24 = .ok (.aload_n 0, 1) := by decide +kernel
theorem dX4_move_25 : decode cX4_move 25 = .ok (.getfield 24, 3) := by decide +kernel
theorem dX4_move_28 : decode cX4_move 28 = .ok (.iload_n 3, 1) := by decide +kernel
theorem dX4_move_29 : decode cX4_move 29 = .ok (.iload_n 2, 1) := by decide +kernel
theorem dX4_move_30 : decode cX4_move 30 = .ok (.iastore, 1) := by decide +kernel
theorem dX4_move_31 : decode cX4_move 31 = .ok (.goto 89, 3) := by decide +kernel
theorem dX4_move_34 : decode cX4_move 34 = .ok (.aload_n 0, 1) := by decide +kernel
theorem dX4_move_35 : decode cX4_move 35 = .ok (.getfield 58, 3) := by decide +kernel
theorem dX4_move_38 : decode cX4_move 38 = .ok (.aload_n 0, 1) := by decide +kernel
theorem dX4_move_39 : decode cX4_move 39 = .ok (.getfield 21, 3) := by decide +kernel
theorem dX4_move_42 : decode cX4_move 42 = .ok (.arraylength, 1) := by decide +kernel
theorem dX4_move_43 : decode cX4_move 43 = .ok (.if_icmp .ge 77, 3) := by decide +kernel
theorem dX4_move_46 : decode cX4_move 46 = .ok (.aload_n 0, 1) := by decide +kernel
theorem dX4_move_47 : decode cX4_move 47 = .ok (.getfield 58, 3) := by decide +kernel
theorem dX4_move_50 : decode cX4_move 50 = .ok (.istore 4, 2) := by decide +kernel
theorem dX4_move_52 : decode cX4_move 52 = .ok (.iload 4, 2) := by decide +kernel
theorem dX4_move_54 : decode cX4_move 54 = .ok (.iload_n 3, 1) := by decide +kernel
theorem dX4_move_55 : decode cX4_move 55 = .ok (.if_icmp .le 41, 3) := by decide +kernel
theorem dX4_move_58 : decode cX4_move 58 = .ok (.aload_n 0, 1) := by decide +kernel
theorem dX4_move_59 : decode cX4_move 59 = .ok (.getfield 21, 3) := by decide +kernel
theorem dX4_move_62 : decode cX4_move 62 = .ok (.iload 4, 2) := by decide +kernel
theorem dX4_move_64 : decode cX4_move 64 = .ok (.aload_n 0, 1) := by decide +kernel
theorem dX4_move_65 : decode cX4_move 65 = .ok (.getfield 21, 3) := by decide +kernel
theorem dX4_move_68 : decode cX4_move 68 = .ok (.iload 4, 2) := by decide +kernel
theorem dX4_move_70 : decode cX4_move 70 = .ok (.iconst 1, 1) := by decide +kernel
theorem dX4_move_71 : decode cX4_move 71 = .ok (.isub, 1) := by decide +kernel
theorem dX4_move_72 : decode cX4_move 72 = .ok (.iaload, 1) := by decide +kernel
theorem dX4_move_73 : decode cX4_move 73 = .ok (.iastore, 1) := by decide +kernel
theorem dX4_move_74 : decode cX4_move 74 = .ok (.aload_n 0, 1) := by decide +kernel
theorem dX4_move_75 : decode cX4_move 75 = .ok (.getfield 24, 3) := by decide +kernel
theorem dX4_move_78 : decode cX4_move 78 = .ok (.iload 4, 2) := by decide +kernel
theorem dX4_move_80 : decode cX4_move 80 = .ok (.aload_n 0, 1) := by decide +kernel
theorem dX4_move_81 : decode cX4_move 81 = .ok (.getfield 24, 3) := by decide +kernel
theorem dX4_move_84 : decode cX4_move 84 = .ok (.iload 4, 2) := by decide +kernel
theorem dX4_move_86 : decode cX4_move 86 = .ok (.iconst 1, 1) := by decide +kernel
theorem dX4_move_87 : decode cX4_move 87 = .ok (.isub, 1) := by decide +kernel
theorem dX4_move_88 : decode cX4_move 88 = .ok (.iaload, 1) := by decide +kernel
theorem dX4_move_89 : decode cX4_move 89 = .ok (.iastore, 1) := by decide +kernel
theorem dX4_move_90 : decode cX4_move 90 = .ok (.iinc 4 (-1), 3) := by decide +kernel
theorem dX4_move_93 : decode cX4_move 93 = .ok (.goto (-41), 3) := by decide +kernel
theorem dX4_move_96 : decode cX4_move 96 = .ok (.aload_n 0, 1) := by decide +kernel
theorem dX4_move_97 : decode cX4_move 97 = .ok (.getfield 21, 3) := by decide +kernel
theorem dX4_move_100 : decode cX4_move 100 = .ok (.iload_n 3, 1) := by decide +kernel
theorem dX4_move_101 : decode cX4_move 101 = .ok (.iload_n 1, 1) := by decide +kernel
theorem dX4_move_102 : decode cX4_move 102 = .ok (.iastore, 1) := by decide +kernel
theorem dX4_move_103 : decode cX4_move 103 = .ok (.aload_n 0, 1) := by decide +kernel
theorem dX4_move_104 : decode cX4_move 104 = .ok (.getfield 24, 3) := by decide +kernel
theorem dX4_move_107 : decode cX4_move 107 = .ok (.iload_n 3, 1) := by decide +kernel
theorem dX4_move_108 : decode cX4_move 108 = .ok (.iload_n 2, 1) := by decide +kernel
theorem dX4_move_109 : decode cX4_move 109 = .ok (.iastore, 1) := by decide +kernel
theorem dX4_move_110 : decode cX4_move 110 = .ok (.aload_n 0, 1) := by decide +kernel
theorem dX4_move_111 : decode cX4_move 111 = .ok (.dup, 1) := by decide +kernel
theorem dX4_move_112 : decode cX4_move 112 = .ok (.getfield 58, 3) := by decide +kernel
theorem dX4_move_115 : decode cX4_move 115 = .ok (.iconst 1, 1) := by decide +kernel
theorem dX4_move_116 : decode cX4_move 116 = .ok (.iadd, 1) := by decide +kernel
theorem dX4_move_117 : decode cX4_move 117 = .ok (.putfield 58, 3) := by decide +kernel
theorem dX4_move_120 : decode cX4_move 120 = .ok (.return_, 1) := by decide +kernel
theorem dX4_dropMoved_0 : decode cX4_dropMoved 0 = .ok (.iconst 0, 1) := by decide +kernel
theorem dX4_dropMoved_1 : decode cX4_dropMoved 1 = .ok (.istore_n 2, 1) := by decide +kernel
theorem dX4_dropMoved_2 : decode cX4_dropMoved 2 = .ok (.iconst 0, 1) := by decide +kernel
theorem dX4_dropMoved_3 : decode cX4_dropMoved 3 = .ok (.istore_n 3, 1) := by decide +kernel
theorem dX4_dropMoved_4 : decode cX4_dropMoved 4 = .ok (.iload_n 3, 1) := by decide +kernel
theorem dX4_dropMoved_5 : decode cX4_dropMoved 5 = .ok (.aload_n 0, 1) := by decide +kernel
theorem dX4_dropMoved_6 : decode cX4_dropMoved 6 = .ok (.getfield 58, 3) := by decide +kernel
theorem dX4_dropMoved_9 : decode cX4_dropMoved 9 = .ok (.if_icmp .ge 49, 3) := by decide +kernel
theorem dX4_dropMoved_12 : decode cX4_dropMoved 12 = .ok (.aload_n 0, 1) := by decide +kernel
theorem dX4_dropMoved_13 : decode cX4_dropMoved 13 = .ok (.getfield 21, 3) := by decide +kernel
theorem dX4_dropMoved_16 : decode cX4_dropMoved 16 = .ok (.iload_n 3, 1) := by decide +kernel
theorem dX4_dropMoved_17 : decode cX4_dropMoved 17 = .ok (.iaload, 1) := by decide +kernel
theorem dX4_dropMoved_18 : decode cX4_dropMoved 18 = .ok (.bipush 16, 2) := by decide +kernel
theorem dX4_dropMoved_20 : decode cX4_dropMoved 20 = .ok (.ishr, 1) := by decide +kernel
theorem dX4_dropMoved_21 : decode cX4_dropMoved 21 = .ok (.iload_n 1, 1) := by decide +kernel
theorem dX4_dropMoved_22 : decode cX4_dropMoved 22 = .ok (.if_icmp .eq 30, 3) := by decide +kernel
theorem dX4_dropMoved_25 : decode cX4_dropMoved 25 = .ok (.aload_n 0, 1) := by decide +kernel
theorem dX4_dropMoved_26 : decode cX4_dropMoved 26 = .ok (.getfield 21, 3) := by decide +kernel
theorem dX4_dropMoved_29 : decode cX4_dropMoved 29 = .ok (.iload_n 2, 1) := by decide +kernel
theorem dX4_dropMoved_30 : decode cX4_dropMoved 30 = .ok (.aload_n 0, 1) := by decide +kernel
theorem dX4_dropMoved_31 : decode cX4_dropMoved 31 = .ok (.getfield 21, 3) := by decide +kernel
theorem dX4_dropMoved_34 : decode cX4_dropMoved 34 = .ok (.iload_n 3, 1) := by decide +kernel
theorem dX4_dropMoved_35 : decode cX4_dropMoved 35 = .ok (.iaload, 1) := by decide +kernel
theorem dX4_dropMoved_36 : decode cX4_dropMoved 36 = .ok (.iastore, 1) := by decide +kernel
theorem dX4_dropMoved_37 : decode cX4_dropMoved 37 = .ok (.aload_n 0, 1) := by decide +kernel
theorem dX4_dropMoved_38 : decode cX4_dropMoved 38 = .ok (.getfield 24, 3) := by decide +kernel
theorem dX4_dropMoved_41 : decode cX4_dropMoved 41 = .ok (.iload_n 2, 1) := by decide +kernel
theorem dX4_dropMoved_42 : decode cX4_dropMoved 42 = .ok (.aload_n 0, 1) := by decide +kernel
theorem dX4_dropMoved_43 : decode cX4_dropMoved 43 = .ok (.getfield 24, 3) := by decide +kernel
theorem dX4_dropMoved_46 : decode cX4_dropMoved 46 = .ok (.iload_n 3, 1) := by decide +kernel
theorem dX4_dropMoved_47 : decode cX4_dropMoved 47 = .ok (.iaload, 1) := by decide +kernel
theorem dX4_dropMoved_48 : decode cX4_dropMoved 48 = .ok (.iastore, 1) := by decide +kernel
theorem dX4_dropMoved_49 : decode cX4_dropMoved 49 = .ok (.iinc 2 1, 3) := by decide +kernel
theorem dX4_dropMoved_52 : decode cX4_dropMoved 52 = .ok (.iinc 3 1, 3) := by decide +kernel
theorem dX4_dropMoved_55 : decode cX4_dropMoved 55 = .ok (.goto (-51), 3) := by decide +kernel
theorem dX4_dropMoved_58 : decode cX4_dropMoved 58 = .ok (.aload_n 0, 1) := by decide +kernel
theorem dX4_dropMoved_59 : decode cX4_dropMoved 59 = .ok (.iload_n 2, 1) := by decide +kernel
theorem dX4_dropMoved_60 : decode cX4_dropMoved 60 = .ok (.putfield 58, 3) := by decide +kernel
theorem dX4_dropMoved_63 : decode cX4_dropMoved 63 = .ok (.return_, 1) := by decide +kernel
theorem dX5_init_0 : decode cX5_init 0 = .ok (.aload_n 0, 1) := by decide +kernel
theorem dX5_init_1 : decode cX5_init 1 = .ok (.invokespecial 3, 3) := by decide +kernel
theorem dX5_init_4 : decode cX5_init 4 = .ok (.aload_n 0, 1) := by decide +kernel
theorem dX5_init_5 : decode cX5_init 5 = .ok (.new 9, 3) := by decide +kernel
theorem dX5_init_8 : decode cX5_init 8 = .ok (.dup, 1) := by decide +kernel
theorem dX5_init_9 : decode cX5_init 9 = .ok (.invokespecial 11, 3) := by decide +kernel
theorem dX5_init_12 : decode cX5_init 12 = .ok (.putfield 12, 3) := by decide +kernel
theorem dX5_init_15 : decode cX5_init 15 = .ok (.aload_n 0, 1) := by decide +kernel
theorem dX5_init_16 : decode cX5_init 16 = .ok (.new 9, 3) := by decide +kernel
theorem dX5_init_19 : decode cX5_init 19 = .ok (.dup, 1) := by decide +kernel
theorem dX5_init_20 : decode cX5_init 20 = .ok (.invokespecial 11, 3) := by decide +kernel
theorem dX5_init_23 : decode cX5_init 23 = .ok (.putfield 18, 3) := by decide +kernel
theorem dX5_init_26 : decode cX5_init 26 = .ok (.aload_n 0, 1) := by decide +kernel
theorem dX5_init_27 : decode cX5_init 27 = .ok (.new 9, 3) := by decide +kernel
theorem dX5_init_30 : decode cX5_init 30 = .ok (.dup, 1) := by decide +kernel
theorem dX5_init_31 : decode cX5_init 31 = .ok (.invokespecial 11, 3) := by decide +kernel
theorem dX5_init_34 : decode cX5_init 34 = .ok (.putfield 21, 3) := by decide +kernel
theorem dX5_init_37 : decode cX5_init 37 = .ok (.return_, 1) := by decide +kernel
theorem dX5_isFull_0 : decode cX5_isFull 0 = .ok (.aload_n 0, 1) := by decide +kernel
theorem dX5_isFull_1 : decode cX5_isFull 1 = .ok (.getfield 12, 3) := by decide +kernel
theorem dX5_isFull_4 : decode cX5_isFull 4 = .ok (.invokevirtual 24, 3) := by decide +kernel
theorem dX5_isFull_7 : decode cX5_isFull 7 = .ok (.bipush 48, 2) := by decide +kernel
theorem dX5_isFull_9 : decode cX5_isFull 9 = .ok (.if_icmp .ge 13, 3) := by decide +kernel
theorem dX5_isFull_12 : decode cX5_isFull 12 = .ok (.aload_n 0, 1) := by decide +kernel
theorem dX5_isFull_13 : decode cX5_isFull 13 = .ok (.getfield 28, 3) := by decide +kernel
theorem dX5_isFull_16 : decode cX5_isFull 16 = .ok (.sipush 400, 3) := by decide +kernel
theorem dX5_isFull_19 : decode cX5_isFull 19 = .ok (.if_icmp .lt 7, 3) := by decide +kernel
theorem dX5_isFull_22 : decode cX5_isFull 22 = .ok (.iconst 1, 1) := by decide +kernel
theorem dX5_isFull_23 : decode cX5_isFull 23 = .ok (.goto 4, 3) := by decide +kernel
theorem dX5_isFull_26 : decode cX5_isFull 26 = .ok (.iconst 0, 1) := by decide +kernel
theorem dX5_isFull_27 : decode cX5_isFull 27 = .ok (.ireturn, 1) := by decide +kernel
theorem dX5_placeOf_0 : decode cX5_placeOf 0 = .ok (.iconst 0, 1) := by decide +kernel
theorem dX5_placeOf_1 : decode cX5_placeOf 1 = .ok (.istore_n 2, 1) := by decide +kernel
theorem dX5_placeOf_2 : decode cX5_placeOf 2 = .ok (.iload_n 2, 1) := by decide +kernel
theorem dX5_placeOf_3 : decode cX5_placeOf 3 = .ok (.aload_n 0, 1) := by decide +kernel
theorem dX5_placeOf_4 : decode cX5_placeOf 4 = .ok (.getfield 12, 3) := by decide +kernel
theorem dX5_placeOf_7 : decode cX5_placeOf 7 = .ok (.invokevirtual 24, 3) := by decide +kernel
theorem dX5_placeOf_10 : decode cX5_placeOf 10 = .ok (.if_icmp .ge 29, 3) := by decide +kernel
theorem dX5_placeOf_13 : decode cX5_placeOf 13 = .ok (.aload_n 0, 1) := by decide +kernel
theorem dX5_placeOf_14 : decode cX5_placeOf 14 = .ok (.getfield 12, 3) := by decide +kernel
theorem dX5_placeOf_17 : decode cX5_placeOf 17 = .ok (.iload_n 2, 1) := by decide +kernel
theorem dX5_placeOf_18 : decode cX5_placeOf 18 = .ok (.invokevirtual 32, 3) := by decide +kernel
theorem dX5_placeOf_21 : decode cX5_placeOf 21 = .ok (.checkcast 36, 3) := by decide +kernel
theorem dX5_placeOf_24 : decode cX5_placeOf 24 = .ok (.getfield 38, 3) := by decide +kernel
theorem dX5_placeOf_27 : decode cX5_placeOf 27 = .ok (.iload_n 1, 1) := by decide +kernel
theorem dX5_placeOf_28 : decode cX5_placeOf 28 = .ok (.if_icmp .ne 5, 3) := by decide +kernel
theorem dX5_placeOf_31 : decode cX5_placeOf 31 = .ok (.iload_n 2, 1) := by decide +kernel
theorem dX5_placeOf_32 : decode cX5_placeOf 32 = .ok (.ireturn, 1) := by decide +kernel
theorem dX5_placeOf_33 : decode cX5_placeOf 33 = .ok (.iinc 2 1, 3) := by decide +kernel
theorem dX5_placeOf_36 : decode cX5_placeOf 36 = .ok (.goto (-34), 3) := by decide +kernel
theorem dX5_placeOf_39 : decode cX5_placeOf 39 = .ok (.iconst (-1), 1) := by decide +kernel
theorem dX5_placeOf_40 : decode cX5_placeOf 40 = .ok (.ireturn, 1) := by decide +kernel
theorem dX5_takeNext_0 : decode cX5_takeNext 0 = .ok (.aload_n 0, 1) := by decide +kernel
theorem dX5_takeNext_1 : decode cX5_takeNext 1 = .ok (.getfield 18, 3) := by decide +kernel
theorem dX5_takeNext_4 : decode cX5_takeNext 4 = .ok (.invokevirtual 41, 3) := by decide +kernel
theorem dX5_takeNext_7 : decode cX5_takeNext 7 = .ok (.ifCond .eq 20, 3) := by decide +kernel
theorem dX5_takeNext_10 : decode cX5_takeNext 10 = .ok (.new 36, 3) := by decide +kernel
theorem dX5_takeNext_13 : decode cX5_takeNext 13 = .ok (.dup, 1) := by decide +kernel
theorem dX5_takeNext_14 : decode cX5_takeNext 14 = .ok (.aload_n 0, 1) := by decide +kernel
theorem dX5_takeNext_15 : decode cX5_takeNext 15 = .ok (.getfield 12, 3) := by decide +kernel
theorem dX5_takeNext_18 : decode cX5_takeNext 18 = .ok (.invokevirtual 24, 3) := by decide +kernel
theorem dX5_takeNext_21 : decode cX5_takeNext 21 = .ok (.invokespecial 45, 3) := by decide +kernel
theorem dX5_takeNext_24 : decode cX5_takeNext 24 = .ok (.goto 22, 3) := by decide +kernel
theorem dX5_takeNext_27 : decode cX5_takeNext 27 = .ok (.aload_n 0, 1) := by decide +kernel
theorem dX5_takeNext_28 : decode cX5_takeNext 28 = .ok (.getfield 18, 3) := by decide +kernel
theorem dX5_takeNext_31 : decode cX5_takeNext 31 = .ok (.aload_n 0, 1) := by decide +kernel
theorem dX5_takeNext_32 : decode cX5_takeNext 32 = .ok (.getfield 18, 3) := by decide +kernel
theorem dX5_takeNext_35 : decode cX5_takeNext 35 = .ok (.invokevirtual 24, 3) := by decide +kernel
theorem dX5_takeNext_38 : decode cX5_takeNext 38 = .ok (.iconst 1, 1) := by decide +kernel
theorem dX5_takeNext_39 : decode cX5_takeNext 39 = .ok (.isub, 1) := by decide +kernel
theorem dX5_takeNext_40 : decode cX5_takeNext 40 = .ok (.invokevirtual 48, 3) := by decide +kernel
theorem dX5_takeNext_43 : decode cX5_takeNext 43 = .ok (.checkcast 36, 3) := by decide +kernel
theorem dX5_takeNext_46 : decode cX5_takeNext 46 = .ok (.astore_n 1, 1) := by decide +kernel
theorem dX5_takeNext_47 : decode cX5_takeNext 47 = .ok (.aload_n 1, 1) := by decide +kernel
theorem dX5_takeNext_48 : decode cX5_takeNext 48 = .ok (.aload_n 0, 1) := by decide +kernel
theorem dX5_takeNext_49 : decode cX5_takeNext 49 = .ok (.getfield 28, 3) := by decide +kernel
theorem dX5_takeNext_52 : decode cX5_takeNext 52 = .ok (.putfield 38, 3) := by decide +kernel
theorem dX5_takeNext_55 : decode cX5_takeNext 55 = .ok (.aload_n 0, 1) := by decide +kernel
theorem dX5_takeNext_56 : decode cX5_takeNext 56 = .ok (.dup, 1) := by decide +kernel
theorem dX5_takeNext_57 : decode cX5_takeNext 57 = .ok (.getfield 28, 3) := by decide +kernel
theorem dX5_takeNext_60 : decode cX5_takeNext 60 = .ok (.iconst 1, 1) := by decide +kernel
theorem dX5_takeNext_61 : decode cX5_takeNext 61 = .ok (.iadd, 1) := by decide +kernel
theorem dX5_takeNext_62 : decode cX5_takeNext 62 = .ok (.putfield 28, 3) := by decide +kernel
theorem dX5_takeNext_65 : decode cX5_takeNext 65 = .ok (.aload_n 0, 1) := by decide +kernel
theorem dX5_takeNext_66 : decode cX5_takeNext 66 = .ok (.getfield 12, 3) := by decide +kernel
theorem dX5_takeNext_69 : decode cX5_takeNext 69 = .ok (.aload_n 1, 1) := by decide +kernel
theorem dX5_takeNext_70 : decode cX5_takeNext 70 = .ok (.invokevirtual 51, 3) := by decide +kernel
theorem dX5_takeNext_73 : decode cX5_takeNext 73 = .ok (.pop, 1) := by decide +kernel
theorem dX5_takeNext_74 : decode cX5_takeNext 74 = .ok (.aload_n 1, 1) := by decide +kernel
theorem dX5_takeNext_75 : decode cX5_takeNext 75 = .ok (.areturn, 1) := by decide +kernel
theorem dX5_shareWithAll_0 : decode cX5_shareWithAll 0 = .ok (.iconst 0, 1) := by decide +kernel
theorem dX5_shareWithAll_1 : decode cX5_shareWithAll 1 = .ok (.istore_n 2, 1) := by decide +kernel
theorem dX5_shareWithAll_2 : decode cX5_shareWithAll 2 = .ok (.iload_n 2, 1) := by decide +kernel
theorem dX5_shareWithAll_3 : decode cX5_shareWithAll 3 = .ok (.aload_n 0, 1) := by decide +kernel
theorem dX5_shareWithAll_4 : decode cX5_shareWithAll 4 = .ok (.getfield 12, 3) := by decide +kernel
theorem dX5_shareWithAll_7 : decode cX5_shareWithAll 7 = .ok (.invokevirtual 24, 3) := by decide +kernel
theorem dX5_shareWithAll_10 : decode cX5_shareWithAll 10 = .ok (.if_icmp .ge 50, 3) := by decide +kernel
theorem dX5_shareWithAll_13 : decode cX5_shareWithAll 13 = .ok (.aload_n 0, 1) := by decide +kernel
theorem dX5_shareWithAll_14 : decode cX5_shareWithAll 14 = .ok (.getfield 12, 3) := by decide +kernel
theorem dX5_shareWithAll_17 : decode cX5_shareWithAll 17 = .ok (.iload_n 2, 1) := by decide +kernel
theorem dX5_shareWithAll_18 : decode cX5_shareWithAll 18 = .ok (.invokevirtual 32, 3) := by decide +kernel
theorem dX5_shareWithAll_21 : decode cX5_shareWithAll 21 = .ok (.checkcast 36, 3) := by decide +kernel
theorem dX5_shareWithAll_24 : decode cX5_shareWithAll 24 = .ok (.astore_n 3, 1) := by decide +kernel
theorem dX5_shareWithAll_25 : decode cX5_shareWithAll 25 = .ok (.aload_n 1, 1) := by decide +kernel
theorem dX5_shareWithAll_26 : decode cX5_shareWithAll 26 = .ok (.aload_n 3, 1) := by decide +kernel
theorem dX5_shareWithAll_27 : decode cX5_shareWithAll 27 = .ok (.invokevirtual 55, 3) := by decide +kernel
theorem dX5_shareWithAll_30 : decode cX5_shareWithAll 30 = .ok (.istore 4, 2) := by decide +kernel
theorem dX5_shareWithAll_32 : decode cX5_shareWithAll 32 = .ok (.aload_n 1, 1) := by decide +kernel
theorem dX5_shareWithAll_33 : decode cX5_shareWithAll 33 = .ok (.getfield 59, 3) := by decide +kernel
theorem dX5_shareWithAll_36 : decode cX5_shareWithAll 36 = .ok (.aload_n 3, 1) := by decide +kernel
theorem dX5_shareWithAll_37 : decode cX5_shareWithAll 37 = .ok (.getfield 63, 3) := by decide +kernel
theorem dX5_shareWithAll_40 : decode cX5_shareWithAll 40 = .ok (.iload 4, 2) := by decide +kernel
theorem dX5_shareWithAll_42 : decode cX5_shareWithAll 42 = .ok (.iastore, 1) := by decide +kernel
theorem dX5_shareWithAll_43 : decode cX5_shareWithAll 43 = .ok (.aload_n 3, 1) := by decide +kernel
theorem dX5_shareWithAll_44 : decode cX5_shareWithAll 44 = .ok (.getfield 59, 3) := by decide +kernel
theorem dX5_shareWithAll_47 : decode cX5_shareWithAll 47 = .ok (.aload_n 1, 1) := by decide +kernel
theorem dX5_shareWithAll_48 : decode cX5_shareWithAll 48 = .ok (.getfield 63, 3) := by decide +kernel
theorem dX5_shareWithAll_51 : decode cX5_shareWithAll 51 = .ok (.iload 4, 2) := by decide +kernel
theorem dX5_shareWithAll_53 : decode cX5_shareWithAll 53 = .ok (.iastore, 1) := by decide +kernel
theorem dX5_shareWithAll_54 : decode cX5_shareWithAll 54 = .ok (.iinc 2 1, 3) := by decide +kernel
theorem dX5_shareWithAll_57 : decode cX5_shareWithAll 57 = .ok (.goto (-55), 3) := by decide +kernel
theorem dX5_shareWithAll_60 : decode cX5_shareWithAll 60 = .ok (.return_, 1) := by decide +kernel
theorem dX5_putAway_0 : decode cX5_putAway 0 = .ok (.aload_n 0, 1) := by decide +kernel
theorem dX5_putAway_1 : decode cX5_putAway 1 = .ok (.iload_n 1, 1) := by decide +kernel
theorem dX5_putAway_2 : decode cX5_putAway 2 = .ok (.invokevirtual 66, 3) := by decide +kernel
theorem dX5_putAway_5 : decode cX5_putAway 5 = .ok (.istore_n 2, 1) := by decide +kernel
theorem dX5_putAway_6 : decode cX5_putAway 6 = .ok (.iload_n 2, 1) := by decide +kernel
theorem dX5_putAway_7 : decode cX5_putAway 7 = .ok (.iconst (-1), 1) := by decide +kernel
theorem dX5_putAway_8 : decode cX5_putAway 8 = .ok (.if_icmp .ne 5, 3) := by decide +kernel
theorem dX5_putAway_11 : decode cX5_putAway 11 = .ok (.iconst 0, 1) := by decide +kernel
theorem dX5_putAway_12 : decode cX5_putAway 12 = .ok (.ireturn, 1) := by decide +kernel
theorem dX5_putAway_13 : decode cX5_putAway 13 = .ok (.aload_n 0, 1) := by decide +kernel
theorem dX5_putAway_14 : decode cX5_putAway 14 = .ok (.getfield 18, 3) := by decide +kernel
theorem dX5_putAway_17 : decode cX5_putAway 17 = .ok (.aload_n 0, 1) := by decide +kernel
theorem dX5_putAway_18 : decode cX5_putAway 18 = .ok (.getfield 12, 3) := by decide +kernel
theorem dX5_putAway_21 : decode cX5_putAway 21 = .ok (.iload_n 2, 1) := by decide +kernel
theorem dX5_putAway_22 : decode cX5_putAway 22 = .ok (.invokevirtual 48, 3) := by decide +kernel
theorem dX5_putAway_25 : decode cX5_putAway 25 = .ok (.checkcast 36, 3) := by decide +kernel
theorem dX5_putAway_28 : decode cX5_putAway 28 = .ok (.invokevirtual 51, 3) := by decide +kernel
theorem dX5_putAway_31 : decode cX5_putAway 31 = .ok (.pop, 1) := by decide +kernel
theorem dX5_putAway_32 : decode cX5_putAway 32 = .ok (.iconst 1, 1) := by decide +kernel
theorem dX5_putAway_33 : decode cX5_putAway 33 = .ok (.ireturn, 1) := by decide +kernel
theorem dX5_putAllAway_0 : decode cX5_putAllAway 0 = .ok (.aload_n 0, 1) := by decide +kernel
theorem dX5_putAllAway_1 : decode cX5_putAllAway 1 = .ok (.getfield 12, 3) := by decide +kernel
theorem dX5_putAllAway_4 : decode cX5_putAllAway 4 = .ok (.invokevirtual 24, 3) := by decide +kernel
theorem dX5_putAllAway_7 : decode cX5_putAllAway 7 = .ok (.istore_n 1, 1) := by decide +kernel
theorem dX5_putAllAway_8 : decode cX5_putAllAway 8 = .ok (.iconst 0, 1) := by decide +kernel
theorem dX5_putAllAway_9 : decode cX5_putAllAway 9 = .ok (.istore_n 2, 1) := by decide +kernel
theorem dX5_putAllAway_10 : decode cX5_putAllAway 10 = .ok (.iload_n 2, 1) := by decide +kernel
theorem dX5_putAllAway_11 : decode cX5_putAllAway 11 = .ok (.iload_n 1, 1) := by decide +kernel
theorem dX5_putAllAway_12 : decode cX5_putAllAway 12 = .ok (.if_icmp .ge 28, 3) := by decide +kernel
theorem dX5_putAllAway_15 : decode cX5_putAllAway 15 = .ok (.aload_n 0, 1) := by decide +kernel
theorem dX5_putAllAway_16 : decode cX5_putAllAway 16 = .ok (.getfield 18, 3) := by decide +kernel
theorem dX5_putAllAway_19 : decode cX5_putAllAway 19 = .ok (.aload_n 0, 1) := by decide +kernel
theorem dX5_putAllAway_20 : decode cX5_putAllAway 20 = .ok (.getfield 12, 3) := by decide +kernel
theorem dX5_putAllAway_23 : decode cX5_putAllAway 23 = .ok (.iload_n 2, 1) := by decide +kernel
theorem dX5_putAllAway_24 : decode cX5_putAllAway 24 = .ok (.invokevirtual 32, 3) := by decide +kernel
theorem dX5_putAllAway_27 : decode cX5_putAllAway 27 = .ok (.checkcast 36, 3) := by decide +kernel
theorem dX5_putAllAway_30 : decode cX5_putAllAway 30 = .ok (.invokevirtual 51, 3) := by decide +kernel
theorem dX5_putAllAway_33 : decode cX5_putAllAway 33 = .ok (.pop, 1) := by decide +kernel
theorem dX5_putAllAway_34 : decode cX5_putAllAway 34 = .ok (.iinc 2 1, 3) := by decide +kernel
theorem dX5_putAllAway_37 : decode cX5_putAllAway 37 = .ok (.goto (-27), 3) := by decide +kernel
theorem dX5_putAllAway_40 : decode cX5_putAllAway 40 = .ok (.aload_n 0, 1) := by decide +kernel
theorem dX5_putAllAway_41 : decode cX5_putAllAway 41 = .ok (.getfield 12, 3) := by decide +kernel
theorem dX5_putAllAway_44 : decode cX5_putAllAway 44 = .ok (.invokevirtual 70, 3) := by decide +kernel
theorem dX5_putAllAway_47 : decode cX5_putAllAway 47 = .ok (.aload_n 0, 1) := by decide +kernel
theorem dX5_putAllAway_48 : decode cX5_putAllAway 48 = .ok (.iconst 0, 1) := by decide +kernel
theorem dX5_putAllAway_49 : decode cX5_putAllAway 49 = .ok (.putfield 28, 3) := by decide +kernel
theorem dX5_putAllAway_52 : decode cX5_putAllAway 52 = .ok (.iload_n 1, 1) := by decide +kernel
theorem dX5_putAllAway_53 : decode cX5_putAllAway 53 = .ok (.ireturn, 1) := by decide +kernel
theorem dX5_othersByNearness_0 : decode cX5_othersByNearness 0 = .ok (.aload_n 0, 1) := by decide +kernel
theorem dX5_othersByNearness_1 : decode cX5_othersByNearness 1 = .ok (.getfield 21, 3) := by decide +kernel
theorem dX5_othersByNearness_4 : decode cX5_othersByNearness 4 = .ok (.invokevirtual 70, 3) := by decide +kernel
theorem dX5_othersByNearness_7 : decode cX5_othersByNearness 7 = .ok (.iconst 0, 1) := by decide +kernel
theorem dX5_othersByNearness_8 : decode cX5_othersByNearness 8 = .ok (.istore_n 3, 1) := by decide +kernel
theorem dX5_othersByNearness_9 : decode cX5_othersByNearness 9 = .ok (.iload_n 3, 1) := by decide +kernel
theorem dX5_othersByNearness_10 : decode cX5_othersByNearness 10 = .ok (.aload_n 0, 1) := by decide +kernel
theorem dX5_othersByNearness_11 : decode cX5_othersByNearness 11 = .ok (.getfield 12, 3) := by decide +kernel
theorem dX5_othersByNearness_14 : decode cX5_othersByNearness 14 = .ok (.invokevirtual 24, 3) := by decide +kernel
theorem dX5_othersByNearness_17 : decode cX5_othersByNearness 17 = .ok (.if_icmp .ge 45, 3) := by decide +kernel
theorem dX5_othersByNearness_20 : decode cX5_othersByNearness 20 = .ok (.aload_n 0, 1) := by decide +kernel
theorem dX5_othersByNearness_21 : decode cX5_othersByNearness 21 = .ok (.getfield 12, 3) := by decide +kernel
theorem dX5_othersByNearness_24 : decode cX5_othersByNearness 24 = .ok (.iload_n 3, 1) := by decide +kernel
theorem dX5_othersByNearness_25 : decode cX5_othersByNearness 25 = .ok (.invokevirtual 32, 3) := by decide +kernel
theorem dX5_othersByNearness_28 : decode cX5_othersByNearness 28 = .ok (.checkcast 36, 3) := by decide +kernel
theorem dX5_othersByNearness_31 : decode cX5_othersByNearness 31 = .ok (.astore 4, 2) := by decide +kernel
theorem dX5_othersByNearness_33 : decode cX5_othersByNearness 33 = .ok (.aload 4, 2) := by decide +kernel
theorem dX5_othersByNearness_35 : decode cX5_othersByNearness 35 = .ok (.aload_n 1, 1) := by decide +kernel
theorem dX5_othersByNearness_36 : decode cX5_othersByNearness 36 = .ok (.if_acmp .eq 20, 3) := by decide +kernel
theorem dX5_othersByNearness_39 : decode cX5_othersByNearness 39 = .ok (.aload_n 0, 1) := by decide +kernel
theorem dX5_othersByNearness_40 : decode cX5_othersByNearness 40 = .ok (.getfield 21, 3) := by decide +kernel
theorem dX5_othersByNearness_43 : decode cX5_othersByNearness 43 = .ok (.aload_n 0, 1) := by decide +kernel
theorem dX5_othersByNearness_44 : decode cX5_othersByNearness 44 = .ok (.aload 4, 2) := by decide +kernel
theorem dX5_othersByNearness_46 : decode cX5_othersByNearness 46 = .ok (.aload_n 1, 1) := by decide +kernel
theorem dX5_othersByNearness_47 : decode cX5_othersByNearness 47 = .ok (.aload_n 2, 1) := by decide +kernel
theorem dX5_othersByNearness_48 : decode cX5_othersByNearness 48 = .ok (.invokevirtual 73, 3) := by decide +kernel
theorem dX5_othersByNearness_51 : decode cX5_othersByNearness 51 = .ok (.aload 4, 2) := by decide +kernel
theorem dX5_othersByNearness_53 : decode cX5_othersByNearness 53 = .ok (.invokevirtual 77, 3) := by decide +kernel
theorem dX5_othersByNearness_56 : decode cX5_othersByNearness 56 = .ok (.iinc 3 1, 3) := by decide +kernel
theorem dX5_othersByNearness_59 : decode cX5_othersByNearness 59 = .ok (.goto (-50), 3) := by decide +kernel
theorem dX5_othersByNearness_62 : decode cX5_othersByNearness 62 = .ok (.aload_n 0, 1) := by decide +kernel
theorem dX5_othersByNearness_63 : decode cX5_othersByNearness 63 = .ok (.getfield 21, 3) := by decide +kernel
theorem dX5_othersByNearness_66 : decode cX5_othersByNearness 66 = .ok (.areturn, 1) := by decide +kernel
theorem dX5_rankOf_0 : decode cX5_rankOf 0 = .ok (.aload_n 0, 1) := by decide +kernel
theorem dX5_rankOf_1 : decode cX5_rankOf 1 = .ok (.getfield 21, 3) := by decide +kernel
theorem dX5_rankOf_4 : decode cX5_rankOf 4 = .ok (.invokevirtual 24, 3) := by decide +kernel
theorem dX5_rankOf_7 : decode cX5_rankOf 7 = .ok (.istore 4, 2) := by decide +kernel
theorem dX5_rankOf_9 : decode cX5_rankOf 9 = .ok (.iload 4, 2) := by decide +kernel
theorem dX5_rankOf_11 : decode cX5_rankOf 11 = .ok (.ifCond .le 35, 3) := by decide +kernel
theorem dX5_rankOf_14 : decode cX5_rankOf 14 = .ok (.aload_n 3, 1) := by decide +kernel
theorem dX5_rankOf_15 : decode cX5_rankOf 15 = .ok (.aload_n 2, 1) := by decide +kernel
theorem dX5_rankOf_16 : decode cX5_rankOf 16 = .ok (.aload_n 1, 1) := by decide +kernel
theorem dX5_rankOf_17 : decode cX5_rankOf 17 = .ok (.aload_n 0, 1) := by decide +kernel
theorem dX5_rankOf_18 : decode cX5_rankOf 18 = .ok (.getfield 21, 3) := by decide +kernel
theorem dX5_rankOf_21 : decode cX5_rankOf 21 = .ok (.iload 4, 2) := by decide +kernel
theorem dX5_rankOf_23 : decode cX5_rankOf 23 = .ok (.iconst 1, 1) := by decide +kernel
theorem dX5_rankOf_24 : decode cX5_rankOf 24 = .ok (.isub, 1) := by decide +kernel
theorem dX5_rankOf_25 : decode cX5_rankOf 25 = .ok (.invokevirtual 32, 3) := by decide +kernel
theorem dX5_rankOf_28 : decode cX5_rankOf 28 = .ok (.checkcast 36, 3) := by decide +kernel
theorem dX5_rankOf_31 : decode cX5_rankOf 31 = .ok (.invokevirtual 80, 3) := by decide +kernel
theorem dX5_rankOf_34 : decode cX5_rankOf 34 = .ok (.ifCond .ne 6, 3) := by decide +kernel
theorem dX5_rankOf_37 : decode cX5_rankOf 37 = .ok (.iload 4, 2) := by decide +kernel
theorem dX5_rankOf_39 : decode cX5_rankOf 39 = .ok (.ireturn, 1) := by decide +kernel
theorem dX5_rankOf_40 : decode cX5_rankOf 40 = .ok (.iinc 4 (-1), 3) := by decide +kernel
theorem dX5_rankOf_43 : decode cX5_rankOf 43 = .ok (.goto (-34), 3) := by decide +kernel
theorem dX5_rankOf_46 : decode cX5_rankOf 46 = .ok (.iconst 0, 1) := by decide +kernel
theorem dX5_rankOf_47 : decode cX5_rankOf 47 = .ok (.ireturn, 1) := by decide +kernel
theorem dX6_init_0 : decode cX6_init 0 = .ok (.aload_n 0, 1) := by decide +kernel
theorem dX6_init_1 : decode cX6_init 1 = .ok (.invokespecial 3, 3) := by decide +kernel
theorem dX6_init_4 : decode cX6_init 4 = .ok (.aload_n 0, 1) := by decide +kernel
theorem dX6_init_5 : decode cX6_init 5 = .ok (.ldc 9, 2) := by decide +kernel
theorem dX6_init_7 : decode cX6_init 7 = .ok (.newarray .byte, 2) := by decide +kernel
theorem dX6_init_9 : decode cX6_init 9 = .ok (.putfield 10, 3) := by decide +kernel
theorem dX6_init_12 : decode cX6_init 12 = .ok (.aload_n 0, 1) := by decide +kernel
theorem dX6_init_13 : decode cX6_init 13 = .ok (.sipush 6001, 3) := by decide +kernel
theorem dX6_init_16 : decode cX6_init 16 = .ok (.newarray .int, 2) := by decide +kernel
theorem dX6_init_18 : decode cX6_init 18 = .ok (.putfield 16, 3) := by decide +kernel
theorem dX6_init_21 : decode cX6_init 21 = .ok (.aload_n 0, 1) := by decide +kernel
theorem dX6_init_22 : decode cX6_init 22 = .ok (.sipush 6000, 3) := by decide +kernel
theorem dX6_init_25 : decode cX6_init 25 = .ok (.newarray .int, 2) := by decide +kernel
theorem dX6_init_27 : decode cX6_init 27 = .ok (.putfield 20, 3) := by decide +kernel
theorem dX6_init_30 : decode cX6_init 30 = .ok (.aload_n 0, 1) := by decide +kernel
theorem dX6_init_31 : decode cX6_init 31 = .ok (.sipush 16384, 3) := by decide +kernel
theorem dX6_init_34 : decode cX6_init 34 = .ok (.newarray .int, 2) := by decide +kernel
theorem dX6_init_36 : decode cX6_init 36 = .ok (.putfield 23, 3) := by decide +kernel
theorem dX6_init_39 : decode cX6_init 39 = .ok (.return_, 1) := by decide +kernel
theorem dX6_bytesUsed_0 : decode cX6_bytesUsed 0 = .ok (.aload_n 0, 1) := by decide +kernel
theorem dX6_bytesUsed_1 : decode cX6_bytesUsed 1 = .ok (.getfield 16, 3) := by decide +kernel
theorem dX6_bytesUsed_4 : decode cX6_bytesUsed 4 = .ok (.aload_n 0, 1) := by decide +kernel
theorem dX6_bytesUsed_5 : decode cX6_bytesUsed 5 = .ok (.getfield 26, 3) := by decide +kernel
theorem dX6_bytesUsed_8 : decode cX6_bytesUsed 8 = .ok (.iaload, 1) := by decide +kernel
theorem dX6_bytesUsed_9 : decode cX6_bytesUsed 9 = .ok (.ireturn, 1) := by decide +kernel
theorem dX6_byteOf_0 : decode cX6_byteOf 0 = .ok (.iload_n 1, 1) := by decide +kernel
theorem dX6_byteOf_1 : decode cX6_byteOf 1 = .ok (.ifCond .lt 34, 3) := by decide +kernel
theorem dX6_byteOf_4 : decode cX6_byteOf 4 = .ok (.iload_n 1, 1) := by decide +kernel
theorem dX6_byteOf_5 : decode cX6_byteOf 5 = .ok (.aload_n 0, 1) := by decide +kernel
theorem dX6_byteOf_6 : decode cX6_byteOf 6 = .ok (.getfield 26, 3) := by decide +kernel
theorem dX6_byteOf_9 : decode cX6_byteOf 9 = .ok (.if_icmp .ge 26, 3) := by decide +kernel
theorem dX6_byteOf_12 : decode cX6_byteOf 12 = .ok (.iload_n 2, 1) := by decide +kernel
theorem dX6_byteOf_13 : decode cX6_byteOf 13 = .ok (.ifCond .lt 22, 3) := by decide +kernel
theorem dX6_byteOf_16 : decode cX6_byteOf 16 = .ok (.iload_n 2, 1) := by decide +kernel
theorem dX6_byteOf_17 : decode cX6_byteOf 17 = .ok (.aload_n 0, 1) := by decide +kernel
theorem dX6_byteOf_18 : decode cX6_byteOf 18 = .ok (.getfield 16, 3) := by decide +kernel
theorem dX6_byteOf_21 : decode cX6_byteOf 21 = .ok (.iload_n 1, 1) := by decide +kernel
theorem dX6_byteOf_22 : decode cX6_byteOf 22 = .ok (.iconst 1, 1) := by decide +kernel
theorem dX6_byteOf_23 : decode cX6_byteOf 23 = .ok (.iadd, 1) := by decide +kernel
theorem dX6_byteOf_24 : decode cX6_byteOf 24 = .ok (.iaload, 1) := by decide +kernel
theorem dX6_byteOf_25 : decode cX6_byteOf 25 = .ok (.aload_n 0, 1) := by decide +kernel
theorem dX6_byteOf_26 : decode cX6_byteOf 26 = .ok (.getfield 16, 3) := by decide +kernel
theorem dX6_byteOf_29 : decode cX6_byteOf 29 = .ok (.iload_n 1, 1) := by decide +kernel
theorem dX6_byteOf_30 : decode cX6_byteOf 30 = .ok (.iaload, 1) := by decide +kernel
theorem dX6_byteOf_31 : decode cX6_byteOf 31 = .ok (.isub, 1) := by decide +kernel
theorem dX6_byteOf_32 : decode cX6_byteOf 32 = .ok (.if_icmp .lt 5, 3) := by decide +kernel
theorem dX6_byteOf_35 : decode cX6_byteOf 35 = .ok (.iconst (-1), 1) := by decide +kernel
theorem dX6_byteOf_36 : decode cX6_byteOf 36 = .ok (.ireturn, 1) := by decide +kernel
theorem dX6_byteOf_37 : decode cX6_byteOf 37 = .ok (.aload_n 0, 1) := by decide +kernel
theorem dX6_byteOf_38 : decode cX6_byteOf 38 = .ok (.getfield 10, 3) := by decide +kernel
theorem dX6_byteOf_41 : decode cX6_byteOf 41 = .ok (.aload_n 0, 1) := by decide +kernel
theorem dX6_byteOf_42 : decode cX6_byteOf 42 = .ok (.getfield 16, 3) := by decide +kernel
theorem dX6_byteOf_45 : decode cX6_byteOf 45 = .ok (.iload_n 1, 1) := by decide +kernel
theorem dX6_byteOf_46 : decode cX6_byteOf 46 = .ok (.iaload, 1) := by decide +kernel
theorem dX6_byteOf_47 : decode cX6_byteOf 47 = .ok (.iload_n 2, 1) := by decide +kernel
theorem dX6_byteOf_48 : decode cX6_byteOf 48 = .ok (.iadd, 1) := by decide +kernel
theorem dX6_byteOf_49 : decode cX6_byteOf 49 = .ok (.baload, 1) := by decide +kernel
theorem dX6_byteOf_50 : decode cX6_byteOf 50 = .ok (.ireturn, 1) := by decide +kernel
theorem dX6_numberOf_0 : decode cX6_numberOf 0 = .ok (.aload_n 1, 1) := by decide +kernel
theorem dX6_numberOf_1 : decode cX6_numberOf 1 = .ok (.iload_n 2, 1) := by decide +kernel
theorem dX6_numberOf_2 : decode cX6_numberOf 2 = .ok (.iload_n 3, 1) := by decide +kernel
theorem dX6_numberOf_3 : decode cX6_numberOf 3 = .ok (.invokestatic 30, 3) := by decide +kernel
theorem dX6_numberOf_6 : decode cX6_numberOf 6 = .ok (.istore 4, 2) := by decide +kernel
theorem dX6_numberOf_8 : decode cX6_numberOf 8 = .ok (.iconst 0, 1) := by decide +kernel
theorem dX6_numberOf_9 : decode cX6_numberOf 9 = .ok (.istore 5, 2) := by decide +kernel
theorem dX6_numberOf_11 : decode cX6_numberOf 11 = .ok (.iload 5, 2) := by decide +kernel
theorem dX6_numberOf_13 : decode cX6_numberOf 13 = .ok (.sipush 16384, 3) := by decide +kernel
theorem dX6_numberOf_16 : decode cX6_numberOf 16 = .ok (.if_icmp .ge 60, 3) := by decide +kernel
theorem dX6_numberOf_19 : decode cX6_numberOf 19 = .ok (.aload_n 0, 1) := by decide +kernel
theorem dX6_numberOf_20 : decode cX6_numberOf 20 = .ok (.getfield 23, 3) := by decide +kernel
theorem dX6_numberOf_23 : decode cX6_numberOf 23 = .ok (.iload 4, 2) := by decide +kernel
theorem dX6_numberOf_25 : decode cX6_numberOf 25 = .ok (.iaload, 1) := by decide +kernel
theorem dX6_numberOf_26 : decode cX6_numberOf 26 = .ok (.iconst 1, 1) := by decide +kernel
theorem dX6_numberOf_27 : decode cX6_numberOf 27 = .ok (.isub, 1) := by decide +kernel
theorem dX6_numberOf_28 : decode cX6_numberOf 28 = .ok (.istore 6, 2) := by decide +kernel
theorem dX6_numberOf_30 : decode cX6_numberOf 30 = .ok (.iload 6, 2) := by decide +kernel
theorem dX6_numberOf_32 : decode cX6_numberOf 32 = .ok (.ifCond .ge 13, 3) := by decide +kernel
theorem dX6_numberOf_35 : decode cX6_numberOf 35 = .ok (.aload_n 0, 1) := by decide +kernel
theorem dX6_numberOf_36 : decode cX6_numberOf 36 = .ok (.aload_n 1, 1) := by decide +kernel
theorem dX6_numberOf_37 : decode cX6_numberOf 37 = .ok (.iload_n 2, 1) := by decide +kernel
theorem dX6_numberOf_38 : decode cX6_numberOf 38 = .ok (.iload_n 3, 1) := by decide +kernel
theorem dX6_numberOf_39 : decode cX6_numberOf 39 = .ok (.iload 4, 2) := by decide +kernel
theorem dX6_numberOf_41 : decode cX6_numberOf 41 = .ok (.invokevirtual 34, 3) := by decide +kernel
theorem dX6_numberOf_44 : decode cX6_numberOf 44 = .ok (.ireturn, 1) := by decide +kernel
theorem dX6_numberOf_45 : decode cX6_numberOf 45 = .ok (.aload_n 0, 1) := by decide +kernel
theorem dX6_numberOf_46 : decode cX6_numberOf 46 = .ok (.iload 6, 2) := by decide +kernel
theorem dX6_numberOf_48 : decode cX6_numberOf 48 = .ok (.aload_n 1, 1) := by decide +kernel
theorem dX6_numberOf_49 : decode cX6_numberOf 49 = .ok (.iload_n 2, 1) := by decide +kernel
theorem dX6_numberOf_50 : decode cX6_numberOf 50 = .ok (.iload_n 3, 1) := by decide +kernel
theorem dX6_numberOf_51 : decode cX6_numberOf 51 = .ok (.invokevirtual 38, 3) := by decide +kernel
theorem dX6_numberOf_54 : decode cX6_numberOf 54 = .ok (.ifCond .eq 6, 3) := by decide +kernel
theorem dX6_numberOf_57 : decode cX6_numberOf 57 = .ok (.iload 6, 2) := by decide +kernel
theorem dX6_numberOf_59 : decode cX6_numberOf 59 = .ok (.ireturn, 1) := by decide +kernel
theorem dX6_numberOf_60 : decode cX6_numberOf 60 = .ok (.iload 4, 2) := by decide +kernel
theorem dX6_numberOf_62 : decode cX6_numberOf 62 = .ok (.iconst 1, 1) := by decide +kernel
theorem dX6_numberOf_63 : decode cX6_numberOf 63 = .ok (.iadd, 1) := by decide +kernel
theorem dX6_numberOf_64 : decode cX6_numberOf 64 = .ok (.sipush 16383, 3) := by decide +kernel
theorem dX6_numberOf_67 : decode cX6_numberOf 67 = .ok (.iand, 1) := by decide +kernel
theorem dX6_numberOf_68 : decode cX6_numberOf 68 = .ok (.istore 4, 2) := by decide +kernel
theorem dX6_numberOf_70 : decode cX6_numberOf 70 = .ok (.iinc 5 1, 3) := by decide +kernel
theorem dX6_numberOf_73 : decode cX6_numberOf 73 = .ok (.goto (-62), 3) := by decide +kernel
theorem dX6_numberOf_76 : decode cX6_numberOf 76 = .ok (.iconst (-1), 1) := by decide +kernel
theorem dX6_numberOf_77 : decode cX6_numberOf 77 = .ok (.ireturn, 1) := by decide +kernel
theorem dX6_firstSeat_0 : decode cX6_firstSeat 0 = .ok (.iconst 0, 1) := by decide +kernel
theorem dX6_firstSeat_1 : decode cX6_firstSeat 1 = .ok (.istore_n 3, 1) := by decide +kernel
theorem dX6_firstSeat_2 : decode cX6_firstSeat 2 = .ok (.iload_n 1, 1) := by decide +kernel
theorem dX6_firstSeat_3 : decode cX6_firstSeat 3 = .ok (.istore 4, 2) := by decide +kernel
theorem dX6_firstSeat_5 : decode cX6_firstSeat 5 = .ok (.iload 4, 2) := by decide +kernel
theorem dX6_firstSeat_7 : decode cX6_firstSeat 7 = .ok (.iload_n 2, 1) := by decide +kernel
theorem dX6_firstSeat_8 : decode cX6_firstSeat 8 = .ok (.if_icmp .ge 19, 3) := by decide +kernel
theorem dX6_firstSeat_11 : decode cX6_firstSeat 11 = .ok (.iload_n 3, 1) := by decide +kernel
theorem dX6_firstSeat_12 : decode cX6_firstSeat 12 = .ok (.bipush 31, 2) := by decide +kernel
theorem dX6_firstSeat_14 : decode cX6_firstSeat 14 = .ok (.imul, 1) := by decide +kernel
theorem dX6_firstSeat_15 : decode cX6_firstSeat 15 = .ok (.aload_n 0, 1) := by decide +kernel
theorem dX6_firstSeat_16 : decode cX6_firstSeat 16 = .ok (.iload 4, 2) := by decide +kernel
theorem dX6_firstSeat_18 : decode cX6_firstSeat 18 = .ok (.baload, 1) := by decide +kernel
theorem dX6_firstSeat_19 : decode cX6_firstSeat 19 = .ok (.iadd, 1) := by decide +kernel
theorem dX6_firstSeat_20 : decode cX6_firstSeat 20 = .ok (.istore_n 3, 1) := by decide +kernel
theorem dX6_firstSeat_21 : decode cX6_firstSeat 21 = .ok (.iinc 4 1, 3) := by decide +kernel
theorem dX6_firstSeat_24 : decode cX6_firstSeat 24 = .ok (.goto (-19), 3) := by decide +kernel
theorem dX6_firstSeat_27 : decode cX6_firstSeat 27 = .ok (.iload_n 3, 1) := by decide +kernel
theorem dX6_firstSeat_28 : decode cX6_firstSeat 28 = .ok (.iload_n 3, 1) := by decide +kernel
theorem dX6_firstSeat_29 : decode cX6_firstSeat 29 = .ok (.bipush 14, 2) := by decide +kernel
theorem dX6_firstSeat_31 : decode cX6_firstSeat 31 = .ok (.iushr, 1) := by decide +kernel
theorem dX6_firstSeat_32 : decode cX6_firstSeat 32 = .ok (.ixor, 1) := by decide +kernel
theorem dX6_firstSeat_33 : decode cX6_firstSeat 33 = .ok (.sipush 16383, 3) := by decide +kernel
theorem dX6_firstSeat_36 : decode cX6_firstSeat 36 = .ok (.iand, 1) := by decide +kernel
theorem dX6_firstSeat_37 : decode cX6_firstSeat 37 = .ok (.ireturn, 1) := by decide +kernel
theorem dX6_isThere_0 : decode cX6_isThere 0 = .ok (.aload_n 0, 1) := by decide +kernel
theorem dX6_isThere_1 : decode cX6_isThere 1 = .ok (.getfield 16, 3) := by decide +kernel
theorem dX6_isThere_4 : decode cX6_isThere 4 = .ok (.iload_n 1, 1) := by decide +kernel
theorem dX6_isThere_5 : decode cX6_isThere 5 = .ok (.iaload, 1) := by decide +kernel
theorem dX6_isThere_6 : decode cX6_isThere 6 = .ok (.istore 5, 2) := by decide +kernel
theorem dX6_isThere_8 : decode cX6_isThere 8 = .ok (.aload_n 0, 1) := by decide +kernel
theorem dX6_isThere_9 : decode cX6_isThere 9 = .ok (.getfield 16, 3) := by decide +kernel
theorem dX6_isThere_12 : decode cX6_isThere 12 = .ok (.iload_n 1, 1) := by decide +kernel
theorem dX6_isThere_13 : decode cX6_isThere 13 = .ok (.iconst 1, 1) := by decide +kernel
theorem dX6_isThere_14 : decode cX6_isThere 14 = .ok (.iadd, 1) := by decide +kernel
theorem dX6_isThere_15 : decode cX6_isThere 15 = .ok (.iaload, 1) := by decide +kernel
theorem dX6_isThere_16 : decode cX6_isThere 16 = .ok (.iload 5, 2) := by decide +kernel
theorem dX6_isThere_18 : decode cX6_isThere 18 = .ok (.isub, 1) := by decide +kernel
theorem dX6_isThere_19 : decode cX6_isThere 19 = .ok (.iload 4, 2) := by decide +kernel
theorem dX6_isThere_21 : decode cX6_isThere 21 = .ok (.iload_n 3, 1) := by decide +kernel
theorem dX6_isThere_22 : decode cX6_isThere 22 = .ok (.isub, 1) := by decide +kernel
theorem dX6_isThere_23 : decode cX6_isThere 23 = .ok (.if_icmp .eq 5, 3) := by decide +kernel
theorem dX6_isThere_26 : decode cX6_isThere 26 = .ok (.iconst 0, 1) := by decide +kernel
theorem dX6_isThere_27 : decode cX6_isThere 27 = .ok (.ireturn, 1) := by decide +kernel
theorem dX6_isThere_28 : decode cX6_isThere 28 = .ok (.iload_n 3, 1) := by decide +kernel
theorem dX6_isThere_29 : decode cX6_isThere 29 = .ok (.istore 6, 2) := by decide +kernel
theorem dX6_isThere_31 : decode cX6_isThere 31 = .ok (.iload 6, 2) := by decide +kernel
theorem dX6_isThere_33 : decode cX6_isThere 33 = .ok (.iload 4, 2) := by decide +kernel
theorem dX6_isThere_35 : decode cX6_isThere 35 = .ok (.if_icmp .ge 30, 3) := by decide +kernel
theorem dX6_isThere_38 : decode cX6_isThere 38 = .ok (.aload_n 0, 1) := by decide +kernel
theorem dX6_isThere_39 : decode cX6_isThere 39 = .ok (.getfield 10, 3) := by decide +kernel
theorem dX6_isThere_42 : decode cX6_isThere 42 = .ok (.iload 5, 2) := by decide +kernel
theorem dX6_isThere_44 : decode cX6_isThere 44 = .ok (.iload 6, 2) := by decide +kernel
theorem dX6_isThere_46 : decode cX6_isThere 46 = .ok (.iadd, 1) := by decide +kernel
theorem dX6_isThere_47 : decode cX6_isThere 47 = .ok (.iload_n 3, 1) := by decide +kernel
theorem dX6_isThere_48 : decode cX6_isThere 48 = .ok (.isub, 1) := by decide +kernel
theorem dX6_isThere_49 : decode cX6_isThere 49 = .ok (.baload, 1) := by decide +kernel
theorem dX6_isThere_50 : decode cX6_isThere 50 = .ok (.aload_n 2, 1) := by decide +kernel
theorem dX6_isThere_51 : decode cX6_isThere 51 = .ok (.iload 6, 2) := by decide +kernel
theorem dX6_isThere_53 : decode cX6_isThere 53 = .ok (.baload, 1) := by decide +kernel
theorem dX6_isThere_54 : decode cX6_isThere 54 = .ok (.if_icmp .eq 5, 3) := by decide +kernel
theorem dX6_isThere_57 : decode cX6_isThere 57 = .ok (.iconst 0, 1) := by decide +kernel
theorem dX6_isThere_58 : decode cX6_isThere 58 = .ok (.ireturn, 1) := by decide +kernel
theorem dX6_isThere_59 : decode cX6_isThere 59 = .ok (.iinc 6 1, 3) := by decide +kernel
theorem dX6_isThere_62 : decode cX6_isThere 62 = .ok (.goto (-31), 3) := by decide +kernel
theorem dX6_isThere_65 : decode cX6_isThere 65 = .ok (.iconst 1, 1) := by decide +kernel
theorem dX6_isThere_66 : decode cX6_isThere 66 = .ok (.ireturn, 1) := by decide +kernel
theorem dX6_enter_0 : decode cX6_enter 0 = .ok (.aload_n 0, 1) := by decide +kernel
theorem dX6_enter_1 : decode cX6_enter 1 = .ok (.getfield 16, 3) := by decide +kernel
theorem dX6_enter_4 : decode cX6_enter 4 = .ok (.aload_n 0, 1) := by decide +kernel
theorem dX6_enter_5 : decode cX6_enter 5 = .ok (.getfield 26, 3) := by decide +kernel
theorem dX6_enter_8 : decode cX6_enter 8 = .ok (.iaload, 1) := by decide +kernel
theorem dX6_enter_9 : decode cX6_enter 9 = .ok (.istore 5, 2) := by decide +kernel
theorem dX6_enter_11 : decode cX6_enter 11 = .ok (.aload_n 0, 1) := by decide +kernel
theorem dX6_enter_12 : decode cX6_enter 12 = .ok (.getfield 26, 3) := by decide +kernel
theorem dX6_enter_15 : decode cX6_enter 15 = .ok (.sipush 6000, 3) := by decide +kernel
theorem dX6_enter_18 : decode cX6_enter 18 = .ok (.if_icmp .ge 14, 3) := by decide +kernel
theorem dX6_enter_21 : decode cX6_enter 21 = .ok (.iload 5, 2) := by decide +kernel
theorem dX6_enter_23 : decode cX6_enter 23 = .ok (.iload_n 3, 1) := by decide +kernel
theorem dX6_enter_24 : decode cX6_enter 24 = .ok (.iadd, 1) := by decide +kernel
theorem dX6_enter_25 : decode cX6_enter 25 = .ok (.iload_n 2, 1) := by decide +kernel
theorem dX6_enter_26 : decode cX6_enter 26 = .ok (.isub, 1) := by decide +kernel
theorem dX6_enter_27 : decode cX6_enter 27 = .ok (.ldc 9, 2) := by decide +kernel
theorem dX6_enter_29 : decode cX6_enter 29 = .ok (.if_icmp .le 5, 3) := by decide +kernel
theorem dX6_enter_32 : decode cX6_enter 32 = .ok (.iconst (-1), 1) := by decide +kernel
theorem dX6_enter_33 : decode cX6_enter 33 = .ok (.ireturn, 1) := by decide +kernel
theorem dX6_enter_34 : decode cX6_enter 34 = .ok (.iload_n 2, 1) := by decide +kernel
theorem dX6_enter_35 : decode cX6_enter 35 = .ok (.istore 6, 2) := by decide +kernel
theorem dX6_enter_37 : decode cX6_enter 37 = .ok (.iload 6, 2) := by decide +kernel
theorem dX6_enter_39 : decode cX6_enter 39 = .ok (.iload_n 3, 1) := by decide +kernel
theorem dX6_enter_40 : decode cX6_enter 40 = .ok (.if_icmp .ge 25, 3) := by decide +kernel
theorem dX6_enter_43 : decode cX6_enter 43 = .ok (.aload_n 0, 1) := by decide +kernel
theorem dX6_enter_44 : decode cX6_enter 44 = .ok (.getfield 10, 3) := by decide +kernel
theorem dX6_enter_47 : decode cX6_enter 47 = .ok (.iload 5, 2) := by decide +kernel
theorem dX6_enter_49 : decode cX6_enter 49 = .ok (.iload 6, 2) := by decide +kernel
theorem dX6_enter_51 : decode cX6_enter 51 = .ok (.iadd, 1) := by decide +kernel
theorem dX6_enter_52 : decode cX6_enter 52 = .ok (.iload_n 2, 1) := by decide +kernel
theorem dX6_enter_53 : decode cX6_enter 53 = .ok (.isub, 1) := by decide +kernel
theorem dX6_enter_54 : decode cX6_enter 54 = .ok (.aload_n 1, 1) := by decide +kernel
theorem dX6_enter_55 : decode cX6_enter 55 = .ok (.iload 6, 2) := by decide +kernel
theorem dX6_enter_57 : decode cX6_enter 57 = .ok (.baload, 1) := by decide +kernel
theorem dX6_enter_58 : decode cX6_enter 58 = .ok (.bastore, 1) := by decide +kernel
theorem dX6_enter_59 : decode cX6_enter 59 = .ok (.iinc 6 1, 3) := by decide +kernel
theorem dX6_enter_62 : decode cX6_enter 62 = .ok (.goto (-25), 3) := by decide +kernel
theorem dX6_enter_65 : decode cX6_enter 65 = .ok (.aload_n 0, 1) := by decide +kernel
theorem dX6_enter_66 : decode cX6_enter 66 = .ok (.getfield 23, 3) := by decide +kernel
theorem dX6_enter_69 : decode cX6_enter 69 = .ok (.iload 4, 2) := by decide +kernel
theorem dX6_enter_71 : decode cX6_enter 71 = .ok (.aload_n 0, 1) := by decide +kernel
theorem dX6_enter_72 : decode cX6_enter 72 = .ok (.getfield 26, 3) := by decide +kernel
theorem dX6_enter_75 : decode cX6_enter 75 = .ok (.iconst 1, 1) := by decide +kernel
theorem dX6_enter_76 : decode cX6_enter 76 = .ok (.iadd, 1) := by decide +kernel
theorem dX6_enter_77 : decode cX6_enter 77 = .ok (.iastore, 1) := by decide +kernel
theorem dX6_enter_78 : decode cX6_enter 78 = .ok (.aload_n 0, 1) := by decide +kernel
theorem dX6_enter_79 : decode cX6_enter 79 = .ok (.getfield 20, 3) := by decide +kernel
theorem dX6_enter_82 : decode cX6_enter 82 = .ok (.aload_n 0, 1) := by decide +kernel
theorem dX6_enter_83 : decode cX6_enter 83 = .ok (.getfield 26, 3) := by decide +kernel
theorem dX6_enter_86 : decode cX6_enter 86 = .ok (.iload 4, 2) := by decide +kernel
theorem dX6_enter_88 : decode cX6_enter 88 = .ok (.iastore, 1) := by decide +kernel
theorem dX6_enter_89 : decode cX6_enter 89 = .ok (.aload_n 0, 1) := by decide +kernel
theorem dX6_enter_90 : decode cX6_enter 90 = .ok (.dup, 1) := by decide +kernel
theorem dX6_enter_91 : decode cX6_enter 91 = .ok (.getfield 26, 3) := by decide +kernel
theorem dX6_enter_94 : decode cX6_enter 94 = .ok (.iconst 1, 1) := by decide +kernel
theorem dX6_enter_95 : decode cX6_enter 95 = .ok (.iadd, 1) := by decide +kernel
theorem dX6_enter_96 : decode cX6_enter 96 = .ok (.putfield 26, 3) := by decide +kernel
theorem dX6_enter_99 : decode cX6_enter 99 = .ok (.aload_n 0, 1) := by decide +kernel
theorem dX6_enter_100 : decode cX6_enter 100 = .ok (.getfield 16, 3) := by decide +kernel
theorem dX6_enter_103 : decode cX6_enter 103 = .ok (.aload_n 0, 1) := by decide +kernel
theorem dX6_enter_104 : decode cX6_enter 104 = .ok (.getfield 26, 3) := by decide +kernel
theorem dX6_enter_107 : decode cX6_enter 107 = .ok (.iload 5, 2) := by decide +kernel
theorem dX6_enter_109 : decode cX6_enter 109 = .ok (.iload_n 3, 1) := by decide +kernel
theorem dX6_enter_110 : decode cX6_enter 110 = .ok (.iadd, 1) := by decide +kernel
theorem dX6_enter_111 : decode cX6_enter 111 = .ok (.iload_n 2, 1) := by decide +kernel
theorem dX6_enter_112 : decode cX6_enter 112 = .ok (.isub, 1) := by decide +kernel
theorem dX6_enter_113 : decode cX6_enter 113 = .ok (.iastore, 1) := by decide +kernel
theorem dX6_enter_114 : decode cX6_enter 114 = .ok (.aload_n 0, 1) := by decide +kernel
theorem dX6_enter_115 : decode cX6_enter 115 = .ok (.getfield 26, 3) := by decide +kernel
theorem dX6_enter_118 : decode cX6_enter 118 = .ok (.iconst 1, 1) := by decide +kernel
theorem dX6_enter_119 : decode cX6_enter 119 = .ok (.isub, 1) := by decide +kernel
theorem dX6_enter_120 : decode cX6_enter 120 = .ok (.ireturn, 1) := by decide +kernel
theorem dX6_forgetFrom_0 : decode cX6_forgetFrom 0 = .ok (.aload_n 0, 1) := by decide +kernel
theorem dX6_forgetFrom_1 : decode cX6_forgetFrom 1 = .ok (.getfield 26, 3) := by decide +kernel
theorem dX6_forgetFrom_4 : decode cX6_forgetFrom 4 = .ok (.iconst 1, 1) := by decide +kernel
theorem dX6_forgetFrom_5 : decode cX6_forgetFrom 5 = .ok (.isub, 1) := by decide +kernel
theorem dX6_forgetFrom_6 : decode cX6_forgetFrom 6 = .ok (.istore_n 2, 1) := by decide +kernel
theorem dX6_forgetFrom_7 : decode cX6_forgetFrom 7 = .ok (.iload_n 2, 1) := by decide +kernel
theorem dX6_forgetFrom_8 : decode cX6_forgetFrom 8 = .ok (.iload_n 1, 1) := by decide +kernel
theorem dX6_forgetFrom_9 : decode cX6_forgetFrom 9 = .ok (.if_icmp .lt 30, 3) := by decide +kernel
theorem dX6_forgetFrom_12 : decode cX6_forgetFrom 12 = .ok (.iload_n 2, 1) := by decide +kernel
theorem dX6_forgetFrom_13 : decode cX6_forgetFrom 13 = .ok (.ifCond .lt 26, 3) := by decide +kernel
theorem dX6_forgetFrom_16 : decode cX6_forgetFrom 16 = .ok (.aload_n 0, 1) := by decide +kernel
theorem dX6_forgetFrom_17 : decode cX6_forgetFrom 17 = .ok (.getfield 23, 3) := by decide +kernel
theorem dX6_forgetFrom_20 : decode cX6_forgetFrom 20 = .ok (.aload_n 0, 1) := by decide +kernel
theorem dX6_forgetFrom_21 : decode cX6_forgetFrom 21 = .ok (.getfield 20, 3) := by decide +kernel
theorem dX6_forgetFrom_24 : decode cX6_forgetFrom 24 = .ok (.iload_n 2, 1) := by decide +kernel
theorem dX6_forgetFrom_25 : decode cX6_forgetFrom 25 = .ok (.iaload, 1) := by decide +kernel
theorem dX6_forgetFrom_26 : decode cX6_forgetFrom 26 = .ok (.iconst 0, 1) := by decide +kernel
theorem dX6_forgetFrom_27 : decode cX6_forgetFrom 27 = .ok (.iastore, 1) := by decide +kernel
theorem dX6_forgetFrom_28 : decode cX6_forgetFrom 28 = .ok (.aload_n 0, 1) := by decide +kernel
theorem dX6_forgetFrom_29 : decode cX6_forgetFrom 29 = .ok (.iload_n 2, 1) := by decide +kernel
theorem dX6_forgetFrom_30 : decode cX6_forgetFrom 30 = .ok (.putfield 26, 3) := by decide +kernel
theorem dX6_forgetFrom_33 : decode cX6_forgetFrom 33 = .ok (.iinc 2 (-1), 3) := by decide +kernel
theorem dX6_forgetFrom_36 : decode cX6_forgetFrom 36 = .ok (.goto (-29), 3) := by decide +kernel
theorem dX6_forgetFrom_39 : decode cX6_forgetFrom 39 = .ok (.return_, 1) := by decide +kernel
theorem dX7_init_0 : decode cX7_init 0 = .ok (.aload_n 0, 1) := by decide +kernel
theorem dX7_init_1 : decode cX7_init 1 = .ok (.invokespecial 3, 3) := by decide +kernel
theorem dX7_init_4 : decode cX7_init 4 = .ok (.aload_n 0, 1) := by decide +kernel
theorem dX7_init_5 : decode cX7_init 5 = .ok (.sipush 800, 3) := by decide +kernel
theorem dX7_init_8 : decode cX7_init 8 = .ok (.newarray .byte, 2) := by decide +kernel
theorem dX7_init_10 : decode cX7_init 10 = .ok (.putfield 9, 3) := by decide +kernel
theorem dX7_init_13 : decode cX7_init 13 = .ok (.aload_n 0, 1) := by decide +kernel
theorem dX7_init_14 : decode cX7_init 14 = .ok (.sipush 800, 3) := by decide +kernel
theorem dX7_init_17 : decode cX7_init 17 = .ok (.newarray .byte, 2) := by decide +kernel
theorem dX7_init_19 : decode cX7_init 19 = .ok (.putfield 15, 3) := by decide +kernel
theorem dX7_init_22 : decode cX7_init 22 = .ok (.aload_n 0, 1) := by decide +kernel
theorem dX7_init_23 : decode cX7_init 23 = .ok (.sipush 801, 3) := by decide +kernel
theorem dX7_init_26 : decode cX7_init 26 = .ok (.newarray .int, 2) := by decide +kernel
theorem dX7_init_28 : decode cX7_init 28 = .ok (.putfield 18, 3) := by decide +kernel
theorem dX7_init_31 : decode cX7_init 31 = .ok (.return_, 1) := by decide +kernel
theorem dX7_putFour_0 : decode cX7_putFour 0 = .ok (.bipush 24, 2) := by decide +kernel
theorem dX7_putFour_2 : decode cX7_putFour 2 = .ok (.istore_n 2, 1) := by decide +kernel
theorem dX7_putFour_3 : decode cX7_putFour 3 = .ok (.iload_n 2, 1) := by decide +kernel
theorem dX7_putFour_4 : decode cX7_putFour 4 = .ok (.ifCond .lt 42, 3) := by decide +kernel
theorem dX7_putFour_7 : decode cX7_putFour 7 = .ok (.aload_n 0, 1) := by decide +kernel
theorem dX7_putFour_8 : decode cX7_putFour 8 = .ok (.getfield 22, 3) := by decide +kernel
theorem dX7_putFour_11 : decode cX7_putFour 11 = .ok (.sipush 800, 3) := by decide +kernel
theorem dX7_putFour_14 : decode cX7_putFour 14 = .ok (.if_icmp .ge 26, 3) := by decide +kernel
theorem dX7_putFour_17 : decode cX7_putFour 17 = .ok (.aload_n 0, 1) := by decide +kernel
theorem dX7_putFour_18 : decode cX7_putFour 18 = .ok (.getfield 9, 3) := by decide +kernel
theorem dX7_putFour_21 : decode cX7_putFour 21 = .ok (.aload_n 0, 1) := by decide +kernel
theorem dX7_putFour_22 : decode cX7_putFour 22 = .ok (.getfield 22, 3) := by decide +kernel
theorem dX7_putFour_25 : decode cX7_putFour 25 = .ok (.iload_n 1, 1) := by decide +kernel
theorem dX7_putFour_26 : decode cX7_putFour 26 = .ok (.iload_n 2, 1) := by decide +kernel
theorem dX7_putFour_27 : decode cX7_putFour 27 = .ok (.iushr, 1) := by decide +kernel
theorem dX7_putFour_28 : decode cX7_putFour 28 = .ok (.i2b, 1) := by decide +kernel
theorem dX7_putFour_29 : decode cX7_putFour 29 = .ok (.bastore, 1) := by decide +kernel
theorem dX7_putFour_30 : decode cX7_putFour 30 = .ok (.aload_n 0, 1) := by decide +kernel
theorem dX7_putFour_31 : decode cX7_putFour 31 = .ok (.dup, 1) := by decide +kernel
theorem dX7_putFour_32 : decode cX7_putFour 32 = .ok (.getfield 22, 3) := by decide +kernel
theorem dX7_putFour_35 : decode cX7_putFour 35 = .ok (.iconst 1, 1) := by decide +kernel
theorem dX7_putFour_36 : decode cX7_putFour 36 = .ok (.iadd, 1) := by decide +kernel
theorem dX7_putFour_37 : decode cX7_putFour 37 = .ok (.putfield 22, 3) := by decide +kernel
theorem dX7_putFour_40 : decode cX7_putFour 40 = .ok (.iinc 2 (-8), 3) := by decide +kernel
theorem dX7_putFour_43 : decode cX7_putFour 43 = .ok (.goto (-40), 3) := by decide +kernel
theorem dX7_putFour_46 : decode cX7_putFour 46 = .ok (.return_, 1) := by decide +kernel
theorem dX7_cutTo_0 : decode cX7_cutTo 0 = .ok (.iload_n 1, 1) := by decide +kernel
theorem dX7_cutTo_1 : decode cX7_cutTo 1 = .ok (.ifCond .lt 11, 3) := by decide +kernel
theorem dX7_cutTo_4 : decode cX7_cutTo 4 = .ok (.iload_n 1, 1) := by decide +kernel
theorem dX7_cutTo_5 : decode cX7_cutTo 5 = .ok (.aload_n 0, 1) := by decide +kernel
theorem dX7_cutTo_6 : decode cX7_cutTo 6 = .ok (.getfield 22, 3) := by decide +kernel
theorem dX7_cutTo_9 : decode cX7_cutTo 9 = .ok (.if_icmp .le 5, 3) := by decide +kernel
theorem dX7_cutTo_12 : decode cX7_cutTo 12 = .ok (.iconst 0, 1) := by decide +kernel
theorem dX7_cutTo_13 : decode cX7_cutTo 13 = .ok (.ireturn, 1) := by decide +kernel
theorem dX7_cutTo_14 : decode cX7_cutTo 14 = .ok (.aload_n 0, 1) := by decide +kernel
theorem dX7_cutTo_15 : decode cX7_cutTo 15 = .ok (.iload_n 1, 1) := by decide +kernel
theorem dX7_cutTo_16 : decode cX7_cutTo 16 = .ok (.putfield 22, 3) := by decide +kernel
theorem dX7_cutTo_19 : decode cX7_cutTo 19 = .ok (.iconst 1, 1) := by decide +kernel
theorem dX7_cutTo_20 : decode cX7_cutTo 20 = .ok (.ireturn, 1) := by decide +kernel
theorem dX7_makePlain_0 : decode cX7_makePlain 0 = .ok (.aload_n 0, 1) := by decide +kernel
theorem dX7_makePlain_1 : decode cX7_makePlain 1 = .ok (.iconst 0, 1) := by decide +kernel
theorem dX7_makePlain_2 : decode cX7_makePlain 2 = .ok (.putfield 26, 3) := by decide +kernel
theorem dX7_makePlain_5 : decode cX7_makePlain 5 = .ok (.iconst 0, 1) := by decide +kernel
theorem dX7_makePlain_6 : decode cX7_makePlain 6 = .ok (.istore_n 1, 1) := by decide +kernel
theorem dX7_makePlain_7 : decode cX7_makePlain 7 = .ok (.iconst 0, 1) := by decide +kernel
theorem dX7_makePlain_8 : decode cX7_makePlain 8 = .ok (.istore_n 2, 1) := by decide +kernel
theorem dX7_makePlain_9 : decode cX7_makePlain 9 = .ok (.iload_n 2, 1) := by decide +kernel
theorem dX7_makePlain_10 : decode cX7_makePlain 10 = .ok (.aload_n 0, 1) := by decide +kernel
theorem dX7_makePlain_11 : decode cX7_makePlain 11 = .ok (.getfield 22, 3) := by decide +kernel
theorem dX7_makePlain_14 : decode cX7_makePlain 14 = .ok (.if_icmp .ge 58, 3) := by decide +kernel
theorem dX7_makePlain_17 : decode cX7_makePlain 17 = .ok (.aload_n 0, 1) := by decide +kernel
theorem dX7_makePlain_18 : decode cX7_makePlain 18 = .ok (.getfield 9, 3) := by decide +kernel
theorem dX7_makePlain_21 : decode cX7_makePlain 21 = .ok (.iload_n 2, 1) := by decide +kernel
theorem dX7_makePlain_22 : decode cX7_makePlain 22 = .ok (.baload, 1) := by decide +kernel
theorem dX7_makePlain_23 : decode cX7_makePlain 23 = .ok (.invokestatic 29, 3) := by decide +kernel
theorem dX7_makePlain_26 : decode cX7_makePlain 26 = .ok (.istore_n 3, 1) := by decide +kernel
theorem dX7_makePlain_27 : decode cX7_makePlain 27 = .ok (.iload_n 3, 1) := by decide +kernel
theorem dX7_makePlain_28 : decode cX7_makePlain 28 = .ok (.bipush 32, 2) := by decide +kernel
theorem dX7_makePlain_30 : decode cX7_makePlain 30 = .ok (.if_icmp .ne 19, 3) := by decide +kernel
theorem dX7_makePlain_33 : decode cX7_makePlain 33 = .ok (.aload_n 0, 1) := by decide +kernel
theorem dX7_makePlain_34 : decode cX7_makePlain 34 = .ok (.getfield 26, 3) := by decide +kernel
theorem dX7_makePlain_37 : decode cX7_makePlain 37 = .ok (.ifCond .le 7, 3) := by decide +kernel
theorem dX7_makePlain_40 : decode cX7_makePlain 40 = .ok (.iconst 1, 1) := by decide +kernel
theorem dX7_makePlain_41 : decode cX7_makePlain 41 = .ok (.goto 4, 3) := by decide +kernel
theorem dX7_makePlain_44 : decode cX7_makePlain 44 = .ok (.iconst 0, 1) := by decide +kernel
theorem dX7_makePlain_45 : decode cX7_makePlain 45 = .ok (.istore_n 1, 1) := by decide +kernel
theorem dX7_makePlain_46 : decode cX7_makePlain 46 = .ok (.goto 20, 3) := by decide +kernel
theorem dX7_makePlain_49 : decode cX7_makePlain 49 = .ok (.iload_n 1, 1) := by decide +kernel
theorem dX7_makePlain_50 : decode cX7_makePlain 50 = .ok (.ifCond .eq 9, 3) := by decide +kernel
theorem dX7_makePlain_53 : decode cX7_makePlain 53 = .ok (.aload_n 0, 1) := by decide +kernel
theorem dX7_makePlain_54 : decode cX7_makePlain 54 = .ok (.bipush 32, 2) := by decide +kernel
theorem dX7_makePlain_56 : decode cX7_makePlain 56 = .ok (.invokevirtual 33, 3) := by decide +kernel
theorem dX7_makePlain_59 : decode cX7_makePlain 59 = .ok (.iconst 0, 1) := by decide +kernel
theorem dX7_makePlain_60 : decode cX7_makePlain 60 = .ok (.istore_n 1, 1) := by decide +kernel
theorem dX7_makePlain_61 : decode cX7_makePlain 61 = .ok (.aload_n 0, 1) := by decide +kernel
theorem dX7_makePlain_62 : decode cX7_makePlain 62 = .ok (.iload_n 3, 1) := by decide +kernel
theorem dX7_makePlain_63 : decode cX7_makePlain 63 = .ok (.invokevirtual 33, 3) := by decide +kernel
theorem dX7_makePlain_66 : decode cX7_makePlain 66 = .ok (.iinc 2 1, 3) := by decide +kernel
theorem dX7_makePlain_69 : decode cX7_makePlain 69 = .ok (.goto (-60), 3) := by decide +kernel
theorem dX7_makePlain_72 : decode cX7_makePlain 72 = .ok (.aload_n 0, 1) := by decide +kernel
theorem dX7_makePlain_73 : decode cX7_makePlain 73 = .ok (.getfield 26, 3) := by decide +kernel
theorem dX7_makePlain_76 : decode cX7_makePlain 76 = .ok (.ireturn, 1) := by decide +kernel
theorem dX7_putPlain_0 : decode cX7_putPlain 0 = .ok (.aload_n 0, 1) := by decide +kernel
theorem dX7_putPlain_1 : decode cX7_putPlain 1 = .ok (.getfield 26, 3) := by decide +kernel
theorem dX7_putPlain_4 : decode cX7_putPlain 4 = .ok (.sipush 800, 3) := by decide +kernel
theorem dX7_putPlain_7 : decode cX7_putPlain 7 = .ok (.if_icmp .ge 24, 3) := by decide +kernel
theorem dX7_putPlain_10 : decode cX7_putPlain 10 = .ok (.aload_n 0, 1) := by decide +kernel
theorem dX7_putPlain_11 : decode cX7_putPlain 11 = .ok (.getfield 15, 3) := by decide +kernel
theorem dX7_putPlain_14 : decode cX7_putPlain 14 = .ok (.aload_n 0, 1) := by decide +kernel
theorem dX7_putPlain_15 : decode cX7_putPlain 15 = .ok (.getfield 26, 3) := by decide +kernel
theorem dX7_putPlain_18 : decode cX7_putPlain 18 = .ok (.iload_n 1, 1) := by decide +kernel
theorem dX7_putPlain_19 : decode cX7_putPlain 19 = .ok (.i2b, 1) := by decide +kernel
theorem dX7_putPlain_20 : decode cX7_putPlain 20 = .ok (.bastore, 1) := by decide +kernel
theorem dX7_putPlain_21 : decode cX7_putPlain 21 = .ok (.aload_n 0, 1) := by decide +kernel
theorem dX7_putPlain_22 : decode cX7_putPlain 22 = .ok (.dup, 1) := by decide +kernel
theorem dX7_putPlain_23 : decode cX7_putPlain 23 = .ok (.getfield 26, 3) := by decide +kernel
theorem dX7_putPlain_26 : decode cX7_putPlain 26 = .ok (.iconst 1, 1) := by decide +kernel
theorem dX7_putPlain_27 : decode cX7_putPlain 27 = .ok (.iadd, 1) := by decide +kernel
theorem dX7_putPlain_28 : decode cX7_putPlain 28 = .ok (.putfield 26, 3) := by decide +kernel
theorem dX7_putPlain_31 : decode cX7_putPlain 31 = .ok (.return_, 1) := by decide +kernel
theorem dX7_plainSign_0 : decode cX7_plainSign 0 = .ok (.iload_n 0, 1) := by decide +kernel
theorem dX7_plainSign_1 : decode cX7_plainSign 1 = .ok (.bipush 65, 2) := by decide +kernel
theorem dX7_plainSign_3 : decode cX7_plainSign 3 = .ok (.if_icmp .lt 17, 3) := by decide +kernel
theorem dX7_plainSign_6 : decode cX7_plainSign 6 = .ok (.iload_n 0, 1) := by decide +kernel
theorem dX7_plainSign_7 : decode cX7_plainSign 7 = .ok (.bipush 90, 2) := by decide +kernel
theorem dX7_plainSign_9 : decode cX7_plainSign 9 = .ok (.if_icmp .gt 11, 3) := by decide +kernel
theorem dX7_plainSign_12 : decode cX7_plainSign 12 = .ok (.iload_n 0, 1) := by decide +kernel
theorem dX7_plainSign_13 : decode cX7_plainSign 13 = .ok (.bipush 65, 2) := by decide +kernel
theorem dX7_plainSign_15 : decode cX7_plainSign 15 = .ok (.isub, 1) := by decide +kernel
theorem dX7_plainSign_16 : decode cX7_plainSign 16 = .ok (.bipush 97, 2) := by decide +kernel
theorem dX7_plainSign_18 : decode cX7_plainSign 18 = .ok (.iadd, 1) := by decide +kernel
theorem dX7_plainSign_19 : decode cX7_plainSign 19 = .ok (.ireturn, 1) := by decide +kernel
theorem dX7_plainSign_20 : decode cX7_plainSign 20 = .ok (.iload_n 0, 1) := by decide +kernel
theorem dX7_plainSign_21 : decode cX7_plainSign 21 = .ok (.bipush 97, 2) := by decide +kernel
theorem dX7_plainSign_23 : decode cX7_plainSign 23 = .ok (.if_icmp .lt 9, 3) := by decide +kernel
theorem dX7_plainSign_26 : decode cX7_plainSign 26 = .ok (.iload_n 0, 1) := by decide +kernel
theorem dX7_plainSign_27 : decode cX7_plainSign 27 = .ok (.bipush 122, 2) := by decide +kernel
theorem dX7_plainSign_29 : decode cX7_plainSign 29 = .ok (.if_icmp .le 15, 3) := by decide +kernel
theorem dX7_plainSign_32 : decode cX7_plainSign 32 = .ok (.iload_n 0, 1) := by decide +kernel
theorem dX7_plainSign_33 : decode cX7_plainSign 33 = .ok (.bipush 48, 2) := by decide +kernel
theorem dX7_plainSign_35 : decode cX7_plainSign 35 = .ok (.if_icmp .lt 13, 3) := by decide +kernel
theorem dX7_plainSign_38 : decode cX7_plainSign 38 = .ok (.iload_n 0, 1) := by decide +kernel
theorem dX7_plainSign_39 : decode cX7_plainSign 39 = .ok (.bipush 57, 2) := by decide +kernel
theorem dX7_plainSign_41 : decode cX7_plainSign 41 = .ok (.if_icmp .gt 7, 3) := by decide +kernel
theorem dX7_plainSign_44 : decode cX7_plainSign 44 = .ok (.iconst 1, 1) := by decide +kernel
theorem dX7_plainSign_45 : decode cX7_plainSign 45 = .ok (.goto 4, 3) := by decide +kernel
theorem dX7_plainSign_48 : decode cX7_plainSign 48 = .ok (.iconst 0, 1) := by decide +kernel
theorem dX7_plainSign_49 : decode cX7_plainSign 49 = .ok (.istore_n 1, 1) := by decide +kernel
theorem dX7_plainSign_50 : decode cX7_plainSign 50 = .ok (.iload_n 1, 1) := by decide +kernel
theorem dX7_plainSign_51 : decode cX7_plainSign 51 = .ok (.ifCond .eq 7, 3) := by decide +kernel
theorem dX7_plainSign_54 : decode cX7_plainSign 54 = .ok (.iload_n 0, 1) := by decide +kernel
theorem dX7_plainSign_55 : decode cX7_plainSign 55 = .ok (.goto 5, 3) := by decide +kernel
theorem dX7_plainSign_58 : decode cX7_plainSign 58 = .ok (.bipush 32, 2) := by decide +kernel
theorem dX7_plainSign_60 : decode cX7_plainSign 60 = .ok (.ireturn, 1) := by decide +kernel
theorem dX7_markPieces_0 : decode cX7_markPieces 0 = .ok (.aload_n 0, 1) := by decide +kernel
theorem dX7_markPieces_1 : decode cX7_markPieces 1 = .ok (.iload_n 1, 1) := by decide +kernel
theorem dX7_markPieces_2 : decode cX7_markPieces 2 = .ok (.ifCond .eq 7, 3) := by decide +kernel
theorem dX7_markPieces_5 : decode cX7_markPieces 5 = .ok (.iconst 1, 1) := by decide +kernel
theorem dX7_markPieces_6 : decode cX7_markPieces 6 = .ok (.goto 4, 3) := by decide +kernel
theorem dX7_markPieces_9 : decode cX7_markPieces 9 = .ok (.iconst 0, 1) := by decide +kernel
theorem dX7_markPieces_10 : decode cX7_markPieces 10 = .ok (.putfield 37, 3) := by decide +kernel
theorem dX7_markPieces_13 : decode cX7_markPieces 13 = .ok (.aload_n 0, 1) := by decide +kernel
theorem dX7_markPieces_14 : decode cX7_markPieces 14 = .ok (.iconst 0, 1) := by decide +kernel
theorem dX7_markPieces_15 : decode cX7_markPieces 15 = .ok (.putfield 40, 3) := by decide +kernel
theorem dX7_markPieces_18 : decode cX7_markPieces 18 = .ok (.iconst 0, 1) := by decide +kernel
theorem dX7_markPieces_19 : decode cX7_markPieces 19 = .ok (.istore_n 2, 1) := by decide +kernel
theorem dX7_markPieces_20 : decode cX7_markPieces 20 = .ok (.iload_n 2, 1) := by decide +kernel
theorem dX7_markPieces_21 : decode cX7_markPieces 21 = .ok (.aload_n 0, 1) := by decide +kernel
theorem dX7_markPieces_22 : decode cX7_markPieces 22 = .ok (.getfield 26, 3) := by decide +kernel
theorem dX7_markPieces_25 : decode cX7_markPieces 25 = .ok (.if_icmp .ge 50, 3) := by decide +kernel
theorem dX7_markPieces_28 : decode cX7_markPieces 28 = .ok (.iload_n 1, 1) := by decide +kernel
theorem dX7_markPieces_29 : decode cX7_markPieces 29 = .ok (.ifCond .eq 20, 3) := by decide +kernel
theorem dX7_markPieces_32 : decode cX7_markPieces 32 = .ok (.iload_n 2, 1) := by decide +kernel
theorem dX7_markPieces_33 : decode cX7_markPieces 33 = .ok (.ifCond .eq 16, 3) := by decide +kernel
theorem dX7_markPieces_36 : decode cX7_markPieces 36 = .ok (.aload_n 0, 1) := by decide +kernel
theorem dX7_markPieces_37 : decode cX7_markPieces 37 = .ok (.getfield 15, 3) := by decide +kernel
theorem dX7_markPieces_40 : decode cX7_markPieces 40 = .ok (.iload_n 2, 1) := by decide +kernel
theorem dX7_markPieces_41 : decode cX7_markPieces 41 = .ok (.iconst 1, 1) := by decide +kernel
theorem dX7_markPieces_42 : decode cX7_markPieces 42 = .ok (.isub, 1) := by decide +kernel
theorem dX7_markPieces_43 : decode cX7_markPieces 43 = .ok (.baload, 1) := by decide +kernel
theorem dX7_markPieces_44 : decode cX7_markPieces 44 = .ok (.bipush 32, 2) := by decide +kernel
theorem dX7_markPieces_46 : decode cX7_markPieces 46 = .ok (.if_icmp .ne 23, 3) := by decide +kernel
theorem dX7_markPieces_49 : decode cX7_markPieces 49 = .ok (.aload_n 0, 1) := by decide +kernel
theorem dX7_markPieces_50 : decode cX7_markPieces 50 = .ok (.getfield 18, 3) := by decide +kernel
theorem dX7_markPieces_53 : decode cX7_markPieces 53 = .ok (.aload_n 0, 1) := by decide +kernel
theorem dX7_markPieces_54 : decode cX7_markPieces 54 = .ok (.getfield 40, 3) := by decide +kernel
theorem dX7_markPieces_57 : decode cX7_markPieces 57 = .ok (.iload_n 2, 1) := by decide +kernel
theorem dX7_markPieces_58 : decode cX7_markPieces 58 = .ok (.iastore, 1) := by decide +kernel
theorem dX7_markPieces_59 : decode cX7_markPieces 59 = .ok (.aload_n 0, 1) := by decide +kernel
theorem dX7_markPieces_60 : decode cX7_markPieces 60 = .ok (.dup, 1) := by decide +kernel
theorem dX7_markPieces_61 : decode cX7_markPieces 61 = .ok (.getfield 40, 3) := by decide +kernel
theorem dX7_markPieces_64 : decode cX7_markPieces 64 = .ok (.iconst 1, 1) := by decide +kernel
theorem dX7_markPieces_65 : decode cX7_markPieces 65 = .ok (.iadd, 1) := by decide +kernel
theorem dX7_markPieces_66 : decode cX7_markPieces 66 = .ok (.putfield 40, 3) := by decide +kernel
theorem dX7_markPieces_69 : decode cX7_markPieces 69 = .ok (.iinc 2 1, 3) := by decide +kernel
theorem dX7_markPieces_72 : decode cX7_markPieces 72 = .ok (.goto (-52), 3) := by decide +kernel
theorem dX7_markPieces_75 : decode cX7_markPieces 75 = .ok (.aload_n 0, 1) := by decide +kernel
theorem dX7_markPieces_76 : decode cX7_markPieces 76 = .ok (.getfield 18, 3) := by decide +kernel
theorem dX7_markPieces_79 : decode cX7_markPieces 79 = .ok (.aload_n 0, 1) := by decide +kernel
theorem dX7_markPieces_80 : decode cX7_markPieces 80 = .ok (.getfield 40, 3) := by decide +kernel
theorem dX7_markPieces_83 : decode cX7_markPieces 83 = .ok (.aload_n 0, 1) := by decide +kernel
theorem dX7_markPieces_84 : decode cX7_markPieces 84 = .ok (.getfield 26, 3) := by decide +kernel
theorem dX7_markPieces_87 : decode cX7_markPieces 87 = .ok (.aload_n 0, 1) := by decide +kernel
theorem dX7_markPieces_88 : decode cX7_markPieces 88 = .ok (.getfield 37, 3) := by decide +kernel
theorem dX7_markPieces_91 : decode cX7_markPieces 91 = .ok (.iadd, 1) := by decide +kernel
theorem dX7_markPieces_92 : decode cX7_markPieces 92 = .ok (.iastore, 1) := by decide +kernel
theorem dX7_markPieces_93 : decode cX7_markPieces 93 = .ok (.return_, 1) := by decide +kernel
theorem dJ13_bitCount_95d88_0 : decode cJ13_bitCount_95d88 0 = .ok (.lload_n 0, 1) := by decide +kernel
theorem dJ13_bitCount_95d88_1 : decode cJ13_bitCount_95d88 1 = .ok (.lload_n 0, 1) := by decide +kernel
theorem dJ13_bitCount_95d88_2 : decode cJ13_bitCount_95d88 2 = .ok (.iconst 1, 1) := by decide +kernel
theorem dJ13_bitCount_95d88_3 : decode cJ13_bitCount_95d88 3 = .ok (.lushr, 1) := by decide +kernel
theorem dJ13_bitCount_95d88_4 : decode cJ13_bitCount_95d88 4 = .ok (.ldc2_w 314, 3) := by decide +kernel
theorem dJ13_bitCount_95d88_7 : decode cJ13_bitCount_95d88 7 = .ok (.land, 1) := by decide +kernel
theorem dJ13_bitCount_95d88_8 : decode cJ13_bitCount_95d88 8 = .ok (.lsub, 1) := by decide +kernel
theorem dJ13_bitCount_95d88_9 : decode cJ13_bitCount_95d88 9 = .ok (.lstore_n 0, 1) := by decide +kernel
theorem dJ13_bitCount_95d88_10 : decode cJ13_bitCount_95d88 10 = .ok (.lload_n 0, 1) := by decide +kernel
theorem dJ13_bitCount_95d88_11 : decode cJ13_bitCount_95d88 11 = .ok (.ldc2_w 316, 3) := by decide +kernel
theorem dJ13_bitCount_95d88_14 : decode cJ13_bitCount_95d88 14 = .ok (.land, 1) := by decide +kernel
theorem dJ13_bitCount_95d88_15 : decode cJ13_bitCount_95d88 15 = .ok (.lload_n 0, 1) := by decide +kernel
theorem dJ13_bitCount_95d88_16 : decode cJ13_bitCount_95d88 16 = .ok (.iconst 2, 1) := by decide +kernel
theorem dJ13_bitCount_95d88_17 : decode cJ13_bitCount_95d88 17 = .ok (.lushr, 1) := by decide +kernel
theorem dJ13_bitCount_95d88_18 : decode cJ13_bitCount_95d88 18 = .ok (.ldc2_w 316, 3) := by decide +kernel
theorem dJ13_bitCount_95d88_21 : decode cJ13_bitCount_95d88 21 = .ok (.land, 1) := by decide +kernel
theorem dJ13_bitCount_95d88_22 : decode cJ13_bitCount_95d88 22 = .ok (.ladd, 1) := by decide +kernel
theorem dJ13_bitCount_95d88_23 : decode cJ13_bitCount_95d88 23 = .ok (.lstore_n 0, 1) := by decide +kernel
theorem dJ13_bitCount_95d88_24 : decode cJ13_bitCount_95d88 24 = .ok (.lload_n 0, 1) := by decide +kernel
theorem dJ13_bitCount_95d88_25 : decode cJ13_bitCount_95d88 25 = .ok (.lload_n 0, 1) := by decide +kernel
theorem dJ13_bitCount_95d88_26 : decode cJ13_bitCount_95d88 26 = .ok (.iconst 4, 1) := by decide +kernel
theorem dJ13_bitCount_95d88_27 : decode cJ13_bitCount_95d88 27 = .ok (.lushr, 1) := by decide +kernel
theorem dJ13_bitCount_95d88_28 : decode cJ13_bitCount_95d88 28 = .ok (.ladd, 1) := by decide +kernel
theorem dJ13_bitCount_95d88_29 : decode cJ13_bitCount_95d88 29 = .ok (.ldc2_w 318, 3) := by decide +kernel
theorem dJ13_bitCount_95d88_32 : decode cJ13_bitCount_95d88 32 = .ok (.land, 1) := by decide +kernel
theorem dJ13_bitCount_95d88_33 : decode cJ13_bitCount_95d88 33 = .ok (.lstore_n 0, 1) := by decide +kernel
theorem dJ13_bitCount_95d88_34 : decode cJ13_bitCount_95d88 34 = .ok (.lload_n 0, 1) := by decide +kernel
theorem dJ13_bitCount_95d88_35 : decode cJ13_bitCount_95d88 35 = .ok (.lload_n 0, 1) := by decide +kernel
theorem dJ13_bitCount_95d88_36 : decode cJ13_bitCount_95d88 36 = .ok (.bipush 8, 2) := by decide +kernel
theorem dJ13_bitCount_95d88_38 : decode cJ13_bitCount_95d88 38 = .ok (.lushr, 1) := by decide +kernel
theorem dJ13_bitCount_95d88_39 : decode cJ13_bitCount_95d88 39 = .ok (.ladd, 1) := by decide +kernel
theorem dJ13_bitCount_95d88_40 : decode cJ13_bitCount_95d88 40 = .ok (.lstore_n 0, 1) := by decide +kernel
theorem dJ13_bitCount_95d88_41 : decode cJ13_bitCount_95d88 41 = .ok (.lload_n 0, 1) := by decide +kernel
theorem dJ13_bitCount_95d88_42 : decode cJ13_bitCount_95d88 42 = .ok (.lload_n 0, 1) := by decide +kernel
theorem dJ13_bitCount_95d88_43 : decode cJ13_bitCount_95d88 43 = .ok (.bipush 16, 2) := by decide +kernel
theorem dJ13_bitCount_95d88_45 : decode cJ13_bitCount_95d88 45 = .ok (.lushr, 1) := by decide +kernel
theorem dJ13_bitCount_95d88_46 : decode cJ13_bitCount_95d88 46 = .ok (.ladd, 1) := by decide +kernel
theorem dJ13_bitCount_95d88_47 : decode cJ13_bitCount_95d88 47 = .ok (.lstore_n 0, 1) := by decide +kernel
theorem dJ13_bitCount_95d88_48 : decode cJ13_bitCount_95d88 48 = .ok (.lload_n 0, 1) := by decide +kernel
theorem dJ13_bitCount_95d88_49 : decode cJ13_bitCount_95d88 49 = .ok (.lload_n 0, 1) := by decide +kernel
theorem dJ13_bitCount_95d88_50 : decode cJ13_bitCount_95d88 50 = .ok (.bipush 32, 2) := by decide +kernel
theorem dJ13_bitCount_95d88_52 : decode cJ13_bitCount_95d88 52 = .ok (.lushr, 1) := by decide +kernel
theorem dJ13_bitCount_95d88_53 : decode cJ13_bitCount_95d88 53 = .ok (.ladd, 1) := by decide +kernel
theorem dJ13_bitCount_95d88_54 : decode cJ13_bitCount_95d88 54 = .ok (.lstore_n 0, 1) := by decide +kernel
theorem dJ13_bitCount_95d88_55 : decode cJ13_bitCount_95d88 55 = .ok (.lload_n 0, 1) := by decide +kernel
theorem dJ13_bitCount_95d88_56 : decode cJ13_bitCount_95d88 56 = .ok (.l2i, 1) := by decide +kernel
theorem dJ13_bitCount_95d88_57 : decode cJ13_bitCount_95d88 57 = .ok (.bipush 127, 2) := by decide +kernel
theorem dJ13_bitCount_95d88_59 : decode cJ13_bitCount_95d88 59 = .ok (.iand, 1) := by decide +kernel
theorem dJ13_bitCount_95d88_60 : decode cJ13_bitCount_95d88 60 = .ok (.ireturn, 1) := by decide +kernel
theorem dJ9_max_7cf53_0 : decode cJ9_max_7cf53 0 = .ok (.iload_n 0, 1) := by decide +kernel
theorem dJ9_max_7cf53_1 : decode cJ9_max_7cf53 1 = .ok (.iload_n 1, 1) := by decide +kernel
theorem dJ9_max_7cf53_2 : decode cJ9_max_7cf53 2 = .ok (.if_icmp .lt 7, 3) := by decide +kernel
theorem dJ9_max_7cf53_5 : decode cJ9_max_7cf53 5 = .ok (.iload_n 0, 1) := by decide +kernel
theorem dJ9_max_7cf53_6 : decode cJ9_max_7cf53 6 = .ok (.goto 4, 3) := by decide +kernel
theorem dJ9_max_7cf53_9 : decode cJ9_max_7cf53 9 = .ok (.iload_n 1, 1) := by decide +kernel
theorem dJ9_max_7cf53_10 : decode cJ9_max_7cf53 10 = .ok (.ireturn, 1) := by decide +kernel
theorem dJ9_min_7cf53_0 : decode cJ9_min_7cf53 0 = .ok (.iload_n 0, 1) := by decide +kernel
theorem dJ9_min_7cf53_1 : decode cJ9_min_7cf53 1 = .ok (.iload_n 1, 1) := by decide +kernel
theorem dJ9_min_7cf53_2 : decode cJ9_min_7cf53 2 = .ok (.if_icmp .gt 7, 3) := by decide +kernel
theorem dJ9_min_7cf53_5 : decode cJ9_min_7cf53 5 = .ok (.iload_n 0, 1) := by decide +kernel
theorem dJ9_min_7cf53_6 : decode cJ9_min_7cf53 6 = .ok (.goto 4, 3) := by decide +kernel
theorem dJ9_min_7cf53_9 : decode cJ9_min_7cf53 9 = .ok (.iload_n 1, 1) := by decide +kernel
theorem dJ9_min_7cf53_10 : decode cJ9_min_7cf53 10 = .ok (.ireturn, 1) := by decide +kernel
theorem dJxa1e45_init_da8c8_0 : decode cJxa1e45_init_da8c8 0 = .ok (.aload_n 0, 1) := by decide +kernel
theorem dJxa1e45_init_da8c8_1 : decode cJxa1e45_init_da8c8 1 = .ok (.invokespecial 1, 3) := by decide +kernel
theorem dJxa1e45_init_da8c8_4 : decode cJxa1e45_init_da8c8 4 = .ok (.return_, 1) := by decide +kernel
theorem dJxc12de_init_da8c8_0 : decode cJxc12de_init_da8c8 0 = .ok (.aload_n 0, 1) := by decide +kernel
theorem dJxc12de_init_da8c8_1 : decode cJxc12de_init_da8c8 1 = .ok (.invokespecial 1, 3) := by decide +kernel
theorem dJxc12de_init_da8c8_4 : decode cJxc12de_init_da8c8 4 = .ok (.aload_n 0, 1) := by decide +kernel
theorem dJxc12de_init_da8c8_5 : decode cJxc12de_init_da8c8 5 = .ok (.iconst 0, 1) := by decide +kernel
theorem dJxc12de_init_da8c8_6 : decode cJxc12de_init_da8c8 6 = .ok (.putfield 7, 3) := by decide +kernel
theorem dJxc12de_init_da8c8_9 : decode cJxc12de_init_da8c8 9 = .ok (.return_, 1) := by decide +kernel
theorem dJx4a65c_init_da8c8_0 : decode cJx4a65c_init_da8c8 0 = .ok (.aload_n 0, 1) := by decide +kernel
theorem dJx4a65c_init_da8c8_1 : decode cJx4a65c_init_da8c8 1 = .ok (.invokespecial 1, 3) := by decide +kernel
theorem dJx4a65c_init_da8c8_4 : decode cJx4a65c_init_da8c8 4 = .ok (.aload_n 0, 1) := by decide +kernel
theorem dJx4a65c_init_da8c8_5 : decode cJx4a65c_init_da8c8 5 = .ok (.getstatic 39, 3) := by decide +kernel
theorem dJx4a65c_init_da8c8_8 : decode cJx4a65c_init_da8c8 8 = .ok (.putfield 9, 3) := by decide +kernel
theorem dJx4a65c_init_da8c8_11 : decode cJx4a65c_init_da8c8 11 = .ok (.return_, 1) := by decide +kernel
theorem dJx4a65c_grow_92f84_0 : decode cJx4a65c_grow_92f84 0 = .ok (.aload_n 0, 1) := by decide +kernel
theorem dJx4a65c_grow_92f84_1 : decode cJx4a65c_grow_92f84 1 = .ok (.getfield 9, 3) := by decide +kernel
theorem dJx4a65c_grow_92f84_4 : decode cJx4a65c_grow_92f84 4 = .ok (.arraylength, 1) := by decide +kernel
theorem dJx4a65c_grow_92f84_5 : decode cJx4a65c_grow_92f84 5 = .ok (.istore_n 2, 1) := by decide +kernel
theorem dJx4a65c_grow_92f84_6 : decode cJx4a65c_grow_92f84 6 = .ok (.iload_n 2, 1) := by decide +kernel
theorem dJx4a65c_grow_92f84_7 : decode cJx4a65c_grow_92f84 7 = .ok (.ifCond .gt 13, 3) := by decide +kernel
theorem dJx4a65c_grow_92f84_10 : decode cJx4a65c_grow_92f84 10 = .ok (.aload_n 0, 1) := by decide +kernel
theorem dJx4a65c_grow_92f84_11 : decode cJx4a65c_grow_92f84 11 = .ok (.getfield 9, 3) := by decide +kernel
theorem dJx4a65c_grow_92f84_14 : decode cJx4a65c_grow_92f84 14 = .ok (.getstatic 39, 3) := by decide +kernel
theorem dJx4a65c_grow_92f84_17 : decode cJx4a65c_grow_92f84 17 = .ok (.if_acmp .eq 28, 3) := by decide +kernel
theorem dJx4a65c_grow_92f84_20 : decode cJx4a65c_grow_92f84 20 = .ok (.iload_n 2, 1) := by decide +kernel
theorem dJx4a65c_grow_92f84_21 : decode cJx4a65c_grow_92f84 21 = .ok (.iload_n 1, 1) := by decide +kernel
theorem dJx4a65c_grow_92f84_22 : decode cJx4a65c_grow_92f84 22 = .ok (.iload_n 2, 1) := by decide +kernel
theorem dJx4a65c_grow_92f84_23 : decode cJx4a65c_grow_92f84 23 = .ok (.isub, 1) := by decide +kernel
theorem dJx4a65c_grow_92f84_24 : decode cJx4a65c_grow_92f84 24 = .ok (.iload_n 2, 1) := by decide +kernel
theorem dJx4a65c_grow_92f84_25 : decode cJx4a65c_grow_92f84 25 = .ok (.iconst 1, 1) := by decide +kernel
theorem dJx4a65c_grow_92f84_26 : decode cJx4a65c_grow_92f84 26 = .ok (.ishr, 1) := by decide +kernel
theorem dJx4a65c_grow_92f84_27 : decode cJx4a65c_grow_92f84 27 = .ok (.invokestatic 73, 3) := by decide +kernel
theorem dJx4a65c_grow_92f84_30 : decode cJx4a65c_grow_92f84 30 = .ok (.istore_n 3, 1) := by decide +kernel
theorem dJx4a65c_grow_92f84_31 : decode cJx4a65c_grow_92f84 31 = .ok (.aload_n 0, 1) := by decide +kernel
theorem dJx4a65c_grow_92f84_32 : decode cJx4a65c_grow_92f84 32 = .ok (.aload_n 0, 1) := by decide +kernel
theorem dJx4a65c_grow_92f84_33 : decode cJx4a65c_grow_92f84 33 = .ok (.getfield 9, 3) := by decide +kernel
theorem dJx4a65c_grow_92f84_36 : decode cJx4a65c_grow_92f84 36 = .ok (.iload_n 3, 1) := by decide +kernel
theorem dJx4a65c_grow_92f84_37 : decode cJx4a65c_grow_92f84 37 = .ok (.invokestatic 66, 3) := by decide +kernel
theorem dJx4a65c_grow_92f84_40 : decode cJx4a65c_grow_92f84 40 = .ok (.dup_x1, 1) := by decide +kernel
theorem dJx4a65c_grow_92f84_41 : decode cJx4a65c_grow_92f84 41 = .ok (.putfield 9, 3) := by decide +kernel
theorem dJx4a65c_grow_92f84_44 : decode cJx4a65c_grow_92f84 44 = .ok (.areturn, 1) := by decide +kernel
theorem dJx4a65c_grow_92f84_45 : decode cJx4a65c_grow_92f84 45 = .ok (.aload_n 0, 1) := by decide +kernel
theorem dJx4a65c_grow_92f84_46 : decode cJx4a65c_grow_92f84 46 = .ok (.bipush 10, 2) := by decide +kernel
theorem dJx4a65c_grow_92f84_48 : decode cJx4a65c_grow_92f84 48 = .ok (.iload_n 1, 1) := by decide +kernel
theorem dJx4a65c_grow_92f84_49 : decode cJx4a65c_grow_92f84 49 = .ok (.invokestatic 79, 3) := by decide +kernel
theorem dJx4a65c_grow_92f84_52 : decode cJx4a65c_grow_92f84 52 = .ok (.anewarray 7, 3) := by decide +kernel
theorem dJx4a65c_grow_92f84_55 : decode cJx4a65c_grow_92f84 55 = .ok (.dup_x1, 1) := by decide +kernel
theorem dJx4a65c_grow_92f84_56 : decode cJx4a65c_grow_92f84 56 = .ok (.putfield 9, 3) := by decide +kernel
theorem dJx4a65c_grow_92f84_59 : decode cJx4a65c_grow_92f84 59 = .ok (.areturn, 1) := by decide +kernel
theorem dJx4a65c_grow_d5877_0 : decode cJx4a65c_grow_d5877 0 = .ok (.aload_n 0, 1) := by decide +kernel
theorem dJx4a65c_grow_d5877_1 : decode cJx4a65c_grow_d5877 1 = .ok (.aload_n 0, 1) := by decide +kernel
theorem dJx4a65c_grow_d5877_2 : decode cJx4a65c_grow_d5877 2 = .ok (.getfield 48, 3) := by decide +kernel
theorem dJx4a65c_grow_d5877_5 : decode cJx4a65c_grow_d5877 5 = .ok (.iconst 1, 1) := by decide +kernel
theorem dJx4a65c_grow_d5877_6 : decode cJx4a65c_grow_d5877 6 = .ok (.iadd, 1) := by decide +kernel
theorem dJx4a65c_grow_d5877_7 : decode cJx4a65c_grow_d5877 7 = .ok (.invokevirtual 69, 3) := by decide +kernel
theorem dJx4a65c_grow_d5877_10 : decode cJx4a65c_grow_d5877 10 = .ok (.areturn, 1) := by decide +kernel
theorem dJx4a65c_size_8abf5_0 : decode cJx4a65c_size_8abf5 0 = .ok (.aload_n 0, 1) := by decide +kernel
theorem dJx4a65c_size_8abf5_1 : decode cJx4a65c_size_8abf5 1 = .ok (.getfield 48, 3) := by decide +kernel
theorem dJx4a65c_size_8abf5_4 : decode cJx4a65c_size_8abf5 4 = .ok (.ireturn, 1) := by decide +kernel
theorem dJx4a65c_isEmpty_aae02_0 : decode cJx4a65c_isEmpty_aae02 0 = .ok (.aload_n 0, 1) := by decide +kernel
theorem dJx4a65c_isEmpty_aae02_1 : decode cJx4a65c_isEmpty_aae02 1 = .ok (.getfield 48, 3) := by decide +kernel
theorem dJx4a65c_isEmpty_aae02_4 : decode cJx4a65c_isEmpty_aae02 4 = .ok (.ifCond .ne 7, 3) := by decide +kernel
theorem dJx4a65c_isEmpty_aae02_7 : decode cJx4a65c_isEmpty_aae02 7 = .ok (.iconst 1, 1) := by decide +kernel
theorem dJx4a65c_isEmpty_aae02_8 : decode cJx4a65c_isEmpty_aae02 8 = .ok (.goto 4, 3) := by decide +kernel
theorem dJx4a65c_isEmpty_aae02_11 : decode cJx4a65c_isEmpty_aae02 11 = .ok (.iconst 0, 1) := by decide +kernel
theorem dJx4a65c_isEmpty_aae02_12 : decode cJx4a65c_isEmpty_aae02 12 = .ok (.ireturn, 1) := by decide +kernel
theorem dJx4a65c_elementData_915e3_0 : decode cJx4a65c_elementData_915e3 0 = .ok (.aload_n 0, 1) := by decide +kernel
theorem dJx4a65c_elementData_915e3_1 : decode cJx4a65c_elementData_915e3 1 = .ok (.getfield 9, 3) := by decide +kernel
theorem dJx4a65c_elementData_915e3_4 : decode cJx4a65c_elementData_915e3 4 = .ok (.iload_n 1, 1) := by decide +kernel
theorem dJx4a65c_elementData_915e3_5 : decode cJx4a65c_elementData_915e3 5 = .ok (.aaload, 1) := by decide +kernel
theorem dJx4a65c_elementData_915e3_6 : decode cJx4a65c_elementData_915e3 6 = .ok (.areturn, 1) := by decide +kernel
theorem dJx4a65c_get_915e3_0 : decode cJx4a65c_get_915e3 0 = .ok (.iload_n 1, 1) := by decide +kernel
theorem dJx4a65c_get_915e3_1 : decode cJx4a65c_get_915e3 1 = .ok (.aload_n 0, 1) := by decide +kernel
theorem dJx4a65c_get_915e3_2 : decode cJx4a65c_get_915e3 2 = .ok (.getfield 48, 3) := by decide +kernel
theorem dJx4a65c_get_915e3_5 : decode cJx4a65c_get_915e3 5 = .ok (.invokestatic 118, 3) := by decide +kernel
theorem dJx4a65c_get_915e3_8 : decode cJx4a65c_get_915e3 8 = .ok (.pop, 1) := by decide +kernel
theorem dJx4a65c_get_915e3_9 : decode cJx4a65c_get_915e3 9 = .ok (.aload_n 0, 1) := by decide +kernel
theorem dJx4a65c_get_915e3_10 : decode cJx4a65c_get_915e3 10 = .ok (.iload_n 1, 1) := by decide +kernel
theorem dJx4a65c_get_915e3_11 : decode cJx4a65c_get_915e3 11 = .ok (.invokevirtual 123, 3) := by decide +kernel
theorem dJx4a65c_get_915e3_14 : decode cJx4a65c_get_915e3 14 = .ok (.areturn, 1) := by decide +kernel
theorem dJx4a65c_add_72be8_0 : decode cJx4a65c_add_72be8 0 = .ok (.iload_n 3, 1) := by decide +kernel
theorem dJx4a65c_add_72be8_1 : decode cJx4a65c_add_72be8 1 = .ok (.aload_n 2, 1) := by decide +kernel
theorem dJx4a65c_add_72be8_2 : decode cJx4a65c_add_72be8 2 = .ok (.arraylength, 1) := by decide +kernel
theorem dJx4a65c_add_72be8_3 : decode cJx4a65c_add_72be8 3 = .ok (.if_icmp .ne 8, 3) := by decide +kernel
theorem dJx4a65c_add_72be8_6 : decode cJx4a65c_add_72be8 6 = .ok (.aload_n 0, 1) := by decide +kernel
theorem dJx4a65c_add_72be8_7 : decode cJx4a65c_add_72be8 7 = .ok (.invokevirtual 129, 3) := by decide +kernel
theorem dJx4a65c_add_72be8_10 : decode cJx4a65c_add_72be8 10 = .ok (.astore_n 2, 1) := by decide +kernel
theorem dJx4a65c_add_72be8_11 : decode cJx4a65c_add_72be8 11 = .ok (.aload_n 2, 1) := by decide +kernel
theorem dJx4a65c_add_72be8_12 : decode cJx4a65c_add_72be8 12 = .ok (.iload_n 3, 1) := by decide +kernel
theorem dJx4a65c_add_72be8_13 : decode cJx4a65c_add_72be8 13 = .ok (.aload_n 1, 1) := by decide +kernel
theorem dJx4a65c_add_72be8_14 : decode cJx4a65c_add_72be8 14 = .ok (.aastore, 1) := by decide +kernel
theorem dJx4a65c_add_72be8_15 : decode cJx4a65c_add_72be8 15 = .ok (.aload_n 0, 1) := by decide +kernel
theorem dJx4a65c_add_72be8_16 : decode cJx4a65c_add_72be8 16 = .ok (.iload_n 3, 1) := by decide +kernel
theorem dJx4a65c_add_72be8_17 : decode cJx4a65c_add_72be8 17 = .ok (.iconst 1, 1) := by decide +kernel
theorem dJx4a65c_add_72be8_18 : decode cJx4a65c_add_72be8 18 = .ok (.iadd, 1) := by decide +kernel
theorem dJx4a65c_add_72be8_19 : decode cJx4a65c_add_72be8 19 = .ok (.putfield 48, 3) := by decide +kernel
theorem dJx4a65c_add_72be8_22 : decode cJx4a65c_add_72be8 22 = .ok (.return_, 1) := by decide +kernel
theorem dJx4a65c_add_9ea2d_0 : decode cJx4a65c_add_9ea2d 0 = .ok (.aload_n 0, 1) := by decide +kernel
theorem dJx4a65c_add_9ea2d_1 : decode cJx4a65c_add_9ea2d 1 = .ok (.dup, 1) := by decide +kernel
theorem dJx4a65c_add_9ea2d_2 : decode cJx4a65c_add_9ea2d 2 = .ok (.getfield 63, 3) := by decide +kernel
theorem dJx4a65c_add_9ea2d_5 : decode cJx4a65c_add_9ea2d 5 = .ok (.iconst 1, 1) := by decide +kernel
theorem dJx4a65c_add_9ea2d_6 : decode cJx4a65c_add_9ea2d 6 = .ok (.iadd, 1) := by decide +kernel
theorem dJx4a65c_add_9ea2d_7 : decode cJx4a65c_add_9ea2d 7 = .ok (.putfield 63, 3) := by decide +kernel
theorem dJx4a65c_add_9ea2d_10 : decode cJx4a65c_add_9ea2d 10 = .ok (.aload_n 0, 1) := by decide +kernel
theorem dJx4a65c_add_9ea2d_11 : decode cJx4a65c_add_9ea2d 11 = .ok (.aload_n 1, 1) := by decide +kernel
theorem dJx4a65c_add_9ea2d_12 : decode cJx4a65c_add_9ea2d 12 = .ok (.aload_n 0, 1) := by decide +kernel
theorem dJx4a65c_add_9ea2d_13 : decode cJx4a65c_add_9ea2d 13 = .ok (.getfield 9, 3) := by decide +kernel
theorem dJx4a65c_add_9ea2d_16 : decode cJx4a65c_add_9ea2d 16 = .ok (.aload_n 0, 1) := by decide +kernel
theorem dJx4a65c_add_9ea2d_17 : decode cJx4a65c_add_9ea2d 17 = .ok (.getfield 48, 3) := by decide +kernel
theorem dJx4a65c_add_9ea2d_20 : decode cJx4a65c_add_9ea2d 20 = .ok (.invokevirtual 131, 3) := by decide +kernel
theorem dJx4a65c_add_9ea2d_23 : decode cJx4a65c_add_9ea2d 23 = .ok (.iconst 1, 1) := by decide +kernel
theorem dJx4a65c_add_9ea2d_24 : decode cJx4a65c_add_9ea2d 24 = .ok (.ireturn, 1) := by decide +kernel
theorem dJx4a65c_add_7a177_0 : decode cJx4a65c_add_7a177 0 = .ok (.aload_n 0, 1) := by decide +kernel
theorem dJx4a65c_add_7a177_1 : decode cJx4a65c_add_7a177 1 = .ok (.iload_n 1, 1) := by decide +kernel
theorem dJx4a65c_add_7a177_2 : decode cJx4a65c_add_7a177 2 = .ok (.invokevirtual 135, 3) := by decide +kernel
theorem dJx4a65c_add_7a177_5 : decode cJx4a65c_add_7a177 5 = .ok (.aload_n 0, 1) := by decide +kernel
theorem dJx4a65c_add_7a177_6 : decode cJx4a65c_add_7a177 6 = .ok (.dup, 1) := by decide +kernel
theorem dJx4a65c_add_7a177_7 : decode cJx4a65c_add_7a177 7 = .ok (.getfield 63, 3) := by decide +kernel
theorem dJx4a65c_add_7a177_10 : decode cJx4a65c_add_7a177 10 = .ok (.iconst 1, 1) := by decide +kernel
theorem dJx4a65c_add_7a177_11 : decode cJx4a65c_add_7a177 11 = .ok (.iadd, 1) := by decide +kernel
theorem dJx4a65c_add_7a177_12 : decode cJx4a65c_add_7a177 12 = .ok (.putfield 63, 3) := by decide +kernel
theorem dJx4a65c_add_7a177_15 : decode cJx4a65c_add_7a177 15 = .ok (.aload_n 0, 1) := by decide +kernel
theorem dJx4a65c_add_7a177_16 : decode cJx4a65c_add_7a177 16 = .ok (.getfield 48, 3) := by decide +kernel
theorem dJx4a65c_add_7a177_19 : decode cJx4a65c_add_7a177 19 = .ok (.dup, 1) := by decide +kernel
theorem dJx4a65c_add_7a177_20 : decode cJx4a65c_add_7a177 20 = .ok (.istore_n 3, 1) := by decide +kernel
theorem dJx4a65c_add_7a177_21 : decode cJx4a65c_add_7a177 21 = .ok (.aload_n 0, 1) := by decide +kernel
theorem dJx4a65c_add_7a177_22 : decode cJx4a65c_add_7a177 22 = .ok (.getfield 9, 3) := by decide +kernel
theorem dJx4a65c_add_7a177_25 : decode cJx4a65c_add_7a177 25 = .ok (.dup, 1) := by decide +kernel
theorem dJx4a65c_add_7a177_26 : decode cJx4a65c_add_7a177 26 = .ok (.astore 4, 2) := by decide +kernel
theorem dJx4a65c_add_7a177_28 : decode cJx4a65c_add_7a177 28 = .ok (.arraylength, 1) := by decide +kernel
theorem dJx4a65c_add_7a177_29 : decode cJx4a65c_add_7a177 29 = .ok (.if_icmp .ne 9, 3) := by decide +kernel
theorem dJx4a65c_add_7a177_32 : decode cJx4a65c_add_7a177 32 = .ok (.aload_n 0, 1) := by decide +kernel
theorem dJx4a65c_add_7a177_33 : decode cJx4a65c_add_7a177 33 = .ok (.invokevirtual 129, 3) := by decide +kernel
theorem dJx4a65c_add_7a177_36 : decode cJx4a65c_add_7a177 36 = .ok (.astore 4, 2) := by decide +kernel
theorem dJx4a65c_add_7a177_38 : decode cJx4a65c_add_7a177 38 = .ok (.aload 4, 2) := by decide +kernel
theorem dJx4a65c_add_7a177_40 : decode cJx4a65c_add_7a177 40 = .ok (.iload_n 1, 1) := by decide +kernel
theorem dJx4a65c_add_7a177_41 : decode cJx4a65c_add_7a177 41 = .ok (.aload 4, 2) := by decide +kernel
theorem dJx4a65c_add_7a177_43 : decode cJx4a65c_add_7a177 43 = .ok (.iload_n 1, 1) := by decide +kernel
theorem dJx4a65c_add_7a177_44 : decode cJx4a65c_add_7a177 44 = .ok (.iconst 1, 1) := by decide +kernel
theorem dJx4a65c_add_7a177_45 : decode cJx4a65c_add_7a177 45 = .ok (.iadd, 1) := by decide +kernel
theorem dJx4a65c_add_7a177_46 : decode cJx4a65c_add_7a177 46 = .ok (.iload_n 3, 1) := by decide +kernel
theorem dJx4a65c_add_7a177_47 : decode cJx4a65c_add_7a177 47 = .ok (.iload_n 1, 1) := by decide +kernel
theorem dJx4a65c_add_7a177_48 : decode cJx4a65c_add_7a177 48 = .ok (.isub, 1) := by decide +kernel
theorem dJx4a65c_add_7a177_49 : decode cJx4a65c_add_7a177 49 = .ok (.invokestatic 112, 3) := by decide +kernel
theorem dJx4a65c_add_7a177_52 : decode cJx4a65c_add_7a177 52 = .ok (.aload 4, 2) := by decide +kernel
theorem dJx4a65c_add_7a177_54 : decode cJx4a65c_add_7a177 54 = .ok (.iload_n 1, 1) := by decide +kernel
theorem dJx4a65c_add_7a177_55 : decode cJx4a65c_add_7a177 55 = .ok (.aload_n 2, 1) := by decide +kernel
theorem dJx4a65c_add_7a177_56 : decode cJx4a65c_add_7a177 56 = .ok (.aastore, 1) := by decide +kernel
theorem dJx4a65c_add_7a177_57 : decode cJx4a65c_add_7a177 57 = .ok (.aload_n 0, 1) := by decide +kernel
theorem dJx4a65c_add_7a177_58 : decode cJx4a65c_add_7a177 58 = .ok (.iload_n 3, 1) := by decide +kernel
theorem dJx4a65c_add_7a177_59 : decode cJx4a65c_add_7a177 59 = .ok (.iconst 1, 1) := by decide +kernel
theorem dJx4a65c_add_7a177_60 : decode cJx4a65c_add_7a177 60 = .ok (.iadd, 1) := by decide +kernel
theorem dJx4a65c_add_7a177_61 : decode cJx4a65c_add_7a177 61 = .ok (.putfield 48, 3) := by decide +kernel
theorem dJx4a65c_add_7a177_64 : decode cJx4a65c_add_7a177 64 = .ok (.return_, 1) := by decide +kernel
theorem dJx4a65c_remove_915e3_0 : decode cJx4a65c_remove_915e3 0 = .ok (.iload_n 1, 1) := by decide +kernel
theorem dJx4a65c_remove_915e3_1 : decode cJx4a65c_remove_915e3 1 = .ok (.aload_n 0, 1) := by decide +kernel
theorem dJx4a65c_remove_915e3_2 : decode cJx4a65c_remove_915e3 2 = .ok (.getfield 48, 3) := by decide +kernel
theorem dJx4a65c_remove_915e3_5 : decode cJx4a65c_remove_915e3 5 = .ok (.invokestatic 118, 3) := by decide +kernel
theorem dJx4a65c_remove_915e3_8 : decode cJx4a65c_remove_915e3 8 = .ok (.pop, 1) := by decide +kernel
theorem dJx4a65c_remove_915e3_9 : decode cJx4a65c_remove_915e3 9 = .ok (.aload_n 0, 1) := by decide +kernel
theorem dJx4a65c_remove_915e3_10 : decode cJx4a65c_remove_915e3 10 = .ok (.getfield 9, 3) := by decide +kernel
theorem dJx4a65c_remove_915e3_13 : decode cJx4a65c_remove_915e3 13 = .ok (.astore_n 2, 1) := by decide +kernel
theorem dJx4a65c_remove_915e3_14 : decode cJx4a65c_remove_915e3 14 = .ok (.aload_n 2, 1) := by decide +kernel
theorem dJx4a65c_remove_915e3_15 : decode cJx4a65c_remove_915e3 15 = .ok (.iload_n 1, 1) := by decide +kernel
theorem dJx4a65c_remove_915e3_16 : decode cJx4a65c_remove_915e3 16 = .ok (.aaload, 1) := by decide +kernel
theorem dJx4a65c_remove_915e3_17 : decode cJx4a65c_remove_915e3 17 = .ok (.astore_n 3, 1) := by decide +kernel
theorem dJx4a65c_remove_915e3_18 : decode cJx4a65c_remove_915e3 18 = .ok (.aload_n 0, 1) := by decide +kernel
theorem dJx4a65c_remove_915e3_19 : decode cJx4a65c_remove_915e3 19 = .ok (.aload_n 2, 1) := by decide +kernel
theorem dJx4a65c_remove_915e3_20 : decode cJx4a65c_remove_915e3 20 = .ok (.iload_n 1, 1) := by decide +kernel
theorem dJx4a65c_remove_915e3_21 : decode cJx4a65c_remove_915e3 21 = .ok (.invokevirtual 144, 3) := by decide +kernel
theorem dJx4a65c_remove_915e3_24 : decode cJx4a65c_remove_915e3 24 = .ok (.aload_n 3, 1) := by decide +kernel
theorem dJx4a65c_remove_915e3_25 : decode cJx4a65c_remove_915e3 25 = .ok (.areturn, 1) := by decide +kernel
theorem dJx4a65c_fastRemove_b59b0_0 : decode cJx4a65c_fastRemove_b59b0 0 = .ok (.aload_n 0, 1) := by decide +kernel
theorem dJx4a65c_fastRemove_b59b0_1 : decode cJx4a65c_fastRemove_b59b0 1 = .ok (.dup, 1) := by decide +kernel
theorem dJx4a65c_fastRemove_b59b0_2 : decode cJx4a65c_fastRemove_b59b0 2 = .ok (.getfield 63, 3) := by decide +kernel
theorem dJx4a65c_fastRemove_b59b0_5 : decode cJx4a65c_fastRemove_b59b0 5 = .ok (.iconst 1, 1) := by decide +kernel
theorem dJx4a65c_fastRemove_b59b0_6 : decode cJx4a65c_fastRemove_b59b0 6 = .ok (.iadd, 1) := by decide +kernel
theorem dJx4a65c_fastRemove_b59b0_7 : decode cJx4a65c_fastRemove_b59b0 7 = .ok (.putfield 63, 3) := by decide +kernel
theorem dJx4a65c_fastRemove_b59b0_10 : decode cJx4a65c_fastRemove_b59b0 10 = .ok (.aload_n 0, 1) := by decide +kernel
theorem dJx4a65c_fastRemove_b59b0_11 : decode cJx4a65c_fastRemove_b59b0 11 = .ok (.getfield 48, 3) := by decide +kernel
theorem dJx4a65c_fastRemove_b59b0_14 : decode cJx4a65c_fastRemove_b59b0 14 = .ok (.iconst 1, 1) := by decide +kernel
theorem dJx4a65c_fastRemove_b59b0_15 : decode cJx4a65c_fastRemove_b59b0 15 = .ok (.isub, 1) := by decide +kernel
theorem dJx4a65c_fastRemove_b59b0_16 : decode cJx4a65c_fastRemove_b59b0 16 = .ok (.dup, 1) := by decide +kernel
theorem dJx4a65c_fastRemove_b59b0_17 : decode cJx4a65c_fastRemove_b59b0 17 = .ok (.istore_n 3, 1) := by decide +kernel
theorem dJx4a65c_fastRemove_b59b0_18 : decode cJx4a65c_fastRemove_b59b0 18 = .ok (.iload_n 2, 1) := by decide +kernel
theorem dJx4a65c_fastRemove_b59b0_19 : decode cJx4a65c_fastRemove_b59b0 19 = .ok (.if_icmp .le 15, 3) := by decide +kernel
theorem dJx4a65c_fastRemove_b59b0_22 : decode cJx4a65c_fastRemove_b59b0 22 = .ok (.aload_n 1, 1) := by decide +kernel
theorem dJx4a65c_fastRemove_b59b0_23 : decode cJx4a65c_fastRemove_b59b0 23 = .ok (.iload_n 2, 1) := by decide +kernel
theorem dJx4a65c_fastRemove_b59b0_24 : decode cJx4a65c_fastRemove_b59b0 24 = .ok (.iconst 1, 1) := by decide +kernel
theorem dJx4a65c_fastRemove_b59b0_25 : decode cJx4a65c_fastRemove_b59b0 25 = .ok (.iadd, 1) := by decide +kernel
theorem dJx4a65c_fastRemove_b59b0_26 : decode cJx4a65c_fastRemove_b59b0 26 = .ok (.aload_n 1, 1) := by decide +kernel
theorem dJx4a65c_fastRemove_b59b0_27 : decode cJx4a65c_fastRemove_b59b0 27 = .ok (.iload_n 2, 1) := by decide +kernel
theorem dJx4a65c_fastRemove_b59b0_28 : decode cJx4a65c_fastRemove_b59b0 28 = .ok (.iload_n 3, 1) := by decide +kernel
theorem dJx4a65c_fastRemove_b59b0_29 : decode cJx4a65c_fastRemove_b59b0 29 = .ok (.iload_n 2, 1) := by decide +kernel
theorem dJx4a65c_fastRemove_b59b0_30 : decode cJx4a65c_fastRemove_b59b0 30 = .ok (.isub, 1) := by decide +kernel
theorem dJx4a65c_fastRemove_b59b0_31 : decode cJx4a65c_fastRemove_b59b0 31 = .ok (.invokestatic 112, 3) := by decide +kernel
theorem dJx4a65c_fastRemove_b59b0_34 : decode cJx4a65c_fastRemove_b59b0 34 = .ok (.aload_n 1, 1) := by decide +kernel
theorem dJx4a65c_fastRemove_b59b0_35 : decode cJx4a65c_fastRemove_b59b0 35 = .ok (.aload_n 0, 1) := by decide +kernel
theorem dJx4a65c_fastRemove_b59b0_36 : decode cJx4a65c_fastRemove_b59b0 36 = .ok (.iload_n 3, 1) := by decide +kernel
theorem dJx4a65c_fastRemove_b59b0_37 : decode cJx4a65c_fastRemove_b59b0 37 = .ok (.dup_x1, 1) := by decide +kernel
theorem dJx4a65c_fastRemove_b59b0_38 : decode cJx4a65c_fastRemove_b59b0 38 = .ok (.putfield 48, 3) := by decide +kernel
theorem dJx4a65c_fastRemove_b59b0_41 : decode cJx4a65c_fastRemove_b59b0 41 = .ok (.aconst_null, 1) := by decide +kernel
theorem dJx4a65c_fastRemove_b59b0_42 : decode cJx4a65c_fastRemove_b59b0 42 = .ok (.aastore, 1) := by decide +kernel
theorem dJx4a65c_fastRemove_b59b0_43 : decode cJx4a65c_fastRemove_b59b0 43 = .ok (.return_, 1) := by decide +kernel
theorem dJx4a65c_clear_da8c8_0 : decode cJx4a65c_clear_da8c8 0 = .ok (.aload_n 0, 1) := by decide +kernel
theorem dJx4a65c_clear_da8c8_1 : decode cJx4a65c_clear_da8c8 1 = .ok (.dup, 1) := by decide +kernel
theorem dJx4a65c_clear_da8c8_2 : decode cJx4a65c_clear_da8c8 2 = .ok (.getfield 63, 3) := by decide +kernel
theorem dJx4a65c_clear_da8c8_5 : decode cJx4a65c_clear_da8c8 5 = .ok (.iconst 1, 1) := by decide +kernel
theorem dJx4a65c_clear_da8c8_6 : decode cJx4a65c_clear_da8c8 6 = .ok (.iadd, 1) := by decide +kernel
theorem dJx4a65c_clear_da8c8_7 : decode cJx4a65c_clear_da8c8 7 = .ok (.putfield 63, 3) := by decide +kernel
theorem dJx4a65c_clear_da8c8_10 : decode cJx4a65c_clear_da8c8 10 = .ok (.aload_n 0, 1) := by decide +kernel
theorem dJx4a65c_clear_da8c8_11 : decode cJx4a65c_clear_da8c8 11 = .ok (.getfield 9, 3) := by decide +kernel
theorem dJx4a65c_clear_da8c8_14 : decode cJx4a65c_clear_da8c8 14 = .ok (.astore_n 1, 1) := by decide +kernel
theorem dJx4a65c_clear_da8c8_15 : decode cJx4a65c_clear_da8c8 15 = .ok (.aload_n 0, 1) := by decide +kernel
theorem dJx4a65c_clear_da8c8_16 : decode cJx4a65c_clear_da8c8 16 = .ok (.getfield 48, 3) := by decide +kernel
theorem dJx4a65c_clear_da8c8_19 : decode cJx4a65c_clear_da8c8 19 = .ok (.istore_n 2, 1) := by decide +kernel
theorem dJx4a65c_clear_da8c8_20 : decode cJx4a65c_clear_da8c8 20 = .ok (.aload_n 0, 1) := by decide +kernel
theorem dJx4a65c_clear_da8c8_21 : decode cJx4a65c_clear_da8c8 21 = .ok (.iconst 0, 1) := by decide +kernel
theorem dJx4a65c_clear_da8c8_22 : decode cJx4a65c_clear_da8c8 22 = .ok (.dup_x1, 1) := by decide +kernel
theorem dJx4a65c_clear_da8c8_23 : decode cJx4a65c_clear_da8c8 23 = .ok (.putfield 48, 3) := by decide +kernel
theorem dJx4a65c_clear_da8c8_26 : decode cJx4a65c_clear_da8c8 26 = .ok (.istore_n 3, 1) := by decide +kernel
theorem dJx4a65c_clear_da8c8_27 : decode cJx4a65c_clear_da8c8 27 = .ok (.iload_n 3, 1) := by decide +kernel
theorem dJx4a65c_clear_da8c8_28 : decode cJx4a65c_clear_da8c8 28 = .ok (.iload_n 2, 1) := by decide +kernel
theorem dJx4a65c_clear_da8c8_29 : decode cJx4a65c_clear_da8c8 29 = .ok (.if_icmp .ge 13, 3) := by decide +kernel
theorem dJx4a65c_clear_da8c8_32 : decode cJx4a65c_clear_da8c8 32 = .ok (.aload_n 1, 1) := by decide +kernel
theorem dJx4a65c_clear_da8c8_33 : decode cJx4a65c_clear_da8c8 33 = .ok (.iload_n 3, 1) := by decide +kernel
theorem dJx4a65c_clear_da8c8_34 : decode cJx4a65c_clear_da8c8 34 = .ok (.aconst_null, 1) := by decide +kernel
theorem dJx4a65c_clear_da8c8_35 : decode cJx4a65c_clear_da8c8 35 = .ok (.aastore, 1) := by decide +kernel
theorem dJx4a65c_clear_da8c8_36 : decode cJx4a65c_clear_da8c8 36 = .ok (.iinc 3 1, 3) := by decide +kernel
theorem dJx4a65c_clear_da8c8_39 : decode cJx4a65c_clear_da8c8 39 = .ok (.goto (-12), 3) := by decide +kernel
theorem dJx4a65c_clear_da8c8_42 : decode cJx4a65c_clear_da8c8 42 = .ok (.return_, 1) := by decide +kernel
theorem dJx4a65c_rangeCheckForAdd_d00df_0 : decode cJx4a65c_rangeCheckForAdd_d00df 0 = .ok (.iload_n 1, 1) := by decide +kernel
theorem dJx4a65c_rangeCheckForAdd_d00df_1 : decode cJx4a65c_rangeCheckForAdd_d00df 1 = .ok (.aload_n 0, 1) := by decide +kernel
theorem dJx4a65c_rangeCheckForAdd_d00df_2 : decode cJx4a65c_rangeCheckForAdd_d00df 2 = .ok (.getfield 48, 3) := by decide +kernel
theorem dJx4a65c_rangeCheckForAdd_d00df_5 : decode cJx4a65c_rangeCheckForAdd_d00df 5 = .ok (.if_icmp .gt 7, 3) := by decide +kernel
theorem dJx4a65c_rangeCheckForAdd_d00df_8 : decode cJx4a65c_rangeCheckForAdd_d00df 8 = .ok (.iload_n 1, 1) := by decide +kernel
theorem dJx4a65c_rangeCheckForAdd_d00df_9 : decode cJx4a65c_rangeCheckForAdd_d00df 9 = .ok (.ifCond .ge 16, 3) := by decide +kernel
theorem dJx4a65c_rangeCheckForAdd_d00df_12 : decode cJx4a65c_rangeCheckForAdd_d00df 12 = .ok (.new 187, 3) := by decide +kernel
theorem dJx4a65c_rangeCheckForAdd_d00df_15 : decode cJx4a65c_rangeCheckForAdd_d00df 15 = .ok (.dup, 1) := by decide +kernel
theorem dJx4a65c_rangeCheckForAdd_d00df_16 : decode cJx4a65c_rangeCheckForAdd_d00df 16 = .ok (.aload_n 0, 1) := by decide +kernel
theorem dJx4a65c_rangeCheckForAdd_d00df_17 : decode cJx4a65c_rangeCheckForAdd_d00df 17 = .ok (.iload_n 1, 1) := by decide +kernel
theorem dJx4a65c_rangeCheckForAdd_d00df_18 : decode cJx4a65c_rangeCheckForAdd_d00df 18 = .ok (.invokevirtual 198, 3) := by decide +kernel
theorem dJx4a65c_rangeCheckForAdd_d00df_21 : decode cJx4a65c_rangeCheckForAdd_d00df 21 = .ok (.invokespecial 193, 3) := by decide +kernel
theorem dJx4a65c_rangeCheckForAdd_d00df_24 : decode cJx4a65c_rangeCheckForAdd_d00df 24 = .ok (.athrow, 1) := by decide +kernel
theorem dJx4a65c_rangeCheckForAdd_d00df_25 : decode cJx4a65c_rangeCheckForAdd_d00df 25 = .ok (.return_, 1) := by decide +kernel
theorem dJ7_copyOf_1904c_0 : decode cJ7_copyOf_1904c 0 = .ok (.aload_n 0, 1) := by decide +kernel
theorem dJ7_copyOf_1904c_1 : decode cJ7_copyOf_1904c 1 = .ok (.iload_n 1, 1) := by decide +kernel
theorem dJ7_copyOf_1904c_2 : decode cJ7_copyOf_1904c 2 = .ok (.aload_n 0, 1) := by decide +kernel
theorem dJ7_copyOf_1904c_3 : decode cJ7_copyOf_1904c 3 = .ok (.invokevirtual 86, 3) := by decide +kernel
theorem dJ7_copyOf_1904c_6 : decode cJ7_copyOf_1904c 6 = .ok (.invokestatic 300, 3) := by decide +kernel
theorem dJ7_copyOf_1904c_9 : decode cJ7_copyOf_1904c 9 = .ok (.areturn, 1) := by decide +kernel
theorem dJ7_copyOf_6403c_0 : decode cJ7_copyOf_6403c 0 = .ok (.aload_n 2, 1) := by decide +kernel
theorem dJ7_copyOf_6403c_1 : decode cJ7_copyOf_6403c 1 = .ok (.ldc 110, 2) := by decide +kernel
theorem dJ7_copyOf_6403c_3 : decode cJ7_copyOf_6403c 3 = .ok (.if_acmp .ne 10, 3) := by decide +kernel
theorem dJ7_copyOf_6403c_6 : decode cJ7_copyOf_6403c 6 = .ok (.iload_n 1, 1) := by decide +kernel
theorem dJ7_copyOf_6403c_7 : decode cJ7_copyOf_6403c 7 = .ok (.anewarray 2, 3) := by decide +kernel
theorem dJ7_copyOf_6403c_10 : decode cJ7_copyOf_6403c 10 = .ok (.goto 14, 3) := by decide +kernel
theorem dJ7_copyOf_6403c_13 : decode cJ7_copyOf_6403c 13 = .ok (.aload_n 2, 1) := by decide +kernel
theorem dJ7_copyOf_6403c_14 : decode cJ7_copyOf_6403c 14 = .ok (.invokevirtual 90, 3) := by decide +kernel
theorem dJ7_copyOf_6403c_17 : decode cJ7_copyOf_6403c 17 = .ok (.iload_n 1, 1) := by decide +kernel
theorem dJ7_copyOf_6403c_18 : decode cJ7_copyOf_6403c 18 = .ok (.invokestatic 95, 3) := by decide +kernel
theorem dJ7_copyOf_6403c_21 : decode cJ7_copyOf_6403c 21 = .ok (.checkcast 110, 3) := by decide +kernel
theorem dJ7_copyOf_6403c_24 : decode cJ7_copyOf_6403c 24 = .ok (.astore_n 3, 1) := by decide +kernel
theorem dJ7_copyOf_6403c_25 : decode cJ7_copyOf_6403c 25 = .ok (.aload_n 0, 1) := by decide +kernel
theorem dJ7_copyOf_6403c_26 : decode cJ7_copyOf_6403c 26 = .ok (.iconst 0, 1) := by decide +kernel
theorem dJ7_copyOf_6403c_27 : decode cJ7_copyOf_6403c 27 = .ok (.aload_n 3, 1) := by decide +kernel
theorem dJ7_copyOf_6403c_28 : decode cJ7_copyOf_6403c 28 = .ok (.iconst 0, 1) := by decide +kernel
theorem dJ7_copyOf_6403c_29 : decode cJ7_copyOf_6403c 29 = .ok (.aload_n 0, 1) := by decide +kernel
theorem dJ7_copyOf_6403c_30 : decode cJ7_copyOf_6403c 30 = .ok (.arraylength, 1) := by decide +kernel
theorem dJ7_copyOf_6403c_31 : decode cJ7_copyOf_6403c 31 = .ok (.iload_n 1, 1) := by decide +kernel
theorem dJ7_copyOf_6403c_32 : decode cJ7_copyOf_6403c 32 = .ok (.invokestatic 304, 3) := by decide +kernel
theorem dJ7_copyOf_6403c_35 : decode cJ7_copyOf_6403c 35 = .ok (.invokestatic 150, 3) := by decide +kernel
theorem dJ7_copyOf_6403c_38 : decode cJ7_copyOf_6403c 38 = .ok (.aload_n 3, 1) := by decide +kernel
theorem dJ7_copyOf_6403c_39 : decode cJ7_copyOf_6403c 39 = .ok (.areturn, 1) := by decide +kernel
theorem dJ15_checkIndex_7cf53_0 : decode cJ15_checkIndex_7cf53 0 = .ok (.iload_n 0, 1) := by decide +kernel
theorem dJ15_checkIndex_7cf53_1 : decode cJ15_checkIndex_7cf53 1 = .ok (.iload_n 1, 1) := by decide +kernel
theorem dJ15_checkIndex_7cf53_2 : decode cJ15_checkIndex_7cf53 2 = .ok (.aconst_null, 1) := by decide +kernel
theorem dJ15_checkIndex_7cf53_3 : decode cJ15_checkIndex_7cf53 3 = .ok (.invokestatic 105, 3) := by decide +kernel
theorem dJ15_checkIndex_7cf53_6 : decode cJ15_checkIndex_7cf53 6 = .ok (.ireturn, 1) := by decide +kernel
theorem dJ8_newLength_cabcc_0 : decode cJ8_newLength_cabcc 0 = .ok (.iload_n 0, 1) := by decide +kernel
theorem dJ8_newLength_cabcc_1 : decode cJ8_newLength_cabcc 1 = .ok (.iload_n 1, 1) := by decide +kernel
theorem dJ8_newLength_cabcc_2 : decode cJ8_newLength_cabcc 2 = .ok (.iload_n 2, 1) := by decide +kernel
theorem dJ8_newLength_cabcc_3 : decode cJ8_newLength_cabcc 3 = .ok (.invokestatic 194, 3) := by decide +kernel
theorem dJ8_newLength_cabcc_6 : decode cJ8_newLength_cabcc 6 = .ok (.iadd, 1) := by decide +kernel
theorem dJ8_newLength_cabcc_7 : decode cJ8_newLength_cabcc 7 = .ok (.istore_n 3, 1) := by decide +kernel
theorem dJ8_newLength_cabcc_8 : decode cJ8_newLength_cabcc 8 = .ok (.iconst 0, 1) := by decide +kernel
theorem dJ8_newLength_cabcc_9 : decode cJ8_newLength_cabcc 9 = .ok (.iload_n 3, 1) := by decide +kernel
theorem dJ8_newLength_cabcc_10 : decode cJ8_newLength_cabcc 10 = .ok (.if_icmp .ge 11, 3) := by decide +kernel
theorem dJ8_newLength_cabcc_13 : decode cJ8_newLength_cabcc 13 = .ok (.iload_n 3, 1) := by decide +kernel
theorem dJ8_newLength_cabcc_14 : decode cJ8_newLength_cabcc 14 = .ok (.ldc 200, 2) := by decide +kernel
theorem dJ8_newLength_cabcc_16 : decode cJ8_newLength_cabcc 16 = .ok (.if_icmp .gt 5, 3) := by decide +kernel
theorem dJ8_newLength_cabcc_19 : decode cJ8_newLength_cabcc 19 = .ok (.iload_n 3, 1) := by decide +kernel
theorem dJ8_newLength_cabcc_20 : decode cJ8_newLength_cabcc 20 = .ok (.ireturn, 1) := by decide +kernel
theorem dJ8_newLength_cabcc_21 : decode cJ8_newLength_cabcc 21 = .ok (.iload_n 0, 1) := by decide +kernel
theorem dJ8_newLength_cabcc_22 : decode cJ8_newLength_cabcc 22 = .ok (.iload_n 1, 1) := by decide +kernel
theorem dJ8_newLength_cabcc_23 : decode cJ8_newLength_cabcc 23 = .ok (.invokestatic 201, 3) := by decide +kernel
theorem dJ8_newLength_cabcc_26 : decode cJ8_newLength_cabcc 26 = .ok (.ireturn, 1) := by decide +kernel
theorem dJ8_hugeLength_7cf53_0 : decode cJ8_hugeLength_7cf53 0 = .ok (.iload_n 0, 1) := by decide +kernel
theorem dJ8_hugeLength_7cf53_1 : decode cJ8_hugeLength_7cf53 1 = .ok (.iload_n 1, 1) := by decide +kernel
theorem dJ8_hugeLength_7cf53_2 : decode cJ8_hugeLength_7cf53 2 = .ok (.iadd, 1) := by decide +kernel
theorem dJ8_hugeLength_7cf53_3 : decode cJ8_hugeLength_7cf53 3 = .ok (.istore_n 2, 1) := by decide +kernel
theorem dJ8_hugeLength_7cf53_4 : decode cJ8_hugeLength_7cf53 4 = .ok (.iload_n 2, 1) := by decide +kernel
theorem dJ8_hugeLength_7cf53_5 : decode cJ8_hugeLength_7cf53 5 = .ok (.ifCond .ge 44, 3) := by decide +kernel
theorem dJ8_hugeLength_7cf53_8 : decode cJ8_hugeLength_7cf53 8 = .ok (.new 204, 3) := by decide +kernel
theorem dJ8_hugeLength_7cf53_11 : decode cJ8_hugeLength_7cf53 11 = .ok (.dup, 1) := by decide +kernel
theorem dJ8_hugeLength_7cf53_12 : decode cJ8_hugeLength_7cf53 12 = .ok (.new 89, 3) := by decide +kernel
theorem dJ8_hugeLength_7cf53_15 : decode cJ8_hugeLength_7cf53 15 = .ok (.dup, 1) := by decide +kernel
theorem dJ8_hugeLength_7cf53_16 : decode cJ8_hugeLength_7cf53 16 = .ok (.invokespecial 91, 3) := by decide +kernel
theorem dJ8_hugeLength_7cf53_19 : decode cJ8_hugeLength_7cf53 19 = .ok (.ldc 206, 2) := by decide +kernel
theorem dJ8_hugeLength_7cf53_21 : decode cJ8_hugeLength_7cf53 21 = .ok (.invokevirtual 94, 3) := by decide +kernel
theorem dJ8_hugeLength_7cf53_24 : decode cJ8_hugeLength_7cf53 24 = .ok (.iload_n 0, 1) := by decide +kernel
theorem dJ8_hugeLength_7cf53_25 : decode cJ8_hugeLength_7cf53 25 = .ok (.invokevirtual 98, 3) := by decide +kernel
theorem dJ8_hugeLength_7cf53_28 : decode cJ8_hugeLength_7cf53 28 = .ok (.ldc 208, 2) := by decide +kernel
theorem dJ8_hugeLength_7cf53_30 : decode cJ8_hugeLength_7cf53 30 = .ok (.invokevirtual 94, 3) := by decide +kernel
theorem dJ8_hugeLength_7cf53_33 : decode cJ8_hugeLength_7cf53 33 = .ok (.iload_n 1, 1) := by decide +kernel
theorem dJ8_hugeLength_7cf53_34 : decode cJ8_hugeLength_7cf53 34 = .ok (.invokevirtual 98, 3) := by decide +kernel
theorem dJ8_hugeLength_7cf53_37 : decode cJ8_hugeLength_7cf53 37 = .ok (.ldc 210, 2) := by decide +kernel
theorem dJ8_hugeLength_7cf53_39 : decode cJ8_hugeLength_7cf53 39 = .ok (.invokevirtual 94, 3) := by decide +kernel
theorem dJ8_hugeLength_7cf53_42 : decode cJ8_hugeLength_7cf53 42 = .ok (.invokevirtual 101, 3) := by decide +kernel
theorem dJ8_hugeLength_7cf53_45 : decode cJ8_hugeLength_7cf53 45 = .ok (.invokespecial 212, 3) := by decide +kernel
theorem dJ8_hugeLength_7cf53_48 : decode cJ8_hugeLength_7cf53 48 = .ok (.athrow, 1) := by decide +kernel
theorem dJ8_hugeLength_7cf53_49 : decode cJ8_hugeLength_7cf53 49 = .ok (.iload_n 2, 1) := by decide +kernel
theorem dJ8_hugeLength_7cf53_50 : decode cJ8_hugeLength_7cf53 50 = .ok (.ldc 200, 2) := by decide +kernel
theorem dJ8_hugeLength_7cf53_52 : decode cJ8_hugeLength_7cf53 52 = .ok (.if_icmp .gt 6, 3) := by decide +kernel
theorem dJ8_hugeLength_7cf53_55 : decode cJ8_hugeLength_7cf53 55 = .ok (.ldc 200, 2) := by decide +kernel
theorem dJ8_hugeLength_7cf53_57 : decode cJ8_hugeLength_7cf53 57 = .ok (.ireturn, 1) := by decide +kernel
theorem dJ8_hugeLength_7cf53_58 : decode cJ8_hugeLength_7cf53 58 = .ok (.iload_n 2, 1) := by decide +kernel
theorem dJ8_hugeLength_7cf53_59 : decode cJ8_hugeLength_7cf53 59 = .ok (.ireturn, 1) := by decide +kernel
theorem dJ3_checkIndex_8e157_0 : decode cJ3_checkIndex_8e157 0 = .ok (.iload_n 0, 1) := by decide +kernel
theorem dJ3_checkIndex_8e157_1 : decode cJ3_checkIndex_8e157 1 = .ok (.ifCond .lt 8, 3) := by decide +kernel
theorem dJ3_checkIndex_8e157_4 : decode cJ3_checkIndex_8e157 4 = .ok (.iload_n 0, 1) := by decide +kernel
theorem dJ3_checkIndex_8e157_5 : decode cJ3_checkIndex_8e157 5 = .ok (.iload_n 1, 1) := by decide +kernel
theorem dJ3_checkIndex_8e157_6 : decode cJ3_checkIndex_8e157 6 = .ok (.if_icmp .lt 10, 3) := by decide +kernel
theorem dJ3_checkIndex_8e157_9 : decode cJ3_checkIndex_8e157 9 = .ok (.aload_n 2, 1) := by decide +kernel
theorem dJ3_checkIndex_8e157_10 : decode cJ3_checkIndex_8e157 10 = .ok (.iload_n 0, 1) := by decide +kernel
theorem dJ3_checkIndex_8e157_11 : decode cJ3_checkIndex_8e157 11 = .ok (.iload_n 1, 1) := by decide +kernel
theorem dJ3_checkIndex_8e157_12 : decode cJ3_checkIndex_8e157 12 = .ok (.invokestatic 95, 3) := by decide +kernel
theorem dJ3_checkIndex_8e157_15 : decode cJ3_checkIndex_8e157 15 = .ok (.athrow, 1) := by decide +kernel
theorem dJ3_checkIndex_8e157_16 : decode cJ3_checkIndex_8e157 16 = .ok (.iload_n 0, 1) := by decide +kernel
theorem dJ3_checkIndex_8e157_17 : decode cJ3_checkIndex_8e157 17 = .ok (.ireturn, 1) := by decide +kernel
end
section
set_option maxRecDepth 20000 in
theorem ggX2_all_X2_common : GoodIn wsX2_all wsX2_common := goodIn_r _ [6, 7, 8, 9, 10, 11, 12, 13, 14, 15] (by decide +kernel) (by decide +kernel)
set_option maxRecDepth 20000 in
theorem gX2_all_X2_common : GoodIn wsX2_all (wsV RX2 36 RX2 yX2_common wsX2_common) := goodIn_app (goodIn_of _ (by decide +kernel)) ggX2_all_X2_common
set_option maxRecDepth 20000 in
theorem ggX2_firstBand_X2_agree : GoodIn wsX2_firstBand wsX2_agree := goodIn_r _ [8, 3, 9, 17, 18, 19, 20, 10, 11, 12, 13, 14, 15, 16] (by decide +kernel) (by decide +kernel)
set_option maxRecDepth 20000 in
theorem gX2_firstBand_X2_agree : GoodIn wsX2_firstBand (wsV RX2 43 RX2 yX2_agree wsX2_agree) := goodIn_app (goodIn_of _ (by decide +kernel)) ggX2_firstBand_X2_agree
set_option maxRecDepth 20000 in
theorem ggX2_areTwins_X2_firstBand : GoodIn wsX2_areTwins wsX2_firstBand := goodIn_r _ [5, 6, 7, 8, 9, 10, 11, 4, 12, 13, 30, 31, 32, 33, 34, 35, 36, 37, 38, 39, 40] (by decide +kernel) (by decide +kernel)
set_option maxRecDepth 20000 in
theorem gX2_areTwins_X2_firstBand : GoodIn wsX2_areTwins (wsV RX2 47 RX2 yX2_firstBand wsX2_firstBand) := goodIn_app (goodIn_of _ (by decide +kernel)) ggX2_areTwins_X2_firstBand
set_option maxRecDepth 20000 in
theorem ggX2_areTwins_X2_areNear : GoodIn wsX2_areTwins wsX2_areNear := goodIn_r _ [17, 18, 19, 20, 21, 22, 4, 23, 24, 25, 26, 27, 28, 29, 6, 37, 38, 39, 40, 30, 31, 32, 33, 34, 35, 36] (by decide +kernel) (by decide +kernel)
set_option maxRecDepth 20000 in
theorem gX2_areTwins_X2_areNear : GoodIn wsX2_areTwins (wsV RX2 50 RX2 yX2_areNear wsX2_areNear) := goodIn_app (goodIn_of _ (by decide +kernel)) ggX2_areTwins_X2_areNear
set_option maxRecDepth 20000 in
theorem ggX2_areNear_X2_common : GoodIn wsX2_areNear wsX2_common := goodIn_r _ [7, 8, 9, 19, 20, 21, 22, 23, 24, 25] (by decide +kernel) (by decide +kernel)
set_option maxRecDepth 20000 in
theorem gX2_areNear_X2_common : GoodIn wsX2_areNear (wsV RX2 36 RX2 yX2_common wsX2_common) := goodIn_app (goodIn_of _ (by decide +kernel)) ggX2_areNear_X2_common
set_option maxRecDepth 20000 in
theorem ggX2_areNear_X2_all : GoodIn wsX2_areNear wsX2_all := goodIn_r _ [13, 14, 3, 4, 5, 6, 7, 8, 9, 19, 20, 21, 22, 23, 24, 25] (by decide +kernel) (by decide +kernel)
set_option maxRecDepth 20000 in
theorem gX2_areNear_X2_all : GoodIn wsX2_areNear (wsV RX2 54 RX2 yX2_all wsX2_all) := goodIn_app (goodIn_of _ (by decide +kernel)) ggX2_areNear_X2_all
set_option maxRecDepth 20000 in
theorem ggX2_isNearer_X2_common : GoodIn wsX2_isNearer wsX2_common := goodIn_r _ [9, 10, 11, 17, 18, 19, 20, 21, 22, 23] (by decide +kernel) (by decide +kernel)
set_option maxRecDepth 20000 in
theorem gX2_isNearer_X2_common : GoodIn wsX2_isNearer (wsV RX2 36 RX2 yX2_common wsX2_common) := goodIn_app (goodIn_of _ (by decide +kernel)) ggX2_isNearer_X2_common
set_option maxRecDepth 20000 in
theorem ggX2_isNearer_X2_all : GoodIn wsX2_isNearer wsX2_all := goodIn_r _ [15, 16, 5, 6, 7, 8, 9, 10, 11, 17, 18, 19, 20, 21, 22, 23] (by decide +kernel) (by decide +kernel)
set_option maxRecDepth 20000 in
theorem gX2_isNearer_X2_all : GoodIn wsX2_isNearer (wsV RX2 54 RX2 yX2_all wsX2_all) := goodIn_app (goodIn_of _ (by decide +kernel)) ggX2_isNearer_X2_all
set_option maxRecDepth 20000 in
theorem ggX4_become_X4_isOne : GoodIn wsX4_become wsX4_isOne := goodIn_r _ [8] (by decide +kernel) (by decide +kernel)
set_option maxRecDepth 20000 in
theorem gX4_become_X4_isOne : GoodIn wsX4_become (va_wsS RX4 28 yX4_isOne wsX4_isOne) := goodIn_app (goodIn_of _ (by decide +kernel)) ggX4_become_X4_isOne
set_option maxRecDepth 20000 in
theorem ggX4_become_X4_isNumber : GoodIn wsX4_become wsX4_isNumber := goodIn_r _ [11, 12] (by decide +kernel) (by decide +kernel)
set_option maxRecDepth 20000 in
theorem gX4_become_X4_isNumber : GoodIn wsX4_become (va_wsS RX4 32 yX4_isNumber wsX4_isNumber) := goodIn_app (goodIn_of _ (by decide +kernel)) ggX4_become_X4_isNumber
set_option maxRecDepth 20000 in
theorem ggX4_become_X4_dropMoved : GoodIn wsX4_become wsX4_dropMoved := goodIn_r _ [16, 17, 18, 19, 20, 21, 22, 23, 24, 25, 26] (by decide +kernel) (by decide +kernel)
set_option maxRecDepth 20000 in
theorem gX4_become_X4_dropMoved : GoodIn wsX4_become (wsV RX4 39 RX4 yX4_dropMoved wsX4_dropMoved) := goodIn_app (goodIn_of _ (by decide +kernel)) ggX4_become_X4_dropMoved
set_option maxRecDepth 20000 in
theorem ggX4_swap_X4_isOne : GoodIn wsX4_swap wsX4_isOne := goodIn_r _ [6] (by decide +kernel) (by decide +kernel)
set_option maxRecDepth 20000 in
theorem gX4_swap_X4_isOne : GoodIn wsX4_swap (va_wsS RX4 28 yX4_isOne wsX4_isOne) := goodIn_app (goodIn_of _ (by decide +kernel)) ggX4_swap_X4_isOne
set_option maxRecDepth 20000 in
theorem ggX4_swap_X4_isNumber : GoodIn wsX4_swap wsX4_isNumber := goodIn_r _ [9, 10] (by decide +kernel) (by decide +kernel)
set_option maxRecDepth 20000 in
theorem gX4_swap_X4_isNumber : GoodIn wsX4_swap (va_wsS RX4 32 yX4_isNumber wsX4_isNumber) := goodIn_app (goodIn_of _ (by decide +kernel)) ggX4_swap_X4_isNumber
set_option maxRecDepth 20000 in
theorem ggX4_swap_X4_imageOf : GoodIn wsX4_swap wsX4_imageOf := goodIn_r _ [14, 2, 15, 16, 17, 18, 19, 20, 3, 4, 5, 6, 7, 8, 9, 10, 21, 22, 23, 24, 25, 26, 27, 32, 33, 34, 35, 36, 37, 38] (by decide +kernel) (by decide +kernel)
set_option maxRecDepth 20000 in
theorem gX4_swap_X4_imageOf : GoodIn wsX4_swap (wsV RX4 43 RX4 yX4_imageOf wsX4_imageOf) := goodIn_app (goodIn_of _ (by decide +kernel)) ggX4_swap_X4_imageOf
set_option maxRecDepth 20000 in
theorem ggX4_swap_X4_keyOf : GoodIn wsX4_swap wsX4_keyOf := goodIn_r _ [23] (by decide +kernel) (by decide +kernel)
set_option maxRecDepth 20000 in
theorem gX4_swap_X4_keyOf : GoodIn wsX4_swap (va_wsS RX4 47 yX4_keyOf wsX4_keyOf) := goodIn_app (goodIn_of _ (by decide +kernel)) ggX4_swap_X4_keyOf
set_option maxRecDepth 20000 in
theorem ggX4_swap_X4_move : GoodIn wsX4_swap wsX4_move := goodIn_r _ [31, 15, 16, 17, 24, 25, 26, 5, 27, 32, 33, 34, 35, 36, 37, 38] (by decide +kernel) (by decide +kernel)
set_option maxRecDepth 20000 in
theorem gX4_swap_X4_move : GoodIn wsX4_swap (wsV RX4 50 RX4 yX4_move wsX4_move) := goodIn_app (goodIn_of _ (by decide +kernel)) ggX4_swap_X4_move
set_option maxRecDepth 20000 in
theorem ggX4_imageOf_X4_isOne : GoodIn wsX4_imageOf wsX4_isOne := goodIn_r _ [11] (by decide +kernel) (by decide +kernel)
set_option maxRecDepth 20000 in
theorem gX4_imageOf_X4_isOne : GoodIn wsX4_imageOf (va_wsS RX4 28 yX4_isOne wsX4_isOne) := goodIn_app (goodIn_of _ (by decide +kernel)) ggX4_imageOf_X4_isOne
set_option maxRecDepth 20000 in
theorem ggX4_imageOf_X4_isNumber : GoodIn wsX4_imageOf wsX4_isNumber := goodIn_r _ [14, 15] (by decide +kernel) (by decide +kernel)
set_option maxRecDepth 20000 in
theorem gX4_imageOf_X4_isNumber : GoodIn wsX4_imageOf (va_wsS RX4 32 yX4_isNumber wsX4_isNumber) := goodIn_app (goodIn_of _ (by decide +kernel)) ggX4_imageOf_X4_isNumber
set_option maxRecDepth 20000 in
theorem ggX4_imageOf_X4_keyOf : GoodIn wsX4_imageOf wsX4_keyOf := goodIn_r _ [18] (by decide +kernel) (by decide +kernel)
set_option maxRecDepth 20000 in
theorem gX4_imageOf_X4_keyOf : GoodIn wsX4_imageOf (va_wsS RX4 47 yX4_keyOf wsX4_keyOf) := goodIn_app (goodIn_of _ (by decide +kernel)) ggX4_imageOf_X4_keyOf
set_option maxRecDepth 20000 in
theorem ggX4_imageOf_X4_placeFor : GoodIn wsX4_imageOf wsX4_placeFor := goodIn_r _ [22, 2, 3, 23, 24, 25, 26, 27, 28, 29] (by decide +kernel) (by decide +kernel)
set_option maxRecDepth 20000 in
theorem gX4_imageOf_X4_placeFor : GoodIn wsX4_imageOf (wsV RX4 54 RX4 yX4_placeFor wsX4_placeFor) := goodIn_app (goodIn_of _ (by decide +kernel)) ggX4_imageOf_X4_placeFor
set_option maxRecDepth 20000 in
theorem ggX4_leastOf_X4_imageOf : GoodIn wsX4_leastOf wsX4_imageOf := goodIn_r _ [12, 13, 14, 15, 16, 17, 18, 19, 20, 21, 11, 22, 23, 24, 25, 1, 26, 27, 28, 29, 30, 31, 32, 40, 41, 42, 43, 44, 45, 46] (by decide +kernel) (by decide +kernel)
set_option maxRecDepth 20000 in
theorem gX4_leastOf_X4_imageOf : GoodIn wsX4_leastOf (wsV RX4 43 RX4 yX4_imageOf wsX4_imageOf) := goodIn_app (goodIn_of _ (by decide +kernel)) ggX4_leastOf_X4_imageOf
set_option maxRecDepth 20000 in
theorem ggX4_move_X4_placeFor : GoodIn wsX4_move wsX4_placeFor := goodIn_r _ [8, 1, 2, 9, 10, 11, 12, 13, 14, 15] (by decide +kernel) (by decide +kernel)
set_option maxRecDepth 20000 in
theorem gX4_move_X4_placeFor : GoodIn wsX4_move (wsV RX4 54 RX4 yX4_placeFor wsX4_placeFor) := goodIn_app (goodIn_of _ (by decide +kernel)) ggX4_move_X4_placeFor
set_option maxRecDepth 20000 in
theorem ggX6_numberOf_X6_firstSeat : GoodIn wsX6_numberOf wsX6_firstSeat := goodIn_r _ [5] (by decide +kernel) (by decide +kernel)
set_option maxRecDepth 20000 in
theorem gX6_numberOf_X6_firstSeat : GoodIn wsX6_numberOf (va_wsS RX6 30 yX6_firstSeat wsX6_firstSeat) := goodIn_app (goodIn_of _ (by decide +kernel)) ggX6_numberOf_X6_firstSeat
set_option maxRecDepth 20000 in
theorem ggX6_numberOf_X6_enter : GoodIn wsX6_numberOf wsX6_enter := goodIn_r _ [9, 10, 11, 12, 13, 1, 14, 19, 20, 21, 22, 23] (by decide +kernel) (by decide +kernel)
set_option maxRecDepth 20000 in
theorem gX6_numberOf_X6_enter : GoodIn wsX6_numberOf (wsV RX6 34 RX6 yX6_enter wsX6_enter) := goodIn_app (goodIn_of _ (by decide +kernel)) ggX6_numberOf_X6_enter
set_option maxRecDepth 20000 in
theorem ggX6_numberOf_X6_isThere : GoodIn wsX6_numberOf wsX6_isThere := goodIn_r _ [18, 10, 13, 19, 20, 21, 22, 23] (by decide +kernel) (by decide +kernel)
set_option maxRecDepth 20000 in
theorem gX6_numberOf_X6_isThere : GoodIn wsX6_numberOf (wsV RX6 38 RX6 yX6_isThere wsX6_isThere) := goodIn_app (goodIn_of _ (by decide +kernel)) ggX6_numberOf_X6_isThere
set_option maxRecDepth 20000 in
theorem ggX7_makePlain_X7_plainSign : GoodIn wsX7_makePlain wsX7_plainSign := goodIn_r _ [7] (by decide +kernel) (by decide +kernel)
set_option maxRecDepth 20000 in
theorem gX7_makePlain_X7_plainSign : GoodIn wsX7_makePlain (va_wsS RX7 29 yX7_plainSign wsX7_plainSign) := goodIn_app (goodIn_of _ (by decide +kernel)) ggX7_makePlain_X7_plainSign
set_option maxRecDepth 20000 in
theorem ggX7_makePlain_X7_putPlain : GoodIn wsX7_makePlain wsX7_putPlain := goodIn_r _ [11, 1, 12, 13, 14, 15, 16, 17, 18, 19] (by decide +kernel) (by decide +kernel)
set_option maxRecDepth 20000 in
theorem gX7_makePlain_X7_putPlain : GoodIn wsX7_makePlain (wsV RX7 33 RX7 yX7_putPlain wsX7_putPlain) := goodIn_app (goodIn_of _ (by decide +kernel)) ggX7_makePlain_X7_putPlain
end
section
/-! ===== Tape ===== -/
/-- a length that may be cut to -/
def tp_ok (x : Int32) (len : Nat) : Bool := decide (¬ x < 0) && decide (x ≤ nI len)
def tp_cut (x : Int32) (len : Nat) : Nat := if tp_ok x len then x.toNatClampNeg else len
theorem tp_no {x : Int32} {len : Nat} (h : tp_ok x len = false) : tp_cut x len = len := by simp [tp_cut, h]
theorem tp_yes {j len : Nat} (hj : j ≤ len) (hl : len < 2 ^ 31) : tp_ok (nI j) len = true ∧ tp_cut (nI j) len = j := by
  have h1 : ¬ nI j < 0 := nI_pos (by omega)
  have h2 : nI j ≤ nI len := nI_le hj hl
  have h3 : tp_ok (nI j) len = true := by simp [tp_ok, h1, h2]
  exact ⟨h3, by rw [tp_cut, h3, if_pos rfl, nI_clamp (by omega)]⟩
/-- byte number k (0 the highest) of an int -/
def by4 (v : Int32) (k : Nat) : Int32 := (v.toUInt32 >>> ((nI (24 - 8 * k)).toUInt32 &&& Int32.toUInt32 31)).toInt32.toInt8.toInt32
def put4 (f : Nat → Int32) (n : Nat) (v : Int32) : Nat → Int32 := upd (upd (upd (upd f n (by4 v 0)) (n + 1) (by4 v 1)) (n + 2) (by4 v 2)) (n + 3) (by4 v 3)
theorem i8_twice (x : Int32) : x.toInt8.toInt32.toInt8.toInt32 = x.toInt8.toInt32 := by simp
def plSign (x : Int32) : Int32 := if 65 ≤ x.toInt ∧ x.toInt ≤ 90 then x - 65 + 97 else if (97 ≤ x.toInt ∧ x.toInt ≤ 122) ∨ (48 ≤ x.toInt ∧ x.toInt ≤ 57) then x else 32

theorem Hd.upd {f : Nat → Int32} {L : List Int32} {x : Int32} (h : Hd f L) : Hd (upd f L.length x) (L ++ [x]) := by
  intro i hi
  rw [List.length_append, List.length_singleton] at hi
  by_cases he : i = L.length
  · subst he
    rw [pk_us]
    simp [List.getD_eq_getElem?_getD]
  · have hlt : i < L.length := by omega
    rw [pk_un he, h i hlt]
    simp [List.getD_eq_getElem?_getD, List.getElem?_append_left hlt]
theorem plS_byte (x : Int32) : (plSign x).toInt8.toInt32 = plSign x := by
  have key : ∀ y : Int32, 0 ≤ y.toInt → y.toInt < 128 → y.toInt8.toInt32 = y := by
    intro y h0 h1
    apply Int32.toInt_inj.mp
    simp [Int32.toInt_toInt8]
    rw [Int.bmod_eq_of_le] <;> omega
  unfold plSign
  split
  · rename_i h
    have e : (x - 65 + 97).toInt = x.toInt + 32 := by
      have h1 : (x - 65 + 97) = x + 32 := by
        rw [Int32.sub_eq_add_neg, Int32.add_assoc]
        rfl
      rw [h1, Int32.toInt_add]
      simp only [show (32 : Int32).toInt = 32 from rfl]
      rw [Int.bmod_eq_of_le] <;> omega
    apply key <;> omega
  · split
    · rename_i h
      apply key <;> omega
    · decide

theorem Hd.nil {f : Nat → Int32} : Hd f [] := fun i hi => absurd hi (Nat.not_lt_zero i)
theorem Hd.at {f : Nat → Int32} {L : List Int32} (h : Hd f L) {i : Nat} (hi : i < L.length) : f i = L[i] := by
  rw [h i hi, List.getD_eq_getElem?_getD, List.getElem?_eq_getElem hi]
  rfl
theorem Hd.pre {f : Nat → Int32} {L L' : List Int32} (h : Hd f (L ++ L')) : Hd f L := by
  intro i hi
  rw [h i (by rw [List.length_append]; omega)]
  simp [List.getD_eq_getElem?_getD, List.getElem?_append_left hi]
theorem Hd.take {f : Nat → Int32} {L : List Int32} (h : Hd f L) (n : Nat) : Hd f (L.take n) := by
  rw [← List.take_append_drop n L] at h
  exact h.pre
/-- PLAIN, a byte at a time: what came out, and whether a blank is due -/
def pst (q : List Int32 × Bool) (x : Int32) : List Int32 × Bool :=
  if plSign x = 32 then (q.1, true) else (if q.2 && !q.1.isEmpty then q.1 ++ [32] ++ [plSign x] else q.1 ++ [plSign x], false)
def plainOf (T : List Int32) : List Int32 := (T.foldl pst ([], false)).1
theorem pst_take {T : List Int32} {i : Nat} (hi : i < T.length) {q : List Int32 × Bool} (h : (T.take i).foldl pst ([], false) = q) : (T.take (i + 1)).foldl pst ([], false) = pst q T[i] := by
  rw [← List.take_append_getElem hi, List.foldl_append, h]
  rfl
theorem plainOf_of {T : List Int32} {i : Nat} {o : List Int32} {d : Bool} (h : (T.take i).foldl pst ([], false) = (o, d)) (hi : T.length ≤ i) : plainOf T = o := by
  rw [List.take_of_length_le hi] at h
  rw [plainOf, h]
theorem plainOf_len (T : List Int32) : (plainOf T).length ≤ T.length := by
  have key : ∀ (L : List Int32) (q : List Int32 × Bool), (L.foldl pst q).1.length + (if (L.foldl pst q).2 && !(L.foldl pst q).1.isEmpty then 1 else 0) ≤ q.1.length + (if q.2 && !q.1.isEmpty then 1 else 0) + L.length := by
    intro L
    induction L with
    | nil => intro q; simp
    | cons x L ih =>
      intro q
      rw [List.foldl_cons, List.length_cons]
      refine Nat.le_trans (ih (pst q x)) ?_
      have : (pst q x).1.length + (if (pst q x).2 && !(pst q x).1.isEmpty then 1 else 0) ≤ q.1.length + (if q.2 && !q.1.isEmpty then 1 else 0) + 1 := by
        obtain ⟨o, d⟩ := q
        unfold pst
        by_cases h1 : plSign x = 32
        · simp only [h1, if_true]
          split <;> split <;> omega
        · simp only [h1, if_false]
          by_cases h2 : (d && !o.isEmpty) = true
          · simp only [h2, if_true]
            simp
          · simp only [h2]
            simp
      omega
  have h := key T ([], false)
  simp at h
  unfold plainOf
  omega
end
section
set_option maxHeartbeats 4000000 in
set_option maxRecDepth 100000 in
theorem c_X7_cutTo {D : va_G} {cB cI cJ cO : ClassId} {l : Launch} {a1 a2 a3 a4 len pl pcs gp : Nat} {x : Int32} {ws : va_W} (g1 : ws[1]? = some (a1, .inr (8, [.ref a2, .ref a3, .ref a4, .int (nI len), .int (nI pl), .int (nI pcs), .int (nI gp)]))) (hlen : len < 2 ^ 31) : CI D (TY cB cI cJ cO) l yX7_cutTo wsX7_cutTo ({ frames := 0, cells := 0, slots := 0, locals := 0 }) [.ref a1, .int x] ws (fun r ws' => r = nI ((tp_ok x len).toNat) ∧ Sm (fun k => k = 1) ws ws' ∧ ws'[1]? = some (a1, .inr (8, [.ref a2, .ref a3, .ref a4, .int (nI (tp_cut x len)), .int (nI pl), .int (nI pcs), .int (nI gp)]))) := by
  refine CI.of (cc := cX7_cutTo) (maxL := 2) (ret := (some .boolean)) (by decide) rfl (Nat.le_of_ble_eq_true rfl) ?_
  intro p e s m below meth c A C hK hP hD hA hS ls hl
  obtain ⟨hx, hb, hr, hml, hts, hown, hlocks, hnm⟩ := id C
  have fl_22 := hts (.fieldLink RX7 22 "TwinFinder$Tape" "length" "I") (by decide +kernel)
  have hin_X7 : ∀ w ∈ u_ws RX7 TX7 7, w ∈ wsX7_cutTo := by decide +kernel
  have hl : lv_has ls 2 [(0, .ref a1), (1, .int x)] := hl
  have sm : Sm (fun k => k = 1) ws ws := Sm.rf
  have hc0 : (0 : Nat) ≤ 0 := by decide
  have hs0 : (0 : Nat) ≤ 0 := by decide
  refine lv_iload_n hx hb dX7_cutTo_0 rfl (lv_at hl 1 rfl) ?_
  refine lv_if_lt (tgt := 12) hx hb dX7_cutTo_1 (by decide) (fun c_1 => ?_) (fun c_1 => ?_)
  · refine lv_iconst (v := nI 0) hx hb dX7_cutTo_12 (by decide) ?_
    have hno : tp_ok x len = false := by first | (rw [tp_ok, decide_eq_false c_9, Bool.and_false]) | (rw [tp_ok, decide_eq_false (fun h => h c_1)]; rfl)
    have g1 : ws[1]? = some (a1, .inr (8, [.ref a2, .ref a3, .ref a4, .int (nI (tp_cut x len)), .int (nI pl), .int (nI pcs), .int (nI gp)])) := by rw [tp_no hno]; exact g1
    exact CI.ret (v := (nI 0)) C hK hP hD hS (by decide) (⟨(by rw [hno]; rfl), sm, g1⟩) hc0 hs0 dX7_cutTo_13
  · refine lv_iload_n hx hb dX7_cutTo_4 rfl (lv_at hl 1 rfl) ?_
    refine lv_aload_n hx hb dX7_cutTo_5 rfl (lv_at hl 0 rfl) ?_
    refine va_get (D := D) (ci := 8) (v := .int (nI len)) (C := RX7) (T := TX7) (N := 7) hx hb hts hin_X7 hown hK hP 1 g1 rfl 3 (by decide) fl_22 (fun _ h9 => h9) rfl dX7_cutTo_6 ?_
    refine lv_icmp_le (tgt := 14) hx hb dX7_cutTo_9 (by decide) (fun c_9 => ?_) (fun c_9 => ?_)
    · obtain ⟨j, hj, rfl⟩ : ∃ j : Nat, j ≤ len ∧ x = nI j := nI_of2 (nI_toInt hlen) c_1 c_9
      refine lv_aload_n hx hb dX7_cutTo_14 rfl (lv_at hl 0 rfl) ?_
      refine lv_iload_n hx hb dX7_cutTo_15 rfl (lv_at hl 1 rfl) ?_
      refine nx_put (D := D) (ci := 8) (v := .int (nI j)) (ty := .int) (C := RX7) (T := TX7) (N := 7) hx hb hts hin_X7 tyX7 tyX7_ok nmX7 hown hK hP hD hS 1 g1 rfl 3 (by decide) fl_22 (fun _ h9 => h9) rfl (by decide +kernel) rfl rfl (Nat.le_of_ble_eq_true rfl) dX7_cutTo_16 (fun ws_1 H locs gq up_2 hP hD hS => ?_)
      have g1 : ws_1[1]? = some (a1, .inr (8, [.ref a2, .ref a3, .ref a4, .int (nI j), .int (nI pl), .int (nI pcs), .int (nI gp)])) := gq
      have sm := sm.up up_2 (by simp)
      refine lv_iconst (v := nI 1) hx hb dX7_cutTo_19 (by decide) ?_
      have g1 : ws_1[1]? = some (a1, .inr (8, [.ref a2, .ref a3, .ref a4, .int (nI (tp_cut (nI j) len)), .int (nI pl), .int (nI pcs), .int (nI gp)])) := by rw [(tp_yes hj hlen).2]; exact g1
      exact CI.ret (v := (nI 1)) C hK hP hD hS (by decide) (⟨(by rw [(tp_yes hj hlen).1]; rfl), sm, g1⟩) hc0 hs0 dX7_cutTo_20
    · refine lv_iconst (v := nI 0) hx hb dX7_cutTo_12 (by decide) ?_
      have hno : tp_ok x len = false := by first | (rw [tp_ok, decide_eq_false c_9, Bool.and_false]) | (rw [tp_ok, decide_eq_false (fun h => h c_1)]; rfl)
      have g1 : ws[1]? = some (a1, .inr (8, [.ref a2, .ref a3, .ref a4, .int (nI (tp_cut x len)), .int (nI pl), .int (nI pcs), .int (nI gp)])) := by rw [tp_no hno]; exact g1
      exact CI.ret (v := (nI 0)) C hK hP hD hS (by decide) (⟨(by rw [hno]; rfl), sm, g1⟩) hc0 hs0 dX7_cutTo_13
set_option maxHeartbeats 4000000 in
set_option maxRecDepth 100000 in
theorem c_X7_putFour {D : va_G} {cB cI cJ cO : ClassId} {l : Launch} {a1 a2 a3 a4 len pl pcs gp : Nat} {v : Int32} {f : Nat → Int32} {ws : va_W} (g1 : ws[1]? = some (a1, .inr (8, [.ref a2, .ref a3, .ref a4, .int (nI len), .int (nI pl), .int (nI pcs), .int (nI gp)]))) (g2 : ws[2]? = some (a2, .inl (cB, 800, .inl f))) (hlen : len + 4 ≤ 800) : CV D (TY cB cI cJ cO) l yX7_putFour wsX7_putFour ({ frames := 0, cells := 0, slots := 0, locals := 0 }) [.ref a1, .int v] ws (fun ws' => Sm (fun k => k = 1 ∨ k = 2) ws ws' ∧ ws'[1]? = some (a1, .inr (8, [.ref a2, .ref a3, .ref a4, .int (nI (len + 4)), .int (nI pl), .int (nI pcs), .int (nI gp)])) ∧ ws'[2]? = some (a2, .inl (cB, 800, .inl (put4 f len v)))) := by
  refine CV.of (cc := cX7_putFour) (maxL := 3) (ret := none) (by decide) rfl (Nat.le_of_ble_eq_true rfl) ?_
  intro p e s m below meth c A C hK hP hD hA hS ls hl
  obtain ⟨hx, hb, hr, hml, hts, hown, hlocks, hnm⟩ := id C
  have fl_9 := hts (.fieldLink RX7 9 "TwinFinder$Tape" "bytes" "[B") (by decide +kernel)
  have fl_22 := hts (.fieldLink RX7 22 "TwinFinder$Tape" "length" "I") (by decide +kernel)
  have hin_X7 : ∀ w ∈ u_ws RX7 TX7 7, w ∈ wsX7_putFour := by decide +kernel
  have hl : lv_has ls 3 [(0, .ref a1), (1, .int v)] := hl
  have sm : Sm (fun k => k = 1 ∨ k = 2) ws ws := Sm.rf
  have hc0 : (0 : Nat) ≤ 0 := by decide
  have hs0 : (0 : Nat) ≤ 0 := by decide
  refine lv_bipush (v := nI 24) hx hb dX7_putFour_0 (by decide) ?_
  refine lv_istore_n (lv' := [(2, .int (nI 24)), (0, .ref a1), (1, .int v)]) hx hb dX7_putFour_2 rfl hl (by decide) rfl (fun ls hl => ?_)
  refine lv_iload_n hx hb dX7_putFour_3 rfl (lv_at hl 0 rfl) ?_
  refine lv_if_lt (tgt := 46) hx hb dX7_putFour_4 (by decide) (fun c_4 => absurd c_4 (by decide)) (fun c_4 => ?_)
  refine lv_aload_n hx hb dX7_putFour_7 rfl (lv_at hl 1 rfl) ?_
  refine va_get (D := D) (ci := 8) (v := .int (nI len)) (C := RX7) (T := TX7) (N := 7) hx hb hts hin_X7 hown hK hP 1 g1 rfl 3 (by decide) fl_22 (fun _ h9 => h9) rfl dX7_putFour_8 ?_
  refine lv_sipush (v := nI 800) hx hb dX7_putFour_11 (by decide) ?_
  refine nx_icmp_ge (tgt := 40) hx hb (by omega) (by omega) dX7_putFour_14 (by decide) (fun c_14 => ?_) (fun c_14 => ?_)
  · omega
  · refine lv_aload_n hx hb dX7_putFour_17 rfl (lv_at hl 1 rfl) ?_
    refine va_get (D := D) (ci := 8) (v := .ref a2) (C := RX7) (T := TX7) (N := 7) hx hb hts hin_X7 hown hK hP 1 g1 rfl 0 (by decide) fl_9 (fun _ h9 => h9) rfl dX7_putFour_18 ?_
    refine lv_aload_n hx hb dX7_putFour_21 rfl (lv_at hl 1 rfl) ?_
    refine va_get (D := D) (ci := 8) (v := .int (nI len)) (C := RX7) (T := TX7) (N := 7) hx hb hts hin_X7 hown hK hP 1 g1 rfl 3 (by decide) fl_22 (fun _ h9 => h9) rfl dX7_putFour_22 ?_
    refine lv_iload_n hx hb dX7_putFour_25 rfl (lv_at hl 2 rfl) ?_
    refine lv_iload_n hx hb dX7_putFour_26 rfl (lv_at hl 0 rfl) ?_
    refine lv_iushr hx hb dX7_putFour_27 rfl ?_
    refine lv_i2b hx hb dX7_putFour_28 rfl ?_
    refine nx_bast hx hb hK hP hD hS 2 0 g2 rfl (k := len) (by omega) (by decide) dX7_putFour_29 (fun ws_1 H locs gq up_2 hP hD hS => ?_)
    have g2 : ws_1[2]? = some (a2, .inl (cB, 800, .inl (upd f len ((((v.toUInt32 >>> ((nI 24).toUInt32 &&& Int32.toUInt32 31)).toInt32).toInt8.toInt32).toInt8.toInt32)))) := gq
    have g1 := up_2.get g1 (by decide)
    have sm := sm.up up_2 (by simp)
    refine lv_aload_n hx hb dX7_putFour_30 rfl (lv_at hl 1 rfl) ?_
    refine lv_dup hx hb dX7_putFour_31 rfl ?_
    refine va_get (D := D) (ci := 8) (v := .int (nI len)) (C := RX7) (T := TX7) (N := 7) hx hb hts hin_X7 hown hK hP 1 g1 rfl 3 (by decide) fl_22 (fun _ h9 => h9) rfl dX7_putFour_32 ?_
    refine lv_iconst (v := nI 1) hx hb dX7_putFour_35 (by decide) ?_
    refine nx_iadd hx hb dX7_putFour_36 ?_
    refine nx_put (D := D) (ci := 8) (v := .int (nI (len + 1))) (ty := .int) (C := RX7) (T := TX7) (N := 7) hx hb hts hin_X7 tyX7 tyX7_ok nmX7 hown hK hP hD hS 1 g1 rfl 3 (by decide) fl_22 (fun _ h9 => h9) rfl (by decide +kernel) rfl rfl (Nat.le_of_ble_eq_true rfl) dX7_putFour_37 (fun ws_3 H locs gq up_4 hP hD hS => ?_)
    have g1 : ws_3[1]? = some (a1, .inr (8, [.ref a2, .ref a3, .ref a4, .int (nI (len + 1)), .int (nI pl), .int (nI pcs), .int (nI gp)])) := gq
    have g2 := up_4.get g2 (by decide)
    have sm := sm.up up_4 (by simp)
    refine lv_iinc (v := (nI 16)) (lv' := [(2, .int (nI 16)), (0, .ref a1), (1, .int v)]) hx hb dX7_putFour_40 hl (k := 0) rfl (by decide) (by decide) rfl (fun ls hl => ?_)
    refine lv_goto (tgt := 3) hx hb dX7_putFour_43 (by decide) ?_
    refine lv_iload_n hx hb dX7_putFour_3 rfl (lv_at hl 0 rfl) ?_
    refine lv_if_lt (tgt := 46) hx hb dX7_putFour_4 (by decide) (fun c_4 => absurd c_4 (by decide)) (fun c_4 => ?_)
    refine lv_aload_n hx hb dX7_putFour_7 rfl (lv_at hl 1 rfl) ?_
    refine va_get (D := D) (ci := 8) (v := .int (nI (len + 1))) (C := RX7) (T := TX7) (N := 7) hx hb hts hin_X7 hown hK hP 1 g1 rfl 3 (by decide) fl_22 (fun _ h9 => h9) rfl dX7_putFour_8 ?_
    refine lv_sipush (v := nI 800) hx hb dX7_putFour_11 (by decide) ?_
    refine nx_icmp_ge (tgt := 40) hx hb (by omega) (by omega) dX7_putFour_14 (by decide) (fun c_14 => ?_) (fun c_14 => ?_)
    · omega
    · refine lv_aload_n hx hb dX7_putFour_17 rfl (lv_at hl 1 rfl) ?_
      refine va_get (D := D) (ci := 8) (v := .ref a2) (C := RX7) (T := TX7) (N := 7) hx hb hts hin_X7 hown hK hP 1 g1 rfl 0 (by decide) fl_9 (fun _ h9 => h9) rfl dX7_putFour_18 ?_
      refine lv_aload_n hx hb dX7_putFour_21 rfl (lv_at hl 1 rfl) ?_
      refine va_get (D := D) (ci := 8) (v := .int (nI (len + 1))) (C := RX7) (T := TX7) (N := 7) hx hb hts hin_X7 hown hK hP 1 g1 rfl 3 (by decide) fl_22 (fun _ h9 => h9) rfl dX7_putFour_22 ?_
      refine lv_iload_n hx hb dX7_putFour_25 rfl (lv_at hl 2 rfl) ?_
      refine lv_iload_n hx hb dX7_putFour_26 rfl (lv_at hl 0 rfl) ?_
      refine lv_iushr hx hb dX7_putFour_27 rfl ?_
      refine lv_i2b hx hb dX7_putFour_28 rfl ?_
      refine nx_bast hx hb hK hP hD hS 2 0 g2 rfl (k := (len + 1)) (by omega) (by decide) dX7_putFour_29 (fun ws_5 H locs gq up_6 hP hD hS => ?_)
      have g2 : ws_5[2]? = some (a2, .inl (cB, 800, .inl (upd (upd f len ((((v.toUInt32 >>> ((nI 24).toUInt32 &&& Int32.toUInt32 31)).toInt32).toInt8.toInt32).toInt8.toInt32)) (len + 1) ((((v.toUInt32 >>> ((nI 16).toUInt32 &&& Int32.toUInt32 31)).toInt32).toInt8.toInt32).toInt8.toInt32)))) := gq
      have g1 := up_6.get g1 (by decide)
      have sm := sm.up up_6 (by simp)
      refine lv_aload_n hx hb dX7_putFour_30 rfl (lv_at hl 1 rfl) ?_
      refine lv_dup hx hb dX7_putFour_31 rfl ?_
      refine va_get (D := D) (ci := 8) (v := .int (nI (len + 1))) (C := RX7) (T := TX7) (N := 7) hx hb hts hin_X7 hown hK hP 1 g1 rfl 3 (by decide) fl_22 (fun _ h9 => h9) rfl dX7_putFour_32 ?_
      refine lv_iconst (v := nI 1) hx hb dX7_putFour_35 (by decide) ?_
      refine nx_iadd hx hb dX7_putFour_36 ?_
      refine nx_put (D := D) (ci := 8) (v := .int (nI ((len + 1) + 1))) (ty := .int) (C := RX7) (T := TX7) (N := 7) hx hb hts hin_X7 tyX7 tyX7_ok nmX7 hown hK hP hD hS 1 g1 rfl 3 (by decide) fl_22 (fun _ h9 => h9) rfl (by decide +kernel) rfl rfl (Nat.le_of_ble_eq_true rfl) dX7_putFour_37 (fun ws_7 H locs gq up_8 hP hD hS => ?_)
      have g1 : ws_7[1]? = some (a1, .inr (8, [.ref a2, .ref a3, .ref a4, .int (nI ((len + 1) + 1)), .int (nI pl), .int (nI pcs), .int (nI gp)])) := gq
      have g2 := up_8.get g2 (by decide)
      have sm := sm.up up_8 (by simp)
      refine lv_iinc (v := (nI 8)) (lv' := [(2, .int (nI 8)), (0, .ref a1), (1, .int v)]) hx hb dX7_putFour_40 hl (k := 0) rfl (by decide) (by decide) rfl (fun ls hl => ?_)
      refine lv_goto (tgt := 3) hx hb dX7_putFour_43 (by decide) ?_
      refine lv_iload_n hx hb dX7_putFour_3 rfl (lv_at hl 0 rfl) ?_
      refine lv_if_lt (tgt := 46) hx hb dX7_putFour_4 (by decide) (fun c_4 => absurd c_4 (by decide)) (fun c_4 => ?_)
      refine lv_aload_n hx hb dX7_putFour_7 rfl (lv_at hl 1 rfl) ?_
      refine va_get (D := D) (ci := 8) (v := .int (nI ((len + 1) + 1))) (C := RX7) (T := TX7) (N := 7) hx hb hts hin_X7 hown hK hP 1 g1 rfl 3 (by decide) fl_22 (fun _ h9 => h9) rfl dX7_putFour_8 ?_
      refine lv_sipush (v := nI 800) hx hb dX7_putFour_11 (by decide) ?_
      refine nx_icmp_ge (tgt := 40) hx hb (by omega) (by omega) dX7_putFour_14 (by decide) (fun c_14 => ?_) (fun c_14 => ?_)
      · omega
      · refine lv_aload_n hx hb dX7_putFour_17 rfl (lv_at hl 1 rfl) ?_
        refine va_get (D := D) (ci := 8) (v := .ref a2) (C := RX7) (T := TX7) (N := 7) hx hb hts hin_X7 hown hK hP 1 g1 rfl 0 (by decide) fl_9 (fun _ h9 => h9) rfl dX7_putFour_18 ?_
        refine lv_aload_n hx hb dX7_putFour_21 rfl (lv_at hl 1 rfl) ?_
        refine va_get (D := D) (ci := 8) (v := .int (nI ((len + 1) + 1))) (C := RX7) (T := TX7) (N := 7) hx hb hts hin_X7 hown hK hP 1 g1 rfl 3 (by decide) fl_22 (fun _ h9 => h9) rfl dX7_putFour_22 ?_
        refine lv_iload_n hx hb dX7_putFour_25 rfl (lv_at hl 2 rfl) ?_
        refine lv_iload_n hx hb dX7_putFour_26 rfl (lv_at hl 0 rfl) ?_
        refine lv_iushr hx hb dX7_putFour_27 rfl ?_
        refine lv_i2b hx hb dX7_putFour_28 rfl ?_
        refine nx_bast hx hb hK hP hD hS 2 0 g2 rfl (k := ((len + 1) + 1)) (by omega) (by decide) dX7_putFour_29 (fun ws_9 H locs gq up_10 hP hD hS => ?_)
        have g2 : ws_9[2]? = some (a2, .inl (cB, 800, .inl (upd (upd (upd f len ((((v.toUInt32 >>> ((nI 24).toUInt32 &&& Int32.toUInt32 31)).toInt32).toInt8.toInt32).toInt8.toInt32)) (len + 1) ((((v.toUInt32 >>> ((nI 16).toUInt32 &&& Int32.toUInt32 31)).toInt32).toInt8.toInt32).toInt8.toInt32)) ((len + 1) + 1) ((((v.toUInt32 >>> ((nI 8).toUInt32 &&& Int32.toUInt32 31)).toInt32).toInt8.toInt32).toInt8.toInt32)))) := gq
        have g1 := up_10.get g1 (by decide)
        have sm := sm.up up_10 (by simp)
        refine lv_aload_n hx hb dX7_putFour_30 rfl (lv_at hl 1 rfl) ?_
        refine lv_dup hx hb dX7_putFour_31 rfl ?_
        refine va_get (D := D) (ci := 8) (v := .int (nI ((len + 1) + 1))) (C := RX7) (T := TX7) (N := 7) hx hb hts hin_X7 hown hK hP 1 g1 rfl 3 (by decide) fl_22 (fun _ h9 => h9) rfl dX7_putFour_32 ?_
        refine lv_iconst (v := nI 1) hx hb dX7_putFour_35 (by decide) ?_
        refine nx_iadd hx hb dX7_putFour_36 ?_
        refine nx_put (D := D) (ci := 8) (v := .int (nI (((len + 1) + 1) + 1))) (ty := .int) (C := RX7) (T := TX7) (N := 7) hx hb hts hin_X7 tyX7 tyX7_ok nmX7 hown hK hP hD hS 1 g1 rfl 3 (by decide) fl_22 (fun _ h9 => h9) rfl (by decide +kernel) rfl rfl (Nat.le_of_ble_eq_true rfl) dX7_putFour_37 (fun ws_11 H locs gq up_12 hP hD hS => ?_)
        have g1 : ws_11[1]? = some (a1, .inr (8, [.ref a2, .ref a3, .ref a4, .int (nI (((len + 1) + 1) + 1)), .int (nI pl), .int (nI pcs), .int (nI gp)])) := gq
        have g2 := up_12.get g2 (by decide)
        have sm := sm.up up_12 (by simp)
        refine lv_iinc (v := (nI 0)) (lv' := [(2, .int (nI 0)), (0, .ref a1), (1, .int v)]) hx hb dX7_putFour_40 hl (k := 0) rfl (by decide) (by decide) rfl (fun ls hl => ?_)
        refine lv_goto (tgt := 3) hx hb dX7_putFour_43 (by decide) ?_
        refine lv_iload_n hx hb dX7_putFour_3 rfl (lv_at hl 0 rfl) ?_
        refine lv_if_lt (tgt := 46) hx hb dX7_putFour_4 (by decide) (fun c_4 => absurd c_4 (by decide)) (fun c_4 => ?_)
        refine lv_aload_n hx hb dX7_putFour_7 rfl (lv_at hl 1 rfl) ?_
        refine va_get (D := D) (ci := 8) (v := .int (nI (((len + 1) + 1) + 1))) (C := RX7) (T := TX7) (N := 7) hx hb hts hin_X7 hown hK hP 1 g1 rfl 3 (by decide) fl_22 (fun _ h9 => h9) rfl dX7_putFour_8 ?_
        refine lv_sipush (v := nI 800) hx hb dX7_putFour_11 (by decide) ?_
        refine nx_icmp_ge (tgt := 40) hx hb (by omega) (by omega) dX7_putFour_14 (by decide) (fun c_14 => ?_) (fun c_14 => ?_)
        · omega
        · refine lv_aload_n hx hb dX7_putFour_17 rfl (lv_at hl 1 rfl) ?_
          refine va_get (D := D) (ci := 8) (v := .ref a2) (C := RX7) (T := TX7) (N := 7) hx hb hts hin_X7 hown hK hP 1 g1 rfl 0 (by decide) fl_9 (fun _ h9 => h9) rfl dX7_putFour_18 ?_
          refine lv_aload_n hx hb dX7_putFour_21 rfl (lv_at hl 1 rfl) ?_
          refine va_get (D := D) (ci := 8) (v := .int (nI (((len + 1) + 1) + 1))) (C := RX7) (T := TX7) (N := 7) hx hb hts hin_X7 hown hK hP 1 g1 rfl 3 (by decide) fl_22 (fun _ h9 => h9) rfl dX7_putFour_22 ?_
          refine lv_iload_n hx hb dX7_putFour_25 rfl (lv_at hl 2 rfl) ?_
          refine lv_iload_n hx hb dX7_putFour_26 rfl (lv_at hl 0 rfl) ?_
          refine lv_iushr hx hb dX7_putFour_27 rfl ?_
          refine lv_i2b hx hb dX7_putFour_28 rfl ?_
          refine nx_bast hx hb hK hP hD hS 2 0 g2 rfl (k := (((len + 1) + 1) + 1)) (by omega) (by decide) dX7_putFour_29 (fun ws_13 H locs gq up_14 hP hD hS => ?_)
          have g2 : ws_13[2]? = some (a2, .inl (cB, 800, .inl (upd (upd (upd (upd f len ((((v.toUInt32 >>> ((nI 24).toUInt32 &&& Int32.toUInt32 31)).toInt32).toInt8.toInt32).toInt8.toInt32)) (len + 1) ((((v.toUInt32 >>> ((nI 16).toUInt32 &&& Int32.toUInt32 31)).toInt32).toInt8.toInt32).toInt8.toInt32)) ((len + 1) + 1) ((((v.toUInt32 >>> ((nI 8).toUInt32 &&& Int32.toUInt32 31)).toInt32).toInt8.toInt32).toInt8.toInt32)) (((len + 1) + 1) + 1) ((((v.toUInt32 >>> ((nI 0).toUInt32 &&& Int32.toUInt32 31)).toInt32).toInt8.toInt32).toInt8.toInt32)))) := gq
          have g1 := up_14.get g1 (by decide)
          have sm := sm.up up_14 (by simp)
          refine lv_aload_n hx hb dX7_putFour_30 rfl (lv_at hl 1 rfl) ?_
          refine lv_dup hx hb dX7_putFour_31 rfl ?_
          refine va_get (D := D) (ci := 8) (v := .int (nI (((len + 1) + 1) + 1))) (C := RX7) (T := TX7) (N := 7) hx hb hts hin_X7 hown hK hP 1 g1 rfl 3 (by decide) fl_22 (fun _ h9 => h9) rfl dX7_putFour_32 ?_
          refine lv_iconst (v := nI 1) hx hb dX7_putFour_35 (by decide) ?_
          refine nx_iadd hx hb dX7_putFour_36 ?_
          refine nx_put (D := D) (ci := 8) (v := .int (nI ((((len + 1) + 1) + 1) + 1))) (ty := .int) (C := RX7) (T := TX7) (N := 7) hx hb hts hin_X7 tyX7 tyX7_ok nmX7 hown hK hP hD hS 1 g1 rfl 3 (by decide) fl_22 (fun _ h9 => h9) rfl (by decide +kernel) rfl rfl (Nat.le_of_ble_eq_true rfl) dX7_putFour_37 (fun ws_15 H locs gq up_16 hP hD hS => ?_)
          have g1 : ws_15[1]? = some (a1, .inr (8, [.ref a2, .ref a3, .ref a4, .int (nI ((((len + 1) + 1) + 1) + 1)), .int (nI pl), .int (nI pcs), .int (nI gp)])) := gq
          have g2 := up_16.get g2 (by decide)
          have sm := sm.up up_16 (by simp)
          refine lv_iinc (v := (-8)) (lv' := [(2, .int (-8)), (0, .ref a1), (1, .int v)]) hx hb dX7_putFour_40 hl (k := 0) rfl (by decide) (by decide) rfl (fun ls hl => ?_)
          refine lv_goto (tgt := 3) hx hb dX7_putFour_43 (by decide) ?_
          refine lv_iload_n hx hb dX7_putFour_3 rfl (lv_at hl 0 rfl) ?_
          refine lv_if_lt (tgt := 46) hx hb dX7_putFour_4 (by decide) (fun c_4 => ?_) (fun c_4 => absurd (by decide) c_4)
          have g1 : ws_15[1]? = some (a1, .inr (8, [.ref a2, .ref a3, .ref a4, .int (nI (len + 4)), .int (nI pl), .int (nI pcs), .int (nI gp)])) := g1
          have g2 : ws_15[2]? = some (a2, .inl (cB, 800, .inl (put4 f len v))) := by simp only [i8_twice] at g2; exact g2
          exact CV.ret C hK hP hD hS (⟨sm, g1, g2⟩) hc0 hs0 dX7_putFour_46
set_option maxHeartbeats 4000000 in
set_option maxRecDepth 100000 in
theorem c_X7_putPlain {D : va_G} {cB cI cJ cO : ClassId} {l : Launch} {a1 a2 a3 a4 len pl pcs gp : Nat} {x : Int32} {f : Nat → Int32} {ws : va_W} (g1 : ws[1]? = some (a1, .inr (8, [.ref a2, .ref a3, .ref a4, .int (nI len), .int (nI pl), .int (nI pcs), .int (nI gp)]))) (g3 : ws[3]? = some (a3, .inl (cB, 800, .inl f))) (hpl : pl < 800) : CV D (TY cB cI cJ cO) l yX7_putPlain wsX7_putPlain ({ frames := 0, cells := 0, slots := 0, locals := 0 }) [.ref a1, .int x] ws (fun ws' => Sm (fun k => k = 1 ∨ k = 3) ws ws' ∧ ws'[1]? = some (a1, .inr (8, [.ref a2, .ref a3, .ref a4, .int (nI len), .int (nI (pl + 1)), .int (nI pcs), .int (nI gp)])) ∧ ws'[3]? = some (a3, .inl (cB, 800, .inl (upd f pl (x.toInt8.toInt32))))) := by
  refine CV.of (cc := cX7_putPlain) (maxL := 2) (ret := none) (by decide) rfl (Nat.le_of_ble_eq_true rfl) ?_
  intro p e s m below meth c A C hK hP hD hA hS ls hl
  obtain ⟨hx, hb, hr, hml, hts, hown, hlocks, hnm⟩ := id C
  have fl_15 := hts (.fieldLink RX7 15 "TwinFinder$Tape" "plain" "[B") (by decide +kernel)
  have fl_26 := hts (.fieldLink RX7 26 "TwinFinder$Tape" "plainLength" "I") (by decide +kernel)
  have hin_X7 : ∀ w ∈ u_ws RX7 TX7 7, w ∈ wsX7_putPlain := by decide +kernel
  have hl : lv_has ls 2 [(0, .ref a1), (1, .int x)] := hl
  have sm : Sm (fun k => k = 1 ∨ k = 3) ws ws := Sm.rf
  have hc0 : (0 : Nat) ≤ 0 := by decide
  have hs0 : (0 : Nat) ≤ 0 := by decide
  refine lv_aload_n hx hb dX7_putPlain_0 rfl (lv_at hl 0 rfl) ?_
  refine va_get (D := D) (ci := 8) (v := .int (nI pl)) (C := RX7) (T := TX7) (N := 7) hx hb hts hin_X7 hown hK hP 1 g1 rfl 4 (by decide) fl_26 (fun _ h9 => h9) rfl dX7_putPlain_1 ?_
  refine lv_sipush (v := nI 800) hx hb dX7_putPlain_4 (by decide) ?_
  refine nx_icmp_ge (tgt := 31) hx hb (by omega) (by omega) dX7_putPlain_7 (by decide) (fun c_7 => ?_) (fun c_7 => ?_)
  · omega
  · refine lv_aload_n hx hb dX7_putPlain_10 rfl (lv_at hl 0 rfl) ?_
    refine va_get (D := D) (ci := 8) (v := .ref a3) (C := RX7) (T := TX7) (N := 7) hx hb hts hin_X7 hown hK hP 1 g1 rfl 1 (by decide) fl_15 (fun _ h9 => h9) rfl dX7_putPlain_11 ?_
    refine lv_aload_n hx hb dX7_putPlain_14 rfl (lv_at hl 0 rfl) ?_
    refine va_get (D := D) (ci := 8) (v := .int (nI pl)) (C := RX7) (T := TX7) (N := 7) hx hb hts hin_X7 hown hK hP 1 g1 rfl 4 (by decide) fl_26 (fun _ h9 => h9) rfl dX7_putPlain_15 ?_
    refine lv_iload_n hx hb dX7_putPlain_18 rfl (lv_at hl 1 rfl) ?_
    refine lv_i2b hx hb dX7_putPlain_19 rfl ?_
    refine nx_bast hx hb hK hP hD hS 3 0 g3 rfl (k := pl) (by omega) (by decide) dX7_putPlain_20 (fun ws_1 H locs gq up_2 hP hD hS => ?_)
    have g3 : ws_1[3]? = some (a3, .inl (cB, 800, .inl (upd f pl ((x.toInt8.toInt32).toInt8.toInt32)))) := gq
    have g1 := up_2.get g1 (by decide)
    have sm := sm.up up_2 (by simp)
    refine lv_aload_n hx hb dX7_putPlain_21 rfl (lv_at hl 0 rfl) ?_
    refine lv_dup hx hb dX7_putPlain_22 rfl ?_
    refine va_get (D := D) (ci := 8) (v := .int (nI pl)) (C := RX7) (T := TX7) (N := 7) hx hb hts hin_X7 hown hK hP 1 g1 rfl 4 (by decide) fl_26 (fun _ h9 => h9) rfl dX7_putPlain_23 ?_
    refine lv_iconst (v := nI 1) hx hb dX7_putPlain_26 (by decide) ?_
    refine nx_iadd hx hb dX7_putPlain_27 ?_
    refine nx_put (D := D) (ci := 8) (v := .int (nI (pl + 1))) (ty := .int) (C := RX7) (T := TX7) (N := 7) hx hb hts hin_X7 tyX7 tyX7_ok nmX7 hown hK hP hD hS 1 g1 rfl 4 (by decide) fl_26 (fun _ h9 => h9) rfl (by decide +kernel) rfl rfl (Nat.le_of_ble_eq_true rfl) dX7_putPlain_28 (fun ws_3 H locs gq up_4 hP hD hS => ?_)
    have g1 : ws_3[1]? = some (a1, .inr (8, [.ref a2, .ref a3, .ref a4, .int (nI len), .int (nI (pl + 1)), .int (nI pcs), .int (nI gp)])) := gq
    have g3 := up_4.get g3 (by decide)
    have sm := sm.up up_4 (by simp)
    have g3 : ws_3[3]? = some (a3, .inl (cB, 800, .inl (upd f pl (x.toInt8.toInt32)))) := by simp only [i8_twice] at g3; exact g3
    exact CV.ret C hK hP hD hS (⟨sm, g1, g3⟩) hc0 hs0 dX7_putPlain_31
set_option maxHeartbeats 4000000 in
set_option maxRecDepth 100000 in
theorem c_X7_plainSign {D : va_G} {cB cI cJ cO : ClassId} {l : Launch} {x : Int32} {ws : va_W}   : CI D (TY cB cI cJ cO) l yX7_plainSign wsX7_plainSign ({ frames := 0, cells := 0, slots := 0, locals := 0 }) [.int x] ws (fun r ws' => r = plSign x ∧ ws = ws') := by
  refine CI.of (cc := cX7_plainSign) (maxL := 2) (ret := (some .int)) (by decide) rfl (Nat.le_of_ble_eq_true rfl) ?_
  intro p e s m below meth c A C hK hP hD hA hS ls hl
  obtain ⟨hx, hb, hr, hml, hts, hown, hlocks, hnm⟩ := id C
  have hl : lv_has ls 2 [(0, .int x)] := hl
  have sm : Sm (fun _ => False) ws ws := Sm.rf
  have hc0 : (0 : Nat) ≤ 0 := by decide
  have hs0 : (0 : Nat) ≤ 0 := by decide
  refine lv_iload_n hx hb dX7_plainSign_0 rfl (lv_at hl 0 rfl) ?_
  refine lv_bipush (v := nI 65) hx hb dX7_plainSign_1 (by decide) ?_
  refine lv_icmp_lt (tgt := 20) hx hb dX7_plainSign_3 (by decide) (fun c_3 => ?_) (fun c_3 => ?_)
  · refine lv_iload_n hx hb dX7_plainSign_20 rfl (lv_at hl 0 rfl) ?_
    refine lv_bipush (v := nI 97) hx hb dX7_plainSign_21 (by decide) ?_
    refine lv_icmp_lt (tgt := 32) hx hb dX7_plainSign_23 (by decide) (fun c_23 => ?_) (fun c_23 => ?_)
    · refine lv_iload_n hx hb dX7_plainSign_32 rfl (lv_at hl 0 rfl) ?_
      refine lv_bipush (v := nI 48) hx hb dX7_plainSign_33 (by decide) ?_
      refine lv_icmp_lt (tgt := 48) hx hb dX7_plainSign_35 (by decide) (fun c_35 => ?_) (fun c_35 => ?_)
      · refine lv_iconst (v := nI 0) hx hb dX7_plainSign_48 (by decide) ?_
        refine lv_istore_n (lv' := [(1, .int (nI 0)), (0, .int x)]) hx hb dX7_plainSign_49 rfl hl (by decide) rfl (fun ls hl => ?_)
        refine lv_iload_n hx hb dX7_plainSign_50 rfl (lv_at hl 0 rfl) ?_
        refine lv_if_eq (tgt := 58) hx hb dX7_plainSign_51 (by decide) (fun c_51 => ?_) (fun c_51 => absurd (by decide) c_51)
        refine lv_bipush (v := nI 32) hx hb dX7_plainSign_58 (by decide) ?_
        exact CI.ret (v := (nI 32)) C hK hP hD hS rfl (⟨(by simp [nI, Int32.lt_iff_toInt_lt, Int32.le_iff_toInt_le] at c_3 c_23 c_35; simp only [plSign]; split <;> (try split) <;> (first | rfl | omega)), rfl⟩) hc0 hs0 dX7_plainSign_60
      · refine lv_iload_n hx hb dX7_plainSign_38 rfl (lv_at hl 0 rfl) ?_
        refine lv_bipush (v := nI 57) hx hb dX7_plainSign_39 (by decide) ?_
        refine lv_icmp_gt (tgt := 48) hx hb dX7_plainSign_41 (by decide) (fun c_41 => ?_) (fun c_41 => ?_)
        · refine lv_iconst (v := nI 0) hx hb dX7_plainSign_48 (by decide) ?_
          refine lv_istore_n (lv' := [(1, .int (nI 0)), (0, .int x)]) hx hb dX7_plainSign_49 rfl hl (by decide) rfl (fun ls hl => ?_)
          refine lv_iload_n hx hb dX7_plainSign_50 rfl (lv_at hl 0 rfl) ?_
          refine lv_if_eq (tgt := 58) hx hb dX7_plainSign_51 (by decide) (fun c_51 => ?_) (fun c_51 => absurd (by decide) c_51)
          refine lv_bipush (v := nI 32) hx hb dX7_plainSign_58 (by decide) ?_
          exact CI.ret (v := (nI 32)) C hK hP hD hS rfl (⟨(by simp [nI, Int32.lt_iff_toInt_lt, Int32.le_iff_toInt_le] at c_3 c_23 c_35 c_41; simp only [plSign]; split <;> (try split) <;> (first | rfl | omega)), rfl⟩) hc0 hs0 dX7_plainSign_60
        · refine lv_iconst (v := nI 1) hx hb dX7_plainSign_44 (by decide) ?_
          refine lv_goto (tgt := 49) hx hb dX7_plainSign_45 (by decide) ?_
          refine lv_istore_n (lv' := [(1, .int (nI 1)), (0, .int x)]) hx hb dX7_plainSign_49 rfl hl (by decide) rfl (fun ls hl => ?_)
          refine lv_iload_n hx hb dX7_plainSign_50 rfl (lv_at hl 0 rfl) ?_
          refine lv_if_eq (tgt := 58) hx hb dX7_plainSign_51 (by decide) (fun c_51 => absurd c_51 (by decide)) (fun c_51 => ?_)
          refine lv_iload_n hx hb dX7_plainSign_54 rfl (lv_at hl 1 rfl) ?_
          refine lv_goto (tgt := 60) hx hb dX7_plainSign_55 (by decide) ?_
          exact CI.ret (v := x) C hK hP hD hS rfl (⟨(by simp [nI, Int32.lt_iff_toInt_lt, Int32.le_iff_toInt_le] at c_3 c_23 c_35 c_41; simp only [plSign]; split <;> (try split) <;> (first | rfl | omega)), rfl⟩) hc0 hs0 dX7_plainSign_60
    · refine lv_iload_n hx hb dX7_plainSign_26 rfl (lv_at hl 0 rfl) ?_
      refine lv_bipush (v := nI 122) hx hb dX7_plainSign_27 (by decide) ?_
      refine lv_icmp_le (tgt := 44) hx hb dX7_plainSign_29 (by decide) (fun c_29 => ?_) (fun c_29 => ?_)
      · refine lv_iconst (v := nI 1) hx hb dX7_plainSign_44 (by decide) ?_
        refine lv_goto (tgt := 49) hx hb dX7_plainSign_45 (by decide) ?_
        refine lv_istore_n (lv' := [(1, .int (nI 1)), (0, .int x)]) hx hb dX7_plainSign_49 rfl hl (by decide) rfl (fun ls hl => ?_)
        refine lv_iload_n hx hb dX7_plainSign_50 rfl (lv_at hl 0 rfl) ?_
        refine lv_if_eq (tgt := 58) hx hb dX7_plainSign_51 (by decide) (fun c_51 => absurd c_51 (by decide)) (fun c_51 => ?_)
        refine lv_iload_n hx hb dX7_plainSign_54 rfl (lv_at hl 1 rfl) ?_
        refine lv_goto (tgt := 60) hx hb dX7_plainSign_55 (by decide) ?_
        exact CI.ret (v := x) C hK hP hD hS rfl (⟨(by simp [nI, Int32.lt_iff_toInt_lt, Int32.le_iff_toInt_le] at c_3 c_23 c_29; simp only [plSign]; split <;> (try split) <;> (first | rfl | omega)), rfl⟩) hc0 hs0 dX7_plainSign_60
      · refine lv_iload_n hx hb dX7_plainSign_32 rfl (lv_at hl 0 rfl) ?_
        refine lv_bipush (v := nI 48) hx hb dX7_plainSign_33 (by decide) ?_
        refine lv_icmp_lt (tgt := 48) hx hb dX7_plainSign_35 (by decide) (fun c_35 => ?_) (fun c_35 => ?_)
        · refine lv_iconst (v := nI 0) hx hb dX7_plainSign_48 (by decide) ?_
          refine lv_istore_n (lv' := [(1, .int (nI 0)), (0, .int x)]) hx hb dX7_plainSign_49 rfl hl (by decide) rfl (fun ls hl => ?_)
          refine lv_iload_n hx hb dX7_plainSign_50 rfl (lv_at hl 0 rfl) ?_
          refine lv_if_eq (tgt := 58) hx hb dX7_plainSign_51 (by decide) (fun c_51 => ?_) (fun c_51 => absurd (by decide) c_51)
          refine lv_bipush (v := nI 32) hx hb dX7_plainSign_58 (by decide) ?_
          exact CI.ret (v := (nI 32)) C hK hP hD hS rfl (⟨(by simp [nI, Int32.lt_iff_toInt_lt, Int32.le_iff_toInt_le] at c_3 c_23 c_29 c_35; simp only [plSign]; split <;> (try split) <;> (first | rfl | omega)), rfl⟩) hc0 hs0 dX7_plainSign_60
        · refine lv_iload_n hx hb dX7_plainSign_38 rfl (lv_at hl 0 rfl) ?_
          refine lv_bipush (v := nI 57) hx hb dX7_plainSign_39 (by decide) ?_
          refine lv_icmp_gt (tgt := 48) hx hb dX7_plainSign_41 (by decide) (fun c_41 => ?_) (fun c_41 => ?_)
          · refine lv_iconst (v := nI 0) hx hb dX7_plainSign_48 (by decide) ?_
            refine lv_istore_n (lv' := [(1, .int (nI 0)), (0, .int x)]) hx hb dX7_plainSign_49 rfl hl (by decide) rfl (fun ls hl => ?_)
            refine lv_iload_n hx hb dX7_plainSign_50 rfl (lv_at hl 0 rfl) ?_
            refine lv_if_eq (tgt := 58) hx hb dX7_plainSign_51 (by decide) (fun c_51 => ?_) (fun c_51 => absurd (by decide) c_51)
            refine lv_bipush (v := nI 32) hx hb dX7_plainSign_58 (by decide) ?_
            exact CI.ret (v := (nI 32)) C hK hP hD hS rfl (⟨(by simp [nI, Int32.lt_iff_toInt_lt, Int32.le_iff_toInt_le] at c_3 c_23 c_29 c_35 c_41; simp only [plSign]; split <;> (try split) <;> (first | rfl | omega)), rfl⟩) hc0 hs0 dX7_plainSign_60
          · refine lv_iconst (v := nI 1) hx hb dX7_plainSign_44 (by decide) ?_
            refine lv_goto (tgt := 49) hx hb dX7_plainSign_45 (by decide) ?_
            refine lv_istore_n (lv' := [(1, .int (nI 1)), (0, .int x)]) hx hb dX7_plainSign_49 rfl hl (by decide) rfl (fun ls hl => ?_)
            refine lv_iload_n hx hb dX7_plainSign_50 rfl (lv_at hl 0 rfl) ?_
            refine lv_if_eq (tgt := 58) hx hb dX7_plainSign_51 (by decide) (fun c_51 => absurd c_51 (by decide)) (fun c_51 => ?_)
            refine lv_iload_n hx hb dX7_plainSign_54 rfl (lv_at hl 1 rfl) ?_
            refine lv_goto (tgt := 60) hx hb dX7_plainSign_55 (by decide) ?_
            exact CI.ret (v := x) C hK hP hD hS rfl (⟨(by simp [nI, Int32.lt_iff_toInt_lt, Int32.le_iff_toInt_le] at c_3 c_23 c_29 c_35 c_41; simp only [plSign]; split <;> (try split) <;> (first | rfl | omega)), rfl⟩) hc0 hs0 dX7_plainSign_60
  · refine lv_iload_n hx hb dX7_plainSign_6 rfl (lv_at hl 0 rfl) ?_
    refine lv_bipush (v := nI 90) hx hb dX7_plainSign_7 (by decide) ?_
    refine lv_icmp_gt (tgt := 20) hx hb dX7_plainSign_9 (by decide) (fun c_9 => ?_) (fun c_9 => ?_)
    · refine lv_iload_n hx hb dX7_plainSign_20 rfl (lv_at hl 0 rfl) ?_
      refine lv_bipush (v := nI 97) hx hb dX7_plainSign_21 (by decide) ?_
      refine lv_icmp_lt (tgt := 32) hx hb dX7_plainSign_23 (by decide) (fun c_23 => ?_) (fun c_23 => ?_)
      · refine lv_iload_n hx hb dX7_plainSign_32 rfl (lv_at hl 0 rfl) ?_
        refine lv_bipush (v := nI 48) hx hb dX7_plainSign_33 (by decide) ?_
        refine lv_icmp_lt (tgt := 48) hx hb dX7_plainSign_35 (by decide) (fun c_35 => ?_) (fun c_35 => ?_)
        · refine lv_iconst (v := nI 0) hx hb dX7_plainSign_48 (by decide) ?_
          refine lv_istore_n (lv' := [(1, .int (nI 0)), (0, .int x)]) hx hb dX7_plainSign_49 rfl hl (by decide) rfl (fun ls hl => ?_)
          refine lv_iload_n hx hb dX7_plainSign_50 rfl (lv_at hl 0 rfl) ?_
          refine lv_if_eq (tgt := 58) hx hb dX7_plainSign_51 (by decide) (fun c_51 => ?_) (fun c_51 => absurd (by decide) c_51)
          refine lv_bipush (v := nI 32) hx hb dX7_plainSign_58 (by decide) ?_
          exact CI.ret (v := (nI 32)) C hK hP hD hS rfl (⟨(by simp [nI, Int32.lt_iff_toInt_lt, Int32.le_iff_toInt_le] at c_3 c_9 c_23 c_35; simp only [plSign]; split <;> (try split) <;> (first | rfl | omega)), rfl⟩) hc0 hs0 dX7_plainSign_60
        · refine lv_iload_n hx hb dX7_plainSign_38 rfl (lv_at hl 0 rfl) ?_
          refine lv_bipush (v := nI 57) hx hb dX7_plainSign_39 (by decide) ?_
          refine lv_icmp_gt (tgt := 48) hx hb dX7_plainSign_41 (by decide) (fun c_41 => ?_) (fun c_41 => ?_)
          · refine lv_iconst (v := nI 0) hx hb dX7_plainSign_48 (by decide) ?_
            refine lv_istore_n (lv' := [(1, .int (nI 0)), (0, .int x)]) hx hb dX7_plainSign_49 rfl hl (by decide) rfl (fun ls hl => ?_)
            refine lv_iload_n hx hb dX7_plainSign_50 rfl (lv_at hl 0 rfl) ?_
            refine lv_if_eq (tgt := 58) hx hb dX7_plainSign_51 (by decide) (fun c_51 => ?_) (fun c_51 => absurd (by decide) c_51)
            refine lv_bipush (v := nI 32) hx hb dX7_plainSign_58 (by decide) ?_
            exact CI.ret (v := (nI 32)) C hK hP hD hS rfl (⟨(by simp [nI, Int32.lt_iff_toInt_lt, Int32.le_iff_toInt_le] at c_3 c_9 c_23 c_35 c_41; simp only [plSign]; split <;> (try split) <;> (first | rfl | omega)), rfl⟩) hc0 hs0 dX7_plainSign_60
          · refine lv_iconst (v := nI 1) hx hb dX7_plainSign_44 (by decide) ?_
            refine lv_goto (tgt := 49) hx hb dX7_plainSign_45 (by decide) ?_
            refine lv_istore_n (lv' := [(1, .int (nI 1)), (0, .int x)]) hx hb dX7_plainSign_49 rfl hl (by decide) rfl (fun ls hl => ?_)
            refine lv_iload_n hx hb dX7_plainSign_50 rfl (lv_at hl 0 rfl) ?_
            refine lv_if_eq (tgt := 58) hx hb dX7_plainSign_51 (by decide) (fun c_51 => absurd c_51 (by decide)) (fun c_51 => ?_)
            refine lv_iload_n hx hb dX7_plainSign_54 rfl (lv_at hl 1 rfl) ?_
            refine lv_goto (tgt := 60) hx hb dX7_plainSign_55 (by decide) ?_
            exact CI.ret (v := x) C hK hP hD hS rfl (⟨(by simp [nI, Int32.lt_iff_toInt_lt, Int32.le_iff_toInt_le] at c_3 c_9 c_23 c_35 c_41; simp only [plSign]; split <;> (try split) <;> (first | rfl | omega)), rfl⟩) hc0 hs0 dX7_plainSign_60
      · refine lv_iload_n hx hb dX7_plainSign_26 rfl (lv_at hl 0 rfl) ?_
        refine lv_bipush (v := nI 122) hx hb dX7_plainSign_27 (by decide) ?_
        refine lv_icmp_le (tgt := 44) hx hb dX7_plainSign_29 (by decide) (fun c_29 => ?_) (fun c_29 => ?_)
        · refine lv_iconst (v := nI 1) hx hb dX7_plainSign_44 (by decide) ?_
          refine lv_goto (tgt := 49) hx hb dX7_plainSign_45 (by decide) ?_
          refine lv_istore_n (lv' := [(1, .int (nI 1)), (0, .int x)]) hx hb dX7_plainSign_49 rfl hl (by decide) rfl (fun ls hl => ?_)
          refine lv_iload_n hx hb dX7_plainSign_50 rfl (lv_at hl 0 rfl) ?_
          refine lv_if_eq (tgt := 58) hx hb dX7_plainSign_51 (by decide) (fun c_51 => absurd c_51 (by decide)) (fun c_51 => ?_)
          refine lv_iload_n hx hb dX7_plainSign_54 rfl (lv_at hl 1 rfl) ?_
          refine lv_goto (tgt := 60) hx hb dX7_plainSign_55 (by decide) ?_
          exact CI.ret (v := x) C hK hP hD hS rfl (⟨(by simp [nI, Int32.lt_iff_toInt_lt, Int32.le_iff_toInt_le] at c_3 c_9 c_23 c_29; simp only [plSign]; split <;> (try split) <;> (first | rfl | omega)), rfl⟩) hc0 hs0 dX7_plainSign_60
        · refine lv_iload_n hx hb dX7_plainSign_32 rfl (lv_at hl 0 rfl) ?_
          refine lv_bipush (v := nI 48) hx hb dX7_plainSign_33 (by decide) ?_
          refine lv_icmp_lt (tgt := 48) hx hb dX7_plainSign_35 (by decide) (fun c_35 => ?_) (fun c_35 => ?_)
          · refine lv_iconst (v := nI 0) hx hb dX7_plainSign_48 (by decide) ?_
            refine lv_istore_n (lv' := [(1, .int (nI 0)), (0, .int x)]) hx hb dX7_plainSign_49 rfl hl (by decide) rfl (fun ls hl => ?_)
            refine lv_iload_n hx hb dX7_plainSign_50 rfl (lv_at hl 0 rfl) ?_
            refine lv_if_eq (tgt := 58) hx hb dX7_plainSign_51 (by decide) (fun c_51 => ?_) (fun c_51 => absurd (by decide) c_51)
            refine lv_bipush (v := nI 32) hx hb dX7_plainSign_58 (by decide) ?_
            exact CI.ret (v := (nI 32)) C hK hP hD hS rfl (⟨(by simp [nI, Int32.lt_iff_toInt_lt, Int32.le_iff_toInt_le] at c_3 c_9 c_23 c_29 c_35; simp only [plSign]; split <;> (try split) <;> (first | rfl | omega)), rfl⟩) hc0 hs0 dX7_plainSign_60
          · refine lv_iload_n hx hb dX7_plainSign_38 rfl (lv_at hl 0 rfl) ?_
            refine lv_bipush (v := nI 57) hx hb dX7_plainSign_39 (by decide) ?_
            refine lv_icmp_gt (tgt := 48) hx hb dX7_plainSign_41 (by decide) (fun c_41 => ?_) (fun c_41 => ?_)
            · refine lv_iconst (v := nI 0) hx hb dX7_plainSign_48 (by decide) ?_
              refine lv_istore_n (lv' := [(1, .int (nI 0)), (0, .int x)]) hx hb dX7_plainSign_49 rfl hl (by decide) rfl (fun ls hl => ?_)
              refine lv_iload_n hx hb dX7_plainSign_50 rfl (lv_at hl 0 rfl) ?_
              refine lv_if_eq (tgt := 58) hx hb dX7_plainSign_51 (by decide) (fun c_51 => ?_) (fun c_51 => absurd (by decide) c_51)
              refine lv_bipush (v := nI 32) hx hb dX7_plainSign_58 (by decide) ?_
              exact CI.ret (v := (nI 32)) C hK hP hD hS rfl (⟨(by simp [nI, Int32.lt_iff_toInt_lt, Int32.le_iff_toInt_le] at c_3 c_9 c_23 c_29 c_35 c_41; simp only [plSign]; split <;> (try split) <;> (first | rfl | omega)), rfl⟩) hc0 hs0 dX7_plainSign_60
            · refine lv_iconst (v := nI 1) hx hb dX7_plainSign_44 (by decide) ?_
              refine lv_goto (tgt := 49) hx hb dX7_plainSign_45 (by decide) ?_
              refine lv_istore_n (lv' := [(1, .int (nI 1)), (0, .int x)]) hx hb dX7_plainSign_49 rfl hl (by decide) rfl (fun ls hl => ?_)
              refine lv_iload_n hx hb dX7_plainSign_50 rfl (lv_at hl 0 rfl) ?_
              refine lv_if_eq (tgt := 58) hx hb dX7_plainSign_51 (by decide) (fun c_51 => absurd c_51 (by decide)) (fun c_51 => ?_)
              refine lv_iload_n hx hb dX7_plainSign_54 rfl (lv_at hl 1 rfl) ?_
              refine lv_goto (tgt := 60) hx hb dX7_plainSign_55 (by decide) ?_
              exact CI.ret (v := x) C hK hP hD hS rfl (⟨(by simp [nI, Int32.lt_iff_toInt_lt, Int32.le_iff_toInt_le] at c_3 c_9 c_23 c_29 c_35 c_41; simp only [plSign]; split <;> (try split) <;> (first | rfl | omega)), rfl⟩) hc0 hs0 dX7_plainSign_60
    · refine lv_iload_n hx hb dX7_plainSign_12 rfl (lv_at hl 0 rfl) ?_
      refine lv_bipush (v := nI 65) hx hb dX7_plainSign_13 (by decide) ?_
      refine lv_isub hx hb dX7_plainSign_15 ?_
      refine lv_bipush (v := nI 97) hx hb dX7_plainSign_16 (by decide) ?_
      refine lv_iadd hx hb dX7_plainSign_18 ?_
      exact CI.ret (v := ((x - (nI 65)) + (nI 97))) C hK hP hD hS rfl (⟨(by simp [nI, Int32.lt_iff_toInt_lt, Int32.le_iff_toInt_le] at c_3 c_9; simp only [plSign]; split <;> (try split) <;> (first | rfl | omega)), rfl⟩) hc0 hs0 dX7_plainSign_19
set_option maxHeartbeats 4000000 in
set_option maxRecDepth 100000 in
theorem c_X7_makePlain {D : va_G} {cB cI cJ cO : ClassId} {l : Launch} {a1 a2 a3 a4 len pl pcs gp : Nat} {f fp : Nat → Int32} {T : List Int32} {ws : va_W} (g1 : ws[1]? = some (a1, .inr (8, [.ref a2, .ref a3, .ref a4, .int (nI len), .int (nI pl), .int (nI pcs), .int (nI gp)]))) (g2 : ws[2]? = some (a2, .inl (cB, 800, .inl f))) (g3 : ws[3]? = some (a3, .inl (cB, 800, .inl fp))) (hT : Hd f T) (hlen : T.length = len) (h800 : len ≤ 800) : CI D (TY cB cI cJ cO) l yX7_makePlain wsX7_makePlain ({ frames := 1, cells := 0, slots := 0, locals := 21 }) [.ref a1] ws (fun r ws' => ∃ fq : Nat → Int32, r = nI ((plainOf T).length) ∧ Hd fq (plainOf T) ∧ Sm (fun k => k = 1 ∨ k = 3) ws ws' ∧ ws'[1]? = some (a1, .inr (8, [.ref a2, .ref a3, .ref a4, .int (nI len), .int (nI ((plainOf T).length)), .int (nI pcs), .int (nI gp)])) ∧ ws'[3]? = some (a3, .inl (cB, 800, .inl fq))) := by
  refine CI.of (cc := cX7_makePlain) (maxL := 4) (ret := (some .int)) (by decide) rfl (Nat.le_of_ble_eq_true rfl) ?_
  intro p e s m below meth c A C hK hP hD hA hS ls hl
  obtain ⟨hx, hb, hr, hml, hts, hown, hlocks, hnm⟩ := id C
  have fl_9 := hts (.fieldLink RX7 9 "TwinFinder$Tape" "bytes" "[B") (by decide +kernel)
  have fl_22 := hts (.fieldLink RX7 22 "TwinFinder$Tape" "length" "I") (by decide +kernel)
  have fl_26 := hts (.fieldLink RX7 26 "TwinFinder$Tape" "plainLength" "I") (by decide +kernel)
  have hin_X7 : ∀ w ∈ u_ws RX7 TX7 7, w ∈ wsX7_makePlain := by decide +kernel
  have hl : lv_has ls 4 [(0, .ref a1)] := hl
  have sm : Sm (fun k => k = 1 ∨ k = 3) ws ws := Sm.rf
  have hc0 : (0 : Nat) ≤ 0 := by decide
  have hs0 : (0 : Nat) ≤ 0 := by decide
  refine lv_aload_n hx hb dX7_makePlain_0 rfl (lv_at hl 0 rfl) ?_
  refine lv_iconst (v := nI 0) hx hb dX7_makePlain_1 (by decide) ?_
  refine nx_put (D := D) (ci := 8) (v := .int (nI 0)) (ty := .int) (C := RX7) (T := TX7) (N := 7) hx hb hts hin_X7 tyX7 tyX7_ok nmX7 hown hK hP hD hS 1 g1 rfl 4 (by decide) fl_26 (fun _ h9 => h9) rfl (by decide +kernel) rfl rfl (Nat.le_of_ble_eq_true rfl) dX7_makePlain_2 (fun ws_1 H locs gq up_2 hP hD hS => ?_)
  have g1 : ws_1[1]? = some (a1, .inr (8, [.ref a2, .ref a3, .ref a4, .int (nI len), .int (nI 0), .int (nI pcs), .int (nI gp)])) := gq
  have g2 := up_2.get g2 (by decide)
  have g3 := up_2.get g3 (by decide)
  have sm := sm.up up_2 (by simp)
  refine lv_iconst (v := nI 0) hx hb dX7_makePlain_5 (by decide) ?_
  refine lv_istore_n (lv' := [(1, .int (nI 0)), (0, .ref a1)]) hx hb dX7_makePlain_6 rfl hl (by decide) rfl (fun ls hl => ?_)
  refine lv_iconst (v := nI 0) hx hb dX7_makePlain_7 (by decide) ?_
  refine lv_istore_n (lv' := [(2, .int (nI 0)), (1, .int (nI 0)), (0, .ref a1)]) hx hb dX7_makePlain_8 rfl hl (by decide) rfl (fun ls hl => ?_)
  have lp_9 : ∀ (fuel : Nat) (i : Nat) (o : List Int32) (d : Bool) (fo : Nat → Int32), len - i < fuel → (i ≤ len) → ((T.take i).foldl pst ([], false) = (o, d)) → (o.length + (d && !o.isEmpty).toNat ≤ i) → (Hd fo o) → ∀ (ws1 : va_W) (H : Heap) (locs : List Loc) (ls : Array Slot), Sm (fun k => k = 1 ∨ k = 3) ws ws1 → ws1[1]? = some (a1, .inr (8, [.ref a2, .ref a3, .ref a4, .int (nI len), .int (nI (o.length)), .int (nI pcs), .int (nI gp)])) → ws1[2]? = some (a2, .inl (cB, 800, .inl f)) → ws1[3]? = some (a3, .inl (cB, 800, .inl fo)) → va_P D vwCl ws1 H → va_D A ws1 → va_S A s.heap H locs → lv_has ls 4 [(0, .ref a1), (1, .int (nI ((d && !o.isEmpty).toNat))), (2, .int (nI i))] → W p l e ({ frames := 1, cells := 0, slots := 0, locals := 21 }) s m ([.ref a1] : List Value).toArray below meth c H locs 0 0 (ZI D (TY cB cI cJ cO) (fun r ws' => ∃ fq : Nat → Int32, r = nI ((plainOf T).length) ∧ Hd fq (plainOf T) ∧ Sm (fun k => k = 1 ∨ k = 3) ws ws' ∧ ws'[1]? = some (a1, .inr (8, [.ref a2, .ref a3, .ref a4, .int (nI len), .int (nI ((plainOf T).length)), .int (nI pcs), .int (nI gp)])) ∧ ws'[3]? = some (a3, .inl (cB, 800, .inl fq))) below [.ref a1] s 0 0 A) (F0 m 9 ls []) := by
    intro fuel
    induction fuel with
    | zero => intro i o d fo hfu; exact absurd hfu (Nat.not_lt_zero _)
    | succ fuel ih_9 =>
      intro i o d fo hfu_9 hi hod hol hfo ws1 H locs ls sm g1 g2 g3 hP hD hS hl
      refine lv_iload_n hx hb dX7_makePlain_9 rfl (lv_at hl 2 rfl) ?_
      refine lv_aload_n hx hb dX7_makePlain_10 rfl (lv_at hl 0 rfl) ?_
      refine va_get (D := D) (ci := 8) (v := .int (nI len)) (C := RX7) (T := TX7) (N := 7) hx hb hts hin_X7 hown hK hP 1 g1 rfl 3 (by decide) fl_22 (fun _ h9 => h9) rfl dX7_makePlain_11 ?_
      refine nx_icmp_ge (tgt := 72) hx hb (by omega) (by omega) dX7_makePlain_14 (by decide) (fun c_14 => ?_) (fun c_14 => ?_)
      · refine lv_aload_n hx hb dX7_makePlain_72 rfl (lv_at hl 0 rfl) ?_
        refine va_get (D := D) (ci := 8) (v := .int (nI (o.length))) (C := RX7) (T := TX7) (N := 7) hx hb hts hin_X7 hown hK hP 1 g1 rfl 4 (by decide) fl_26 (fun _ h9 => h9) rfl dX7_makePlain_73 ?_
        have g1 : ws1[1]? = some (a1, .inr (8, [.ref a2, .ref a3, .ref a4, .int (nI len), .int (nI ((plainOf T).length)), .int (nI pcs), .int (nI gp)])) := by rw [plainOf_of hod (by omega)]; exact g1
        exact CI.ret (v := (nI o.length)) C hK hP hD hS rfl (⟨fo, (by rw [plainOf_of hod (by omega)]), (by rw [plainOf_of hod (by omega)]; exact hfo), sm, g1, g3⟩) hc0 hs0 dX7_makePlain_76
      · refine lv_aload_n hx hb dX7_makePlain_17 rfl (lv_at hl 0 rfl) ?_
        refine va_get (D := D) (ci := 8) (v := .ref a2) (C := RX7) (T := TX7) (N := 7) hx hb hts hin_X7 hown hK hP 1 g1 rfl 0 (by decide) fl_9 (fun _ h9 => h9) rfl dX7_makePlain_18 ?_
        refine lv_iload_n hx hb dX7_makePlain_21 rfl (lv_at hl 2 rfl) ?_
        refine nx_bald hx hb hK hP 2 0 g2 rfl (k := i) (by omega) (by decide) dX7_makePlain_22 ?_
        refine CI.go (va_runS (As := [.int (f i)]) (rest := []) ⟨hx, hb, hml, hown, hts⟩ (c_X7_plainSign    _) (va_cwS 1 hts gX7_makePlain_X7_plainSign rfl rfl rfl (by decide +kernel) ⟨Nat.le_of_ble_eq_true rfl, Nat.le_of_ble_eq_true rfl⟩) ⟨pw_blind, fun U hU hW => pw_pre hK hP hD hU hW⟩ rfl rfl hl.1 rfl (lv_room (Nat.le_of_ble_eq_true rfl)) dX7_makePlain_23 ⟨by decide, by decide⟩) hD hS hA (fun r_3 ws_4 H locs hp hP hD hS => ?_)
        obtain ⟨rfl, rfl⟩ := hp
        refine lv_istore_n (lv' := [(3, .int (plSign (f i))), (0, .ref a1), (1, .int (nI ((d && !o.isEmpty).toNat))), (2, .int (nI i))]) hx hb dX7_makePlain_26 rfl hl (by decide) rfl (fun ls hl => ?_)
        refine lv_iload_n hx hb dX7_makePlain_27 rfl (lv_at hl 0 rfl) ?_
        refine lv_bipush (v := nI 32) hx hb dX7_makePlain_28 (by decide) ?_
        refine lv_icmp_ne (tgt := 49) hx hb dX7_makePlain_30 (by decide) (fun c_30 => ?_) (fun c_30 => ?_)
        · have c_30 : ¬ plSign (f i) = 32 := c_30
          refine lv_iload_n hx hb dX7_makePlain_49 rfl (lv_at hl 2 rfl) ?_
          refine nx_if_eq (tgt := 59) hx hb (by cases (d && !o.isEmpty) <;> decide) dX7_makePlain_50 (by decide) (fun c_50 => ?_) (fun c_50 => ?_)
          · refine lv_iconst (v := nI 0) hx hb dX7_makePlain_59 (by decide) ?_
            refine lv_istore_n (lv' := [(1, .int (nI 0)), (3, .int (plSign (f i))), (0, .ref a1), (2, .int (nI i))]) hx hb dX7_makePlain_60 rfl hl (by decide) rfl (fun ls hl => ?_)
            refine lv_aload_n hx hb dX7_makePlain_61 rfl (lv_at hl 2 rfl) ?_
            refine lv_iload_n hx hb dX7_makePlain_62 rfl (lv_at hl 1 rfl) ?_
            refine CV.go (va_runV (As := [.int (plSign (f i))]) (rest := []) ⟨hx, hb, hml, hown, hts⟩ (c_X7_putPlain  g1 g3 (by omega) _) (cwV 1 hts gX7_makePlain_X7_putPlain rfl rfl rfl (by decide +kernel) ⟨Nat.le_of_ble_eq_true rfl, Nat.le_of_ble_eq_true rfl⟩) ⟨pw_blind, va_recv hK hP (ci := 8) (q0 := 1) rfl g1, fun U hU hW => pw_pre hK hP hD hU hW⟩ rfl rfl hl.1 rfl (lv_room (Nat.le_of_ble_eq_true rfl)) dX7_makePlain_63 ⟨by decide, by decide⟩) hD hS hA (fun ws_6 H locs hp hP hD hS => ?_)
            obtain ⟨sm_7, g1, g3⟩ := hp
            have g2 := sm_7.get g2 (by simp)
            have sm := sm.call sm_7 (by intro k hk; (try simp only at hk ⊢); omega)
            have g1 : ws_6[1]? = some (a1, .inr (8, [.ref a2, .ref a3, .ref a4, .int (nI len), .int (nI ((o.length) + 1)), .int (nI pcs), .int (nI gp)])) := g1
            have g3 : ws_6[3]? = some (a3, .inl (cB, 800, .inl (upd fo (o.length) ((plSign (f i)).toInt8.toInt32)))) := g3
            refine lv_iinc (v := (nI (i + 1))) (lv' := [(2, .int (nI (i + 1))), (1, .int (nI 0)), (3, .int (plSign (f i))), (0, .ref a1)]) hx hb dX7_makePlain_66 hl (k := 3) rfl (nx_inc _ 1) (by decide) rfl (fun ls hl => ?_)
            refine lv_goto (tgt := 9) hx hb dX7_makePlain_69 (by decide) ?_
            have hod2 := pst_take (by omega) hod
            rw [← hT.at (by omega), show pst (o, d) (f i) = (o ++ [plSign (f i)], false) from by rw [pst, if_neg c_30, if_neg (by simp; intro h1; simp [h1] at c_50; exact c_50)]] at hod2
            have g1 : ws_6[1]? = some (a1, .inr (8, [.ref a2, .ref a3, .ref a4, .int (nI len), .int (nI ((o ++ [plSign (f i)]).length)), .int (nI pcs), .int (nI gp)])) := by rw [List.length_append]; exact g1
            have g3 : ws_6[3]? = some (a3, .inl (cB, 800, .inl (upd fo o.length (plSign (f i))))) := by rw [plS_byte] at g3; exact g3
            exact ih_9 (i + 1) (o ++ [plSign (f i)]) false _ (by omega) (by omega) hod2 (by simp; omega) hfo.upd _ _ _ _ sm g1 g2 g3 hP hD hS (lv_sub hl [3, 1, 0] rfl)
          · refine lv_aload_n hx hb dX7_makePlain_53 rfl (lv_at hl 1 rfl) ?_
            refine lv_bipush (v := nI 32) hx hb dX7_makePlain_54 (by decide) ?_
            refine CV.go (va_runV (As := [.int (nI 32)]) (rest := []) ⟨hx, hb, hml, hown, hts⟩ (c_X7_putPlain  g1 g3 (by omega) _) (cwV 1 hts gX7_makePlain_X7_putPlain rfl rfl rfl (by decide +kernel) ⟨Nat.le_of_ble_eq_true rfl, Nat.le_of_ble_eq_true rfl⟩) ⟨pw_blind, va_recv hK hP (ci := 8) (q0 := 1) rfl g1, fun U hU hW => pw_pre hK hP hD hU hW⟩ rfl rfl hl.1 rfl (lv_room (Nat.le_of_ble_eq_true rfl)) dX7_makePlain_56 ⟨by decide, by decide⟩) hD hS hA (fun ws_9 H locs hp hP hD hS => ?_)
            obtain ⟨sm_10, g1, g3⟩ := hp
            have g2 := sm_10.get g2 (by simp)
            have sm := sm.call sm_10 (by intro k hk; (try simp only at hk ⊢); omega)
            have g1 : ws_9[1]? = some (a1, .inr (8, [.ref a2, .ref a3, .ref a4, .int (nI len), .int (nI ((o.length) + 1)), .int (nI pcs), .int (nI gp)])) := g1
            have g3 : ws_9[3]? = some (a3, .inl (cB, 800, .inl (upd fo (o.length) ((nI 32).toInt8.toInt32)))) := g3
            refine lv_iconst (v := nI 0) hx hb dX7_makePlain_59 (by decide) ?_
            refine lv_istore_n (lv' := [(1, .int (nI 0)), (3, .int (plSign (f i))), (0, .ref a1), (2, .int (nI i))]) hx hb dX7_makePlain_60 rfl hl (by decide) rfl (fun ls hl => ?_)
            refine lv_aload_n hx hb dX7_makePlain_61 rfl (lv_at hl 2 rfl) ?_
            refine lv_iload_n hx hb dX7_makePlain_62 rfl (lv_at hl 1 rfl) ?_
            refine CV.go (va_runV (As := [.int (plSign (f i))]) (rest := []) ⟨hx, hb, hml, hown, hts⟩ (c_X7_putPlain  g1 g3 (by omega) _) (cwV 1 hts gX7_makePlain_X7_putPlain rfl rfl rfl (by decide +kernel) ⟨Nat.le_of_ble_eq_true rfl, Nat.le_of_ble_eq_true rfl⟩) ⟨pw_blind, va_recv hK hP (ci := 8) (q0 := 1) rfl g1, fun U hU hW => pw_pre hK hP hD hU hW⟩ rfl rfl hl.1 rfl (lv_room (Nat.le_of_ble_eq_true rfl)) dX7_makePlain_63 ⟨by decide, by decide⟩) hD hS hA (fun ws_12 H locs hp hP hD hS => ?_)
            obtain ⟨sm_13, g1, g3⟩ := hp
            have g2 := sm_13.get g2 (by simp)
            have sm := sm.call sm_13 (by intro k hk; (try simp only at hk ⊢); omega)
            have g1 : ws_12[1]? = some (a1, .inr (8, [.ref a2, .ref a3, .ref a4, .int (nI len), .int (nI (((o.length) + 1) + 1)), .int (nI pcs), .int (nI gp)])) := g1
            have g3 : ws_12[3]? = some (a3, .inl (cB, 800, .inl (upd (upd fo (o.length) ((nI 32).toInt8.toInt32)) ((o.length) + 1) ((plSign (f i)).toInt8.toInt32)))) := g3
            refine lv_iinc (v := (nI (i + 1))) (lv' := [(2, .int (nI (i + 1))), (1, .int (nI 0)), (3, .int (plSign (f i))), (0, .ref a1)]) hx hb dX7_makePlain_66 hl (k := 3) rfl (nx_inc _ 1) (by decide) rfl (fun ls hl => ?_)
            refine lv_goto (tgt := 9) hx hb dX7_makePlain_69 (by decide) ?_
            have hod2 := pst_take (by omega) hod
            have hd1 : (d && !o.isEmpty) = true := by cases h9 : (d && !o.isEmpty) with | true => rfl | false => rw [h9] at c_50; exact absurd c_50 (by decide)
            rw [hd1] at hol
            rw [← hT.at (by omega), show pst (o, d) (f i) = (o ++ [32] ++ [plSign (f i)], false) from by rw [pst, if_neg c_30, if_pos hd1]] at hod2
            have g1 : ws_12[1]? = some (a1, .inr (8, [.ref a2, .ref a3, .ref a4, .int (nI len), .int (nI ((o ++ [32] ++ [plSign (f i)]).length)), .int (nI pcs), .int (nI gp)])) := by rw [List.length_append, List.length_append]; exact g1
            have g3 : ws_12[3]? = some (a3, .inl (cB, 800, .inl (upd (upd fo o.length 32) (o ++ [32]).length (plSign (f i))))) := by rw [plS_byte, show (nI 32).toInt8.toInt32 = 32 from by decide] at g3; rw [List.length_append]; exact g3
            exact ih_9 (i + 1) (o ++ [32] ++ [plSign (f i)]) false _ (by omega) (by omega) hod2 (by simp at hol ⊢; omega) (hfo.upd).upd _ _ _ _ sm g1 g2 g3 hP hD hS (lv_sub hl [3, 1, 0] rfl)
        · have c_30 : plSign (f i) = 32 := c_30
          refine lv_aload_n hx hb dX7_makePlain_33 rfl (lv_at hl 1 rfl) ?_
          refine va_get (D := D) (ci := 8) (v := .int (nI (o.length))) (C := RX7) (T := TX7) (N := 7) hx hb hts hin_X7 hown hK hP 1 g1 rfl 4 (by decide) fl_26 (fun _ h9 => h9) rfl dX7_makePlain_34 ?_
          refine nx_if_le (tgt := 44) hx hb (by omega) dX7_makePlain_37 (by decide) (fun c_37 => ?_) (fun c_37 => ?_)
          · refine lv_iconst (v := nI 0) hx hb dX7_makePlain_44 (by decide) ?_
            refine lv_istore_n (lv' := [(1, .int (nI 0)), (3, .int (plSign (f i))), (0, .ref a1), (2, .int (nI i))]) hx hb dX7_makePlain_45 rfl hl (by decide) rfl (fun ls hl => ?_)
            refine lv_goto (tgt := 66) hx hb dX7_makePlain_46 (by decide) ?_
            refine lv_iinc (v := (nI (i + 1))) (lv' := [(2, .int (nI (i + 1))), (1, .int (nI 0)), (3, .int (plSign (f i))), (0, .ref a1)]) hx hb dX7_makePlain_66 hl (k := 3) rfl (nx_inc _ 1) (by decide) rfl (fun ls hl => ?_)
            refine lv_goto (tgt := 9) hx hb dX7_makePlain_69 (by decide) ?_
            have hod2 := pst_take (by omega) hod
            rw [← hT.at (by omega), show pst (o, d) (f i) = (o, true) from if_pos c_30] at hod2
            have ho : o = [] := List.length_eq_zero_iff.mp c_37
            have hl : lv_has ls 4 [(2, .int (nI (i + 1))), (1, .int (nI ((true && !o.isEmpty).toNat))), (3, .int (plSign (f i))), (0, .ref a1)] := by rw [← show 0 = (true && !o.isEmpty).toNat from (by rw [ho]; rfl)]; exact hl
            exact ih_9 (i + 1) o true fo (by omega) (by omega) hod2 (by rw [ho]; simp) hfo _ _ _ _ sm g1 g2 g3 hP hD hS (lv_sub hl [3, 1, 0] rfl)
          · refine lv_iconst (v := nI 1) hx hb dX7_makePlain_40 (by decide) ?_
            refine lv_goto (tgt := 45) hx hb dX7_makePlain_41 (by decide) ?_
            refine lv_istore_n (lv' := [(1, .int (nI 1)), (3, .int (plSign (f i))), (0, .ref a1), (2, .int (nI i))]) hx hb dX7_makePlain_45 rfl hl (by decide) rfl (fun ls hl => ?_)
            refine lv_goto (tgt := 66) hx hb dX7_makePlain_46 (by decide) ?_
            refine lv_iinc (v := (nI (i + 1))) (lv' := [(2, .int (nI (i + 1))), (1, .int (nI 1)), (3, .int (plSign (f i))), (0, .ref a1)]) hx hb dX7_makePlain_66 hl (k := 3) rfl (nx_inc _ 1) (by decide) rfl (fun ls hl => ?_)
            refine lv_goto (tgt := 9) hx hb dX7_makePlain_69 (by decide) ?_
            have hod2 := pst_take (by omega) hod
            rw [← hT.at (by omega), show pst (o, d) (f i) = (o, true) from if_pos c_30] at hod2
            have ho : (true && !o.isEmpty) = true := by cases o <;> simp_all
            have hl : lv_has ls 4 [(2, .int (nI (i + 1))), (1, .int (nI ((true && !o.isEmpty).toNat))), (3, .int (plSign (f i))), (0, .ref a1)] := by rw [← show 1 = (true && !o.isEmpty).toNat from (by rw [ho]; rfl)]; exact hl
            exact ih_9 (i + 1) o true fo (by omega) (by omega) hod2 (by rw [ho]; simp; omega) hfo _ _ _ _ sm g1 g2 g3 hP hD hS (lv_sub hl [3, 1, 0] rfl)
  exact lp_9 _ 0 [] false fp (Nat.lt_succ_self _) (Nat.zero_le _) rfl (by decide) Hd.nil _ _ _ _ sm g1 g2 g3 hP hD hS (lv_sub hl [2, 1, 0] rfl)
end
