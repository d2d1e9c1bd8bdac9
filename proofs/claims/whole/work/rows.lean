section
-- ===== PART A: goes FIRST, ahead of the names: the tables' words, and 'selects' of the private methods out of them =====
/-- a private method of a class that the tables say can be made, by its rows of tables_1 -/
def lw_okq (q : MethodName × Nat) : Prop := (q.1.cls ≠ "java/lang/invoke/MethodHandle" ∧ q.1.cls ≠ "java/lang/invoke/VarHandle") ∧ Cond.instantiable q.1.cls q.2 ∈ tables_1 ∧ Cond.privateMethod q.1 ∈ tables_1 ∧ Cond.instanceMethod q.1 ∈ tables_1
theorem lw_p0 : lw_okq (⟨"TwinFinder$Tape", "putPlain", "(I)V"⟩, 7) := ⟨⟨by decide +kernel, by decide +kernel⟩, List.mem_of_getElem? (i := 35) (by decide +kernel), List.mem_of_getElem? (i := 300) (by decide +kernel), List.mem_of_getElem? (i := 301) (by decide +kernel)⟩
theorem lw_p1 : lw_okq (⟨"TwinFinder", "numberAlongText", "()I"⟩, 9) := ⟨⟨by decide +kernel, by decide +kernel⟩, List.mem_of_getElem? (i := 27) (by decide +kernel), List.mem_of_getElem? (i := 316) (by decide +kernel), List.mem_of_getElem? (i := 317) (by decide +kernel)⟩
theorem lw_p2 : lw_okq (⟨"TwinFinder$Store", "enter", "([BIII)I"⟩, 5) := ⟨⟨by decide +kernel, by decide +kernel⟩, List.mem_of_getElem? (i := 70) (by decide +kernel), List.mem_of_getElem? (i := 330) (by decide +kernel), List.mem_of_getElem? (i := 331) (by decide +kernel)⟩
theorem lw_p3 : lw_okq (⟨"TwinFinder$Store", "isThere", "(I[BII)Z"⟩, 5) := ⟨⟨by decide +kernel, by decide +kernel⟩, List.mem_of_getElem? (i := 70) (by decide +kernel), List.mem_of_getElem? (i := 334) (by decide +kernel), List.mem_of_getElem? (i := 335) (by decide +kernel)⟩
theorem lw_p4 : lw_okq (⟨"java/util/ArrayList", "fastRemove", "([Ljava/lang/Object;I)V"⟩, 3) := ⟨⟨by decide +kernel, by decide +kernel⟩, List.mem_of_getElem? (i := 129) (by decide +kernel), List.mem_of_getElem? (i := 402) (by decide +kernel), List.mem_of_getElem? (i := 403) (by decide +kernel)⟩
theorem lw_p5 : lw_okq (⟨"java/util/ArrayList", "add", "(Ljava/lang/Object;[Ljava/lang/Object;I)V"⟩, 3) := ⟨⟨by decide +kernel, by decide +kernel⟩, List.mem_of_getElem? (i := 129) (by decide +kernel), List.mem_of_getElem? (i := 413) (by decide +kernel), List.mem_of_getElem? (i := 414) (by decide +kernel)⟩
theorem lw_p6 : lw_okq (⟨"java/util/ArrayList", "grow", "()[Ljava/lang/Object;"⟩, 3) := ⟨⟨by decide +kernel, by decide +kernel⟩, List.mem_of_getElem? (i := 129) (by decide +kernel), List.mem_of_getElem? (i := 417) (by decide +kernel), List.mem_of_getElem? (i := 418) (by decide +kernel)⟩
theorem lw_p7 : lw_okq (⟨"java/util/ArrayList", "grow", "(I)[Ljava/lang/Object;"⟩, 3) := ⟨⟨by decide +kernel, by decide +kernel⟩, List.mem_of_getElem? (i := 129) (by decide +kernel), List.mem_of_getElem? (i := 421) (by decide +kernel), List.mem_of_getElem? (i := 422) (by decide +kernel)⟩
theorem lw_p8 : lw_okq (⟨"TwinFinder$Permutations", "placeFor", "(I)I"⟩, 7) := ⟨⟨by decide +kernel, by decide +kernel⟩, List.mem_of_getElem? (i := 94) (by decide +kernel), List.mem_of_getElem? (i := 487) (by decide +kernel), List.mem_of_getElem? (i := 488) (by decide +kernel)⟩
theorem lw_p9 : lw_okq (⟨"TwinFinder$Permutations", "dropMoved", "(I)V"⟩, 7) := ⟨⟨by decide +kernel, by decide +kernel⟩, List.mem_of_getElem? (i := 94) (by decide +kernel), List.mem_of_getElem? (i := 535) (by decide +kernel), List.mem_of_getElem? (i := 536) (by decide +kernel)⟩
theorem lw_p10 : lw_okq (⟨"TwinFinder", "renewImages", "(I)V"⟩, 9) := ⟨⟨by decide +kernel, by decide +kernel⟩, List.mem_of_getElem? (i := 27) (by decide +kernel), List.mem_of_getElem? (i := 539) (by decide +kernel), List.mem_of_getElem? (i := 540) (by decide +kernel)⟩
theorem lw_p11 : lw_okq (⟨"TwinFinder$Permutations", "move", "(II)V"⟩, 7) := ⟨⟨by decide +kernel, by decide +kernel⟩, List.mem_of_getElem? (i := 94) (by decide +kernel), List.mem_of_getElem? (i := 554) (by decide +kernel), List.mem_of_getElem? (i := 555) (by decide +kernel)⟩
theorem lw_p12 : lw_okq (⟨"TwinFinder$Kin", "begin", "(Ljava/util/ArrayList;)V"⟩, 8) := ⟨⟨by decide +kernel, by decide +kernel⟩, List.mem_of_getElem? (i := 193) (by decide +kernel), List.mem_of_getElem? (i := 595) (by decide +kernel), List.mem_of_getElem? (i := 596) (by decide +kernel)⟩
theorem lw_p13 : lw_okq (⟨"TwinFinder$Kin", "compare", "(ILTwinFinder$Document;ILTwinFinder$Document;LTwinFinder$Measure;)V"⟩, 8) := ⟨⟨by decide +kernel, by decide +kernel⟩, List.mem_of_getElem? (i := 193) (by decide +kernel), List.mem_of_getElem? (i := 603) (by decide +kernel), List.mem_of_getElem? (i := 604) (by decide +kernel)⟩
theorem lw_p14 : lw_okq (⟨"TwinFinder$Measure", "agree", "(LTwinFinder$Document;LTwinFinder$Document;I)Z"⟩, 4) := ⟨⟨by decide +kernel, by decide +kernel⟩, List.mem_of_getElem? (i := 170) (by decide +kernel), List.mem_of_getElem? (i := 611) (by decide +kernel), List.mem_of_getElem? (i := 612) (by decide +kernel)⟩
theorem lw_p15 : lw_okq (⟨"TwinFinder$Kin", "join", "(II)V"⟩, 8) := ⟨⟨by decide +kernel, by decide +kernel⟩, List.mem_of_getElem? (i := 193) (by decide +kernel), List.mem_of_getElem? (i := 631) (by decide +kernel), List.mem_of_getElem? (i := 632) (by decide +kernel)⟩
def lw_privs_1 : List (MethodName × Nat) := [(⟨"TwinFinder$Tape", "putPlain", "(I)V"⟩, 7), (⟨"TwinFinder", "numberAlongText", "()I"⟩, 9), (⟨"TwinFinder$Store", "enter", "([BIII)I"⟩, 5), (⟨"TwinFinder$Store", "isThere", "(I[BII)Z"⟩, 5), (⟨"java/util/ArrayList", "fastRemove", "([Ljava/lang/Object;I)V"⟩, 3), (⟨"java/util/ArrayList", "add", "(Ljava/lang/Object;[Ljava/lang/Object;I)V"⟩, 3), (⟨"java/util/ArrayList", "grow", "()[Ljava/lang/Object;"⟩, 3), (⟨"java/util/ArrayList", "grow", "(I)[Ljava/lang/Object;"⟩, 3), (⟨"TwinFinder$Permutations", "placeFor", "(I)I"⟩, 7), (⟨"TwinFinder$Permutations", "dropMoved", "(I)V"⟩, 7), (⟨"TwinFinder", "renewImages", "(I)V"⟩, 9), (⟨"TwinFinder$Permutations", "move", "(II)V"⟩, 7), (⟨"TwinFinder$Kin", "begin", "(Ljava/util/ArrayList;)V"⟩, 8), (⟨"TwinFinder$Kin", "compare", "(ILTwinFinder$Document;ILTwinFinder$Document;LTwinFinder$Measure;)V"⟩, 8), (⟨"TwinFinder$Measure", "agree", "(LTwinFinder$Document;LTwinFinder$Document;I)Z"⟩, 4), (⟨"TwinFinder$Kin", "join", "(II)V"⟩, 8)]
theorem lw_r1 : ∀ q ∈ lw_privs_1, lw_okq q := List.forall_mem_cons.mpr ⟨lw_p0, List.forall_mem_cons.mpr ⟨lw_p1, List.forall_mem_cons.mpr ⟨lw_p2, List.forall_mem_cons.mpr ⟨lw_p3, List.forall_mem_cons.mpr ⟨lw_p4, List.forall_mem_cons.mpr ⟨lw_p5, List.forall_mem_cons.mpr ⟨lw_p6, List.forall_mem_cons.mpr ⟨lw_p7, List.forall_mem_cons.mpr ⟨lw_p8, List.forall_mem_cons.mpr ⟨lw_p9, List.forall_mem_cons.mpr ⟨lw_p10, List.forall_mem_cons.mpr ⟨lw_p11, List.forall_mem_cons.mpr ⟨lw_p12, List.forall_mem_cons.mpr ⟨lw_p13, List.forall_mem_cons.mpr ⟨lw_p14, List.forall_mem_cons.mpr ⟨lw_p15, fun _ h => absurd h List.not_mem_nil⟩⟩⟩⟩⟩⟩⟩⟩⟩⟩⟩⟩⟩⟩⟩⟩
theorem lw_p16 : lw_okq (⟨"java/lang/Throwable", "fillInStackTrace", "(I)Ljava/lang/Throwable;"⟩, 6) := ⟨⟨by decide +kernel, by decide +kernel⟩, List.mem_of_getElem? (i := 705) (by decide +kernel), List.mem_of_getElem? (i := 703) (by decide +kernel), List.mem_of_getElem? (i := 704) (by decide +kernel)⟩
theorem lw_p17 : lw_okq (⟨"TwinFinder", "documentThere", "(I)LTwinFinder$Document;"⟩, 9) := ⟨⟨by decide +kernel, by decide +kernel⟩, List.mem_of_getElem? (i := 27) (by decide +kernel), List.mem_of_getElem? (i := 786) (by decide +kernel), List.mem_of_getElem? (i := 787) (by decide +kernel)⟩
theorem lw_p18 : lw_okq (⟨"TwinFinder$Shelf", "rankOf", "(LTwinFinder$Document;LTwinFinder$Document;LTwinFinder$Measure;)I"⟩, 4) := ⟨⟨by decide +kernel, by decide +kernel⟩, List.mem_of_getElem? (i := 123) (by decide +kernel), List.mem_of_getElem? (i := 831) (by decide +kernel), List.mem_of_getElem? (i := 832) (by decide +kernel)⟩
theorem lw_p19 : lw_okq (⟨"java/util/ArrayList", "rangeCheckForAdd", "(I)V"⟩, 3) := ⟨⟨by decide +kernel, by decide +kernel⟩, List.mem_of_getElem? (i := 129) (by decide +kernel), List.mem_of_getElem? (i := 844) (by decide +kernel), List.mem_of_getElem? (i := 845) (by decide +kernel)⟩
theorem lw_p20 : lw_okq (⟨"TwinFinderModel", "four", "(I)V"⟩, 32) := ⟨⟨by decide +kernel, by decide +kernel⟩, List.mem_of_getElem? (i := 858) (by decide +kernel), List.mem_of_getElem? (i := 856) (by decide +kernel), List.mem_of_getElem? (i := 857) (by decide +kernel)⟩
theorem lw_p21 : lw_okq (⟨"TwinFinderModel", "makePlain", "()V"⟩, 32) := ⟨⟨by decide +kernel, by decide +kernel⟩, List.mem_of_getElem? (i := 858) (by decide +kernel), List.mem_of_getElem? (i := 869) (by decide +kernel), List.mem_of_getElem? (i := 870) (by decide +kernel)⟩
theorem lw_p22 : lw_okq (⟨"TwinFinderModel", "all", "()Z"⟩, 32) := ⟨⟨by decide +kernel, by decide +kernel⟩, List.mem_of_getElem? (i := 858) (by decide +kernel), List.mem_of_getElem? (i := 873) (by decide +kernel), List.mem_of_getElem? (i := 874) (by decide +kernel)⟩
theorem lw_p23 : lw_okq (⟨"TwinFinderModel", "comes", "(II)Z"⟩, 32) := ⟨⟨by decide +kernel, by decide +kernel⟩, List.mem_of_getElem? (i := 858) (by decide +kernel), List.mem_of_getElem? (i := 877) (by decide +kernel), List.mem_of_getElem? (i := 878) (by decide +kernel)⟩
theorem lw_p24 : lw_okq (⟨"TwinFinderModel", "numberOf", "(II)I"⟩, 32) := ⟨⟨by decide +kernel, by decide +kernel⟩, List.mem_of_getElem? (i := 858) (by decide +kernel), List.mem_of_getElem? (i := 881) (by decide +kernel), List.mem_of_getElem? (i := 882) (by decide +kernel)⟩
theorem lw_p25 : lw_okq (⟨"TwinFinderModel", "slot", "(I)I"⟩, 32) := ⟨⟨by decide +kernel, by decide +kernel⟩, List.mem_of_getElem? (i := 858) (by decide +kernel), List.mem_of_getElem? (i := 890) (by decide +kernel), List.mem_of_getElem? (i := 891) (by decide +kernel)⟩
theorem lw_p26 : lw_okq (⟨"TwinFinderModel", "throwsIf", "(Z)Z"⟩, 32) := ⟨⟨by decide +kernel, by decide +kernel⟩, List.mem_of_getElem? (i := 858) (by decide +kernel), List.mem_of_getElem? (i := 898) (by decide +kernel), List.mem_of_getElem? (i := 899) (by decide +kernel)⟩
theorem lw_p27 : lw_okq (⟨"TwinFinderModel", "imageOf", "(II)I"⟩, 32) := ⟨⟨by decide +kernel, by decide +kernel⟩, List.mem_of_getElem? (i := 858) (by decide +kernel), List.mem_of_getElem? (i := 1022) (by decide +kernel), List.mem_of_getElem? (i := 1023) (by decide +kernel)⟩
theorem lw_p28 : lw_okq (⟨"TwinFinderModel", "areTwins", "(II)Z"⟩, 32) := ⟨⟨by decide +kernel, by decide +kernel⟩, List.mem_of_getElem? (i := 858) (by decide +kernel), List.mem_of_getElem? (i := 1039) (by decide +kernel), List.mem_of_getElem? (i := 1040) (by decide +kernel)⟩
theorem lw_p29 : lw_okq (⟨"TwinFinderModel", "band", "(II)I"⟩, 32) := ⟨⟨by decide +kernel, by decide +kernel⟩, List.mem_of_getElem? (i := 858) (by decide +kernel), List.mem_of_getElem? (i := 1043) (by decide +kernel), List.mem_of_getElem? (i := 1044) (by decide +kernel)⟩
theorem lw_p30 : lw_okq (⟨"TwinFinderModel", "sign", "()V"⟩, 32) := ⟨⟨by decide +kernel, by decide +kernel⟩, List.mem_of_getElem? (i := 858) (by decide +kernel), List.mem_of_getElem? (i := 1047) (by decide +kernel), List.mem_of_getElem? (i := 1048) (by decide +kernel)⟩
theorem lw_p31 : lw_okq (⟨"TwinFinderModel", "common", "(II)I"⟩, 32) := ⟨⟨by decide +kernel, by decide +kernel⟩, List.mem_of_getElem? (i := 858) (by decide +kernel), List.mem_of_getElem? (i := 1052) (by decide +kernel), List.mem_of_getElem? (i := 1053) (by decide +kernel)⟩
def lw_privs_2 : List (MethodName × Nat) := [(⟨"java/lang/Throwable", "fillInStackTrace", "(I)Ljava/lang/Throwable;"⟩, 6), (⟨"TwinFinder", "documentThere", "(I)LTwinFinder$Document;"⟩, 9), (⟨"TwinFinder$Shelf", "rankOf", "(LTwinFinder$Document;LTwinFinder$Document;LTwinFinder$Measure;)I"⟩, 4), (⟨"java/util/ArrayList", "rangeCheckForAdd", "(I)V"⟩, 3), (⟨"TwinFinderModel", "four", "(I)V"⟩, 32), (⟨"TwinFinderModel", "makePlain", "()V"⟩, 32), (⟨"TwinFinderModel", "all", "()Z"⟩, 32), (⟨"TwinFinderModel", "comes", "(II)Z"⟩, 32), (⟨"TwinFinderModel", "numberOf", "(II)I"⟩, 32), (⟨"TwinFinderModel", "slot", "(I)I"⟩, 32), (⟨"TwinFinderModel", "throwsIf", "(Z)Z"⟩, 32), (⟨"TwinFinderModel", "imageOf", "(II)I"⟩, 32), (⟨"TwinFinderModel", "areTwins", "(II)Z"⟩, 32), (⟨"TwinFinderModel", "band", "(II)I"⟩, 32), (⟨"TwinFinderModel", "sign", "()V"⟩, 32), (⟨"TwinFinderModel", "common", "(II)I"⟩, 32)]
theorem lw_r2 : ∀ q ∈ lw_privs_2, lw_okq q := List.forall_mem_cons.mpr ⟨lw_p16, List.forall_mem_cons.mpr ⟨lw_p17, List.forall_mem_cons.mpr ⟨lw_p18, List.forall_mem_cons.mpr ⟨lw_p19, List.forall_mem_cons.mpr ⟨lw_p20, List.forall_mem_cons.mpr ⟨lw_p21, List.forall_mem_cons.mpr ⟨lw_p22, List.forall_mem_cons.mpr ⟨lw_p23, List.forall_mem_cons.mpr ⟨lw_p24, List.forall_mem_cons.mpr ⟨lw_p25, List.forall_mem_cons.mpr ⟨lw_p26, List.forall_mem_cons.mpr ⟨lw_p27, List.forall_mem_cons.mpr ⟨lw_p28, List.forall_mem_cons.mpr ⟨lw_p29, List.forall_mem_cons.mpr ⟨lw_p30, List.forall_mem_cons.mpr ⟨lw_p31, fun _ h => absurd h List.not_mem_nil⟩⟩⟩⟩⟩⟩⟩⟩⟩⟩⟩⟩⟩⟩⟩⟩
theorem lw_p32 : lw_okq (⟨"TwinFinderModel", "families", "()V"⟩, 32) := ⟨⟨by decide +kernel, by decide +kernel⟩, List.mem_of_getElem? (i := 858) (by decide +kernel), List.mem_of_getElem? (i := 1056) (by decide +kernel), List.mem_of_getElem? (i := 1057) (by decide +kernel)⟩
theorem lw_p33 : lw_okq (⟨"TwinFinderModel", "inFamily", "(I)I"⟩, 32) := ⟨⟨by decide +kernel, by decide +kernel⟩, List.mem_of_getElem? (i := 858) (by decide +kernel), List.mem_of_getElem? (i := 1060) (by decide +kernel), List.mem_of_getElem? (i := 1061) (by decide +kernel)⟩
theorem lw_p34 : lw_okq (⟨"TwinFinderModel", "isTold", "(II)Z"⟩, 32) := ⟨⟨by decide +kernel, by decide +kernel⟩, List.mem_of_getElem? (i := 858) (by decide +kernel), List.mem_of_getElem? (i := 1084) (by decide +kernel), List.mem_of_getElem? (i := 1085) (by decide +kernel)⟩
theorem lw_p35 : lw_okq (⟨"TwinFinderModel", "isPair", "(III)Z"⟩, 32) := ⟨⟨by decide +kernel, by decide +kernel⟩, List.mem_of_getElem? (i := 858) (by decide +kernel), List.mem_of_getElem? (i := 1088) (by decide +kernel), List.mem_of_getElem? (i := 1089) (by decide +kernel)⟩
theorem lw_p36 : lw_okq (⟨"TwinFinderModel", "isNearer", "(III)Z"⟩, 32) := ⟨⟨by decide +kernel, by decide +kernel⟩, List.mem_of_getElem? (i := 858) (by decide +kernel), List.mem_of_getElem? (i := 1100) (by decide +kernel), List.mem_of_getElem? (i := 1101) (by decide +kernel)⟩
def lw_privs_3 : List (MethodName × Nat) := [(⟨"TwinFinderModel", "families", "()V"⟩, 32), (⟨"TwinFinderModel", "inFamily", "(I)I"⟩, 32), (⟨"TwinFinderModel", "isTold", "(II)Z"⟩, 32), (⟨"TwinFinderModel", "isPair", "(III)Z"⟩, 32), (⟨"TwinFinderModel", "isNearer", "(III)Z"⟩, 32)]
theorem lw_r3 : ∀ q ∈ lw_privs_3, lw_okq q := List.forall_mem_cons.mpr ⟨lw_p32, List.forall_mem_cons.mpr ⟨lw_p33, List.forall_mem_cons.mpr ⟨lw_p34, List.forall_mem_cons.mpr ⟨lw_p35, List.forall_mem_cons.mpr ⟨lw_p36, fun _ h => absurd h List.not_mem_nil⟩⟩⟩⟩⟩
def lw_privs : List (MethodName × Nat) := lw_privs_1 ++ (lw_privs_2 ++ (lw_privs_3))
def lw_tbl : List Cond := k2_sels lw_privs ++ tables_1
theorem lw_privs_ok : ∀ q ∈ lw_privs, lw_okq q := by
  show ∀ q ∈ lw_privs_1 ++ (lw_privs_2 ++ (lw_privs_3)), lw_okq q
  exact List.forall_mem_append.mpr ⟨lw_r1, List.forall_mem_append.mpr ⟨lw_r2, lw_r3⟩⟩
-- ===== end of PART A; then your names; then what follows =====
end
section
/-! ===== BEGIN words of one list among another's, by their places ===== -/
theorem goodIn_r {big : List Cond} (ws : List Cond) (ps : List Nat) (hp : ws = ps.filterMap (fun i => big[i]?)) (h : ws.all goodWord = true) : GoodIn big ws := by
  intro w hw
  have h1 := List.all_eq_true.mp h w hw
  rw [hp] at hw
  obtain ⟨i, -, hi⟩ := List.mem_filterMap.mp hw
  have hm : w ∈ big := by first | exact List.mem_of_getElem? hi | exact List.getElem?_mem hi
  exact ⟨hm, good_of_word h1⟩
theorem goodIn_app {big a b : List Cond} (ha : GoodIn big a) (hb : GoodIn big b) : GoodIn big (a ++ b) := fun w h => (List.mem_append.mp h).elim (ha w) (hb w)
theorem goodIn_ca {big a b : List Cond} {c : Cond} (ha : GoodIn big (c :: a)) (hb : GoodIn big b) : GoodIn big (c :: (a ++ b)) := fun w h => (List.mem_cons.mp h).elim (fun e => ha w (List.mem_cons.mpr (Or.inl e))) (fun h => (List.mem_append.mp h).elim (fun h => ha w (List.mem_cons.mpr (Or.inr h))) (hb w))
theorem goodIn_sub {big ws : List Cond} (hm : ∀ w ∈ ws, w ∈ big) (h : ws.all goodWord = true) : GoodIn big ws := fun w hw => ⟨hm w hw, good_of_word (List.all_eq_true.mp h w hw)⟩
/-! ===== END ===== -/

/-! ===== BEGIN exceptions that leave a method, and their catching by the caller (launches without stack traces) ===== -/
section VXA
/-! The laws vx_back, vx_callV, vx_callS, vx_callSW, vx_throw0, vx_throwS follow proofs of the library, with one case more: JvmDerived/Free/Laws.lean (Back.of_free), Shelf42/LK1.lean (callV, callS), Shelf/KitTraced.lean (throwNew0V, throwNewS). -/
/-- where a method has thrown q: the class by its name, the cell, what was written, the world -/
def vx_T (XC : String → State → State → Prop) (st : State) (q : Addr) (t : State) (mc ms : Nat) (free : Addr → Prop) : Prop :=
  ∃ (E : String) (ce : Cell) (L : List Loc), XC E st t ∧ t.heap[q]? = some ce ∧ ce.vm = .none ∧ st.vm.findClass E = some ce.cls ∧ st.WarmedH t.vm ∧ st.sameButNew ({ t with vm := st.vm } : State) L mc ms ∧ ∀ z ∈ L, free z.base
def vx_Q (Qc : Array Value → State → Outcome → State → Prop) (XC : String → State → State → Prop) (mc ms : Nat) (free : Addr → Prop) : Array Value → State → Outcome → State → Prop := fun a st o t =>
  (Qc a st o t ∧ ∃ L, FrameEnd st o t L mc ms ∧ ∀ q ∈ L, free q.base) ∨ ∃ q, o = .threw q ∧ vx_T XC st q t mc ms free
/-- a callee that returns or throws -/
def vx_Met (l : Launch) (y : MethodName) (ws : List Cond) (rm : Room) (Pc : Array Value → State → Prop) (Qc : Array Value → State → Outcome → State → Prop) (XC : String → State → State → Prop) (mc ms : Nat) (free : Addr → Prop) : Prop :=
  MetFree l y (headSpec ws rm) Pc (fun _ _ _ _ _ => True) (vx_Q Qc XC mc ms free)
def vx_Post (XC : String → State → State → Prop) (mc ms : Nat) (free : Addr → Prop) : Pt → Array Value → Addr → Pt → Prop := fun A a q B =>
  ∃ (g : JFrame) (mk : MethodId) (t : State) (L : List Loc) (E : String) (ce : Cell), B.U.heap = t.heap ∧ B.U.vm = t.vm ∧ XC E (A.U.calling g mk a) t ∧ t.heap[q]? = some ce ∧ ce.vm = .none ∧ A.U.vm.findClass E = some ce.cls ∧ B.locs = A.locs ++ L ∧ (∀ z ∈ L, free z.base) ∧ B.cells = A.cells + mc ∧ B.slots = A.slots + ms
def vx_Back (l : Launch) (R : Room) (p : Program) (e : Env) (below : List Frame) (s : State) (sargs : Array Value) (y : MethodName) (len W9 : Nat)
    (Pre : Pt → Array Value → Prop) (Post : Pt → Array Value → Option Value → Pt → Prop) (PostX : Pt → Array Value → Addr → Pt → Prop) : Prop :=
  ∀ (m : MethodId) (meth : Method) (c : Code) (A : Pt) (g : JFrame) (ig : Instr) (mk : MethodId) (a : Array Value),
    Stand p l e R s m sargs below meth c A.U A.locs A.cells A.slots → g.method = m → g.locals.size = c.maxLocals → decode c.code g.pc = .ok (ig, len) →
    2 * g.monitorRoom + (g.stack.map fun v => v.category).sum ≤ W9 → A.U.methodNamed? y = some mk → Pre A a →
    (∃ (v : Option Value) (B : Pt), Stand p l e R s m sargs below meth c B.U B.locs B.cells B.slots ∧ Post A a v B ∧
      Steps p.tables e below (doInvoke e (A.U.setTop g) [] mk a).1 (B.U.setTop { g with pc := g.pc + len, stack := v.toList ++ g.stack })) ∨
    (∃ (q : Addr) (B : Pt), Stand p l e R s m sargs below meth c B.U B.locs B.cells B.slots ∧ PostX A a q B ∧
      Steps p.tables e below (doInvoke e (A.U.setTop g) [] mk a).1 ((B.U.setTop g).pushFrame (.throwing q)))
section Payer
variable {l : Launch} {R : Room} {p : Program} {e : Env} {below : List Frame} {s : State} {sargs : Array Value} {y : MethodName} {len W9 : Nat}
theorem vx_back {ws : List Cond} {rm : Room} {Pc : Array Value → State → Prop} {Qc : Array Value → State → Outcome → State → Prop} {XC : String → State → State → Prop} {mc ms : Nat} {free : Addr → Prop} {bytes : ByteArray} {maxL : Nat} {ret : Option FieldType}
    (hM : vx_Met l y ws rm Pc Qc XC mc ms free) (hblind : FrameBlind Pc) (hrc : rm.cells = mc) (hrs : rm.slots = ms)
    (hframes : rm.frames + 1 ≤ R.frames) (hlocals : W9 + (maxL + 11) + rm.locals ≤ R.locals)
    (hws : ∀ w ∈ ws, ∀ a' U, s.WarmedH U.vm → w.before a' U = true) (hcode : Cond.code y bytes maxL ret ∈ ws) (hinit : ∀ a' U, s.WarmedH U.vm → (Cond.initialized y.cls).before a' U = true) :
    vx_Back l R p e below s sargs y len W9 (PreOf R mc ms Pc) (PostOf Qc mc ms free) (vx_Post XC mc ms free) := by
  intro m meth c A g ig mk a X hg hsize hdg hW hn hp
  have h1 : (headSpec ws rm).pre.before a A.U = true := atoms_intro fun w hw => hws w hw _ _ X.warmed
  have h2 : (Cond.code y bytes maxL ret).before a A.U = true := hws _ hcode _ _ X.warmed
  have h3 : (Cond.initialized y.cls).before a A.U = true := hinit _ _ X.warmed
  have h4 : A.cells + (headSpec ws rm).room.cells ≤ R.cells := by rw [show (headSpec ws rm).room.cells = mc from hrc]; exact hp.1
  have h5 : A.slots + (headSpec ws rm).room.slots ≤ R.slots := by rw [show (headSpec ws rm).room.slots = ms from hrs]; exact hp.2.1
  have hPc : Pc a (A.U.calling g mk a) := hblind _ _ _ _ hp.2.2
  obtain ⟨U, Ls, c0, s0⟩ := A
  dsimp only [Pt.U, Pt.locs, Pt.cells, Pt.slots] at h1 h2 h3 h4 h5 X hn hPc ⊢
  obtain ⟨methY, cY, hmY, hcY, -, hlY, -, -, -, -⟩ := Cond.code_spec hn h2
  obtain ⟨kY, hkY, -⟩ := className_of_methodNamed hn
  have hinitY : kY.init = .initialized := Cond.initialized_spec (findClass_of_methodNamed hn) hkY h3
  have h : At U g.method c below := by rw [hg]; exact X.here
  have hlocals9 : W9 + (maxL + 11) + (headSpec ws rm).room.locals ≤ R.locals := hlocals
  have happ : (headSpec ws rm).appliesLoose y e.platform (U.calling g mk a) = true :=
    Spec.appliesLoose_calling (g := g) h hdg hn hkY hinitY
      (X.room_calling (g := g) (R' := (headSpec ws rm).room) hsize hmY hcY hframes (by rw [hlY]; omega) h4 h5) h1
  obtain ⟨mid, hmid⟩ := h.above
  have hfr : (U.setTop g).frames = (.java g :: mid) ++ below := by rw [State.frames_setTop' g h.top, hmid]; rfl
  obtain ⟨o, s₂, hsteps, -, hend, hq⟩ := Steps.callFree hM p X.admits X.cas X.clock (acts := []) hfr happ hPc trivial
  have hq' : vx_Q Qc XC mc ms free a (U.calling g mk a) o s₂ := hq
  rw [State.frames_setTop' g h.top] at hend
  obtain ⟨g₀, hg0⟩ := Option.isSome_iff_exists.mp h.top
  obtain ⟨r, hr⟩ := State.topJava?_eq_some.mp hg0
  have hr' : (({ U with heap := s₂.heap, slotsUsed := s₂.slotsUsed } : State).setVm s₂.vm).frames = .java g₀ :: r := hr
  rcases hq' with ⟨hqc, L, hfe, hL⟩ | ⟨q, rfl, E, ce, L, hx, hce, hcv, hcl, hW₂, hsm, hL⟩
  · obtain ⟨⟨v, rfl⟩, hW₂, e2, q2, q3, q4, q5, q6⟩ := id hfe
    have e3 : s₂ = ({ (U.calling g mk a).setFrames s₂.frames with heap := s₂.heap, slotsUsed := s₂.slotsUsed } : State).setVm s₂.vm := by
      have : s₂ = ({ s₂ with vm := (U.calling g mk a).vm } : State).setVm s₂.vm := rfl
      rw [e2] at this
      exact this
    obtain ⟨c₂, i₂, len₂, hc₂, hd₂, hf₂⟩ := hend
    have hW' : U.WarmedH s₂.vm := hW₂
    have hcc : c₂ = c := by
      have h1 : s₂.code? g.method = U.code? g.method := by
        rw [State.code?_eq, State.code?_eq, hW'.alike.method?]
      exact Option.some.inj (hc₂.symm.trans (h1.trans h.code))
    subst hcc
    have hlen : len₂ = len := by rw [hdg] at hd₂; cases hd₂; rfl
    subst hlen
    have hs₂ : s₂ = (({ U with heap := s₂.heap, slotsUsed := s₂.slotsUsed } : State).setVm s₂.vm).setTop { g with pc := g.pc + len₂, stack := v.toList ++ g.stack } := by
      refine e3.trans ?_
      rw [hf₂, State.calling_eq h.top, State.setFrames_setFrames, State.setTop_of_frames _ hr', hr]
      rfl
    have hsame : U.sameButNew ({ U with heap := s₂.heap, slotsUsed := s₂.slotsUsed } : State) L mc ms := by
      refine ⟨?_, q2, q3, q4, q5, q6⟩
      obtain ⟨t, ht, -⟩ := State.frames_cons hr
      show ({ U with heap := s₂.heap, slotsUsed := s₂.slotsUsed } : State) = { U.setFrames U.frames with heap := s₂.heap, slotsUsed := s₂.slotsUsed }
      rw [State.setFrames_self ht]
    subst hg
    refine Or.inl ⟨v, ⟨(({ U with heap := s₂.heap, slotsUsed := s₂.slotsUsed } : State).setVm s₂.vm), Ls ++ L, c0 + mc, s0 + ms⟩,
      ⟨X.admits, X.cas, X.clock, X.frames, X.room, X.hears, X.method, X.code, (X.here.setHeapUsed s₂.heap s₂.slotsUsed).setVm hW'.alike, X.tail, State.WarmedH.trans X.warmed hW', X.limits, X.bytes, X.same.trans (hsame.setVm s.vm)⟩,
      ⟨g, mk, s₂, L, rfl, rfl, hqc, rfl, hL, rfl, rfl⟩, ?_⟩
    show Steps p.tables e below _ ((({ U with heap := s₂.heap, slotsUsed := s₂.slotsUsed } : State).setVm s₂.vm).setTop { g with pc := g.pc + len₂, stack := v.toList ++ g.stack })
    rw [← hs₂]
    exact hsteps
  · obtain ⟨e2, q2, q3, q4, q5, q6⟩ := id hsm
    have e3 : s₂ = ({ (U.calling g mk a).setFrames s₂.frames with heap := s₂.heap, slotsUsed := s₂.slotsUsed } : State).setVm s₂.vm := by
      have : s₂ = ({ s₂ with vm := (U.calling g mk a).vm } : State).setVm s₂.vm := rfl
      rw [e2] at this
      exact this
    have hf₂ : s₂.frames = .throwing q :: .java g :: U.frames.tail := hend
    have hW' : U.WarmedH s₂.vm := hW₂
    have hs₂ : s₂ = ((({ U with heap := s₂.heap, slotsUsed := s₂.slotsUsed } : State).setVm s₂.vm).setTop g).pushFrame (.throwing q) := by
      refine e3.trans ?_
      rw [hf₂, State.calling_eq h.top, State.setFrames_setFrames, State.pushFrame, State.frames_setTop _ hr', State.setTop_of_frames _ hr', State.setFrames_setFrames, hr]
      rfl
    have hsame : U.sameButNew ({ U with heap := s₂.heap, slotsUsed := s₂.slotsUsed } : State) L mc ms := by
      refine ⟨?_, q2, q3, q4, q5, q6⟩
      obtain ⟨t, ht, -⟩ := State.frames_cons hr
      show ({ U with heap := s₂.heap, slotsUsed := s₂.slotsUsed } : State) = { U.setFrames U.frames with heap := s₂.heap, slotsUsed := s₂.slotsUsed }
      rw [State.setFrames_self ht]
    subst hg
    refine Or.inr ⟨q, ⟨(({ U with heap := s₂.heap, slotsUsed := s₂.slotsUsed } : State).setVm s₂.vm), Ls ++ L, c0 + mc, s0 + ms⟩,
      ⟨X.admits, X.cas, X.clock, X.frames, X.room, X.hears, X.method, X.code, (X.here.setHeapUsed s₂.heap s₂.slotsUsed).setVm hW'.alike, X.tail, State.WarmedH.trans X.warmed hW', X.limits, X.bytes, X.same.trans (hsame.setVm s.vm)⟩,
      ⟨g, mk, s₂, L, E, ce, rfl, rfl, hx, hce, hcv, hcl, rfl, hL, rfl, rfl⟩, ?_⟩
    show Steps p.tables e below _ (((({ U with heap := s₂.heap, slotsUsed := s₂.slotsUsed } : State).setVm s₂.vm).setTop g).pushFrame (.throwing q))
    rw [← hs₂]
    exact hsteps
end Payer
section Calls
variable {p : Program} {l : Launch} {e : Env} {R : Room} {s : State} {m : MethodId} {args : Array Value} {below : List Frame} {meth : Method} {c : Code} {T : State} {locs : List Loc} {cells slots : Nat}
theorem vx_callV (X : Stand p l e R s m args below meth c T locs cells slots) (hexec : p.tables.exec = Jvm.exec) {own C : String} {index : Nat} {y : MethodName} {bytes : ByteArray} {maxL : Nat} {ret : Option FieldType}
    (hown : s.vm.findClass own = some m.cls) (hlink : (Cond.methodLink own index y).before args s = true) (hinst : (Cond.instanceMethod y).before args s = true) (hsel : (Cond.selects C y y).before args s = true)
    (hcode : (Cond.code y bytes maxL ret).before args s = true) (hy : y.cls ≠ "java/lang/invoke/MethodHandle" ∧ y.cls ≠ "java/lang/invoke/VarHandle")
    {W9 : Nat} {Pre : Pt → Array Value → Prop} {Post : Pt → Array Value → Option Value → Pt → Prop} {PostX : Pt → Array Value → Addr → Pt → Prop} (hK : vx_Back l R p e below s args y 3 W9 Pre Post PostX)
    {b : Addr} {cellB : Cell} (hcell : T.heap[b]? = some cellB) (hobj : cellB.vm.isStatics = false) (hcls : s.vm.findClass C = some cellB.cls)
    {g : JFrame} (hg : g.method = m) (hsize : g.locals.size = c.maxLocals) {argsL rest : List Value} (hlen : ∀ sig, parseMethodDescriptor y.desc = some sig → argsL.length = sig.parameters.length)
    (hstack : g.stack = argsL.reverse ++ .ref b :: rest) (hW : 2 * g.monitorRoom + (rest.map fun v => v.category).sum ≤ W9) (hdg : decode c.code g.pc = .ok (.invokevirtual index, 3))
    (hpre : ∀ vm₁, s.WarmedH vm₁ → Pre ⟨T.setVm vm₁, locs, cells, slots⟩ (Value.ref b :: argsL).toArray) :
    (∃ (v : Option Value) (vm₁ : Vm) (B : Pt), s.WarmedH vm₁ ∧ Stand p l e R s m args below meth c B.U B.locs B.cells B.slots ∧ Post ⟨T.setVm vm₁, locs, cells, slots⟩ (Value.ref b :: argsL).toArray v B ∧
      ∀ target, Steps p.tables e below (B.U.setTop { g with pc := g.pc + 3, stack := v.toList ++ rest }) target → Steps p.tables e below (T.setTop g) target) ∨
    (∃ (q : Addr) (vm₁ : Vm) (B : Pt), s.WarmedH vm₁ ∧ Stand p l e R s m args below meth c B.U B.locs B.cells B.slots ∧ PostX ⟨T.setVm vm₁, locs, cells, slots⟩ (Value.ref b :: argsL).toArray q B ∧
      Steps p.tables e below (T.setTop g) ((B.U.setTop { g with stack := rest }).pushFrame (.throwing q))) := by
  obtain ⟨mk, methM, hnamed, hmethM, hstM, habM⟩ := Cond.instanceMethod_spec hinst
  obtain ⟨methM', cM, hmethM', -, -, -, -, -, -, hsigM⟩ := Cond.code_spec hnamed hcode
  cases hmethM.symm.trans hmethM'
  obtain ⟨c2, r2, m2, q1, q2, q3, q4, kP, hkP, hkPi⟩ := Cond.selects_spec hsel
  cases hcls.symm.trans q1
  cases (State.methodFound?_of_named hnamed hy).symm.trans q2
  cases hnamed.symm.trans q3
  have hselP : selectMethod e.platform s.vm cellB.cls mk = .method mk := by rw [Launch.admits_selectMethod X.admits]; exact q4
  obtain ⟨vm₁, X₁, hstep₁⟩ := X.invokevirtual hexec hown hlink hnamed hmethM hstM hkP hkPi hy (a := b) (cell := cellB) hcell
    (fun z h => by rw [h] at hobj; cases hobj) hselP hmethM habM hkP hkPi (g := g) hg (argsL := argsL) (rest := rest) (hlen _ hsigM) hstack hdg
  rcases hK m meth c ⟨T.setVm vm₁, locs, cells, slots⟩ { g with stack := rest } (.invokevirtual index) mk (Value.ref b :: argsL).toArray X₁ hg hsize hdg hW (X₁.named hnamed) (hpre vm₁ X₁.warmed) with ⟨v, B, X', hpost, hsteps⟩ | ⟨q, B, X', hpost, hsteps⟩
  · exact Or.inl ⟨v, vm₁, B, X₁.warmed, X', hpost, fun target h => hstep₁ _ fun acts => by rw [doInvoke_state]; exact hsteps.trans h⟩
  · exact Or.inr ⟨q, vm₁, B, X₁.warmed, X', hpost, hstep₁ _ fun acts => by rw [doInvoke_state]; exact hsteps⟩
theorem vx_callS (X : Stand p l e R s m args below meth c T locs cells slots) (hexec : p.tables.exec = Jvm.exec) {own : String} {index : Nat} {y : MethodName} {bytes : ByteArray} {maxL : Nat} {ret : Option FieldType}
    (hown : s.vm.findClass own = some m.cls) (hlink : (Cond.methodLink own index y).before args s = true) (hstat : (Cond.static y).before args s = true) (hinit : (Cond.initialized y.cls).before args s = true)
    (hcode : (Cond.code y bytes maxL ret).before args s = true) (hy : y.cls ≠ "java/lang/invoke/MethodHandle" ∧ y.cls ≠ "java/lang/invoke/VarHandle")
    {W9 : Nat} {Pre : Pt → Array Value → Prop} {Post : Pt → Array Value → Option Value → Pt → Prop} {PostX : Pt → Array Value → Addr → Pt → Prop} (hK : vx_Back l R p e below s args y 3 W9 Pre Post PostX)
    {g : JFrame} (hg : g.method = m) (hsize : g.locals.size = c.maxLocals) {argsL rest : List Value} (hlen : ∀ sig, parseMethodDescriptor y.desc = some sig → argsL.length = sig.parameters.length)
    (hstack : g.stack = argsL.reverse ++ rest) (hW : 2 * g.monitorRoom + (rest.map fun v => v.category).sum ≤ W9) (hdg : decode c.code g.pc = .ok (.invokestatic index, 3))
    (hpre : ∀ vm₁, s.WarmedH vm₁ → Pre ⟨T.setVm vm₁, locs, cells, slots⟩ argsL.toArray) :
    (∃ (v : Option Value) (vm₁ : Vm) (B : Pt), s.WarmedH vm₁ ∧ Stand p l e R s m args below meth c B.U B.locs B.cells B.slots ∧ Post ⟨T.setVm vm₁, locs, cells, slots⟩ argsL.toArray v B ∧
      ∀ target, Steps p.tables e below (B.U.setTop { g with pc := g.pc + 3, stack := v.toList ++ rest }) target → Steps p.tables e below (T.setTop g) target) ∨
    (∃ (q : Addr) (vm₁ : Vm) (B : Pt), s.WarmedH vm₁ ∧ Stand p l e R s m args below meth c B.U B.locs B.cells B.slots ∧ PostX ⟨T.setVm vm₁, locs, cells, slots⟩ argsL.toArray q B ∧
      Steps p.tables e below (T.setTop g) ((B.U.setTop { g with stack := rest }).pushFrame (.throwing q))) := by
  obtain ⟨mk, hnamed⟩ := Cond.code_named hcode
  obtain ⟨methM, cM, hmethM, -, -, -, -, -, -, hsigM⟩ := Cond.code_spec hnamed hcode
  have hstatic : methM.isStatic = true := Cond.static_spec hnamed hmethM hstat
  obtain ⟨kP, hkP, -⟩ := className_of_methodNamed hnamed
  have hinitP : kP.init = .initialized := Cond.initialized_spec (findClass_of_methodNamed hnamed) hkP hinit
  obtain ⟨vm₁, X₁, hstep₁⟩ := X.invokestatic hexec hown hlink hnamed hmethM hstatic hkP hinitP hy (g := g) hg (argsL := argsL) (rest := rest) (hlen _ hsigM) hstack hdg
  rcases hK m meth c ⟨T.setVm vm₁, locs, cells, slots⟩ { g with stack := rest } (.invokestatic index) mk argsL.toArray X₁ hg hsize hdg hW (X₁.named hnamed) (hpre vm₁ X₁.warmed) with ⟨v, B, X', hpost, hsteps⟩ | ⟨q, B, X', hpost, hsteps⟩
  · exact Or.inl ⟨v, vm₁, B, X₁.warmed, X', hpost, fun target h => hstep₁ _ fun acts => by rw [doInvoke_state]; exact hsteps.trans h⟩
  · exact Or.inr ⟨q, vm₁, B, X₁.warmed, X', hpost, hstep₁ _ fun acts => by rw [doInvoke_state]; exact hsteps⟩
end Calls
theorem vx_cls {s : State} {T : State} {vm₁ : Vm} {E : String} {k : ClassId} (hW : s.WarmedH vm₁) (h : (T.setVm vm₁).vm.findClass E = some k) : s.vm.findClass E = some k := by
  have h1 : vm₁.findClass E = some k := h
  rw [hW.alike.findClass] at h1
  exact h1
/-- the method's frame g, with q thrown over it -/
def vx_W (p : Program) (l : Launch) (e : Env) (R : Room) (s : State) (m : MethodId) (args : Array Value) (below : List Frame) (meth : Method) (c : Code) (H : Heap) (locs : List Loc) (cells slots : Nat) (Q : State → Prop) (g : JFrame) (q : Addr) : Prop :=
  ∀ T : State, T.heap = H → Stand p l e R s m args below meth c T locs cells slots → ∃ t, Steps p.tables e below ((T.setTop g).pushFrame (.throwing q)) t ∧ Q t
def vx_Run (p : Program) (l : Launch) (e : Env) (R : Room) (s : State) (m : MethodId) (args : Array Value) (below : List Frame) (meth : Method) (c : Code) (H : Heap) (locs : List Loc) (cells slots mc ms : Nat) (g : JFrame) (rest : List Value) (Qa : State → Outcome → State → Prop) (XC : String → State → State → Prop) (free : Addr → Prop) : Prop :=
  ∀ T : State, T.heap = H → Stand p l e R s m args below meth c T locs cells slots →
    (∃ (v : Option Value) (st₀ t T' : State) (L : List Loc), st₀.heap = H ∧ Stand p l e R s m args below meth c T' (locs ++ L) (cells + mc) (slots + ms) ∧ (∀ q ∈ L, free q.base) ∧ T'.heap = t.heap ∧ T'.vm = t.vm ∧ Qa st₀ (.returned v) t ∧
      Goes p e below T g T' { g with pc := g.pc + 3, stack := v.toList ++ rest }) ∨
    (∃ (q : Addr) (st₀ t T' : State) (L : List Loc) (E : String) (ce : Cell), st₀.heap = H ∧ Stand p l e R s m args below meth c T' (locs ++ L) (cells + mc) (slots + ms) ∧ (∀ z ∈ L, free z.base) ∧ T'.heap = t.heap ∧ T'.vm = t.vm ∧ XC E st₀ t ∧ t.heap[q]? = some ce ∧ ce.vm = .none ∧ s.vm.findClass E = some ce.cls ∧
      Steps p.tables e below (T.setTop g) ((T'.setTop { g with stack := rest }).pushFrame (.throwing q)))
def vx_X {S : Type} (px : S → Prop) (B : String → S → State → Prop) (A : Nat → Prop) : String → State → State → Prop := fun E st t => ∃ u : S, px u ∧ B E u t ∧ va_F A st t
section Runs
variable {p : Program} {l : Launch} {e : Env} {R : Room} {s : State} {m : MethodId} {args : Array Value} {below : List Frame} {meth : Method} {c : Code} {H : Heap} {locs : List Loc} {cells slots : Nat}
variable {y : MethodName} {bytes cc : ByteArray} {maxL nL mc ms n index : Nat} {ret : Option FieldType} {ws : List Cond} {rm : Room} {Pc : Array Value → State → Prop} {Qc : Array Value → State → Outcome → State → Prop} {XC : String → State → State → Prop} {free : Addr → Prop} {Ts : List Cond} {own C : String} {b : Addr} {As rest : List Value} {g : JFrame}
theorem vx_callBack (cb : CallB R s args own index y bytes maxL ret ws rm mc ms n) (hM : vx_Met l y ws rm Pc Qc XC mc ms free) (hbl : FrameBlind Pc) : vx_Back l R p e below s args y 3 8 (PreOf R mc ms Pc) (PostOf Qc mc ms free) (vx_Post XC mc ms free) := by
  obtain ⟨hrc, hrs, hfr, hlo, hws, hcw, -, hini, -⟩ := cb
  exact vx_back (bytes := bytes) (maxL := maxL) (ret := ret) hM hbl hrc hrs hfr hlo hws hcw (fun a' U hW => word_at hW (Or.inl (by first | rfl | simp [Cond.onTables, Cond.keeps, Cond.steady])) hini)
theorem vx_runV (S : CallFix p m c cc nL s args Ts own) (hM : vx_Met l y ws rm Pc Qc XC mc ms free) (cw : CallW R s args own C index y bytes maxL ret ws rm mc ms n) (hp : PreV s H C b Pc As)
    (hg : g.method = m) (hn : As.length = n) (hsize : g.locals.size = nL) (hstack : g.stack = As.reverse ++ .ref b :: rest) (hW : 2 * g.monitorRoom + (rest.map fun v => v.category).sum ≤ 8) (hdg : decode cc g.pc = .ok (.invokevirtual index, 3)) (hf : cells + mc ≤ R.cells ∧ slots + ms ≤ R.slots) :
    vx_Run p l e R s m args below meth c H locs cells slots mc ms g rest (Qc (Value.ref b :: As).toArray) XC free := by
  have hK : vx_Back l R p e below s args y 3 8 (PreOf R mc ms Pc) (PostOf Qc mc ms free) (vx_Post XC mc ms free) := vx_callBack cw.1 hM hp.1
  obtain ⟨⟨-, -, -, -, -, -, hcode, -, hy, hlen, hl⟩, hin, hse⟩ := cw
  obtain ⟨hx, hb, hml, ho, -⟩ := S
  obtain ⟨-, ⟨cellB, hcB, hoB, hclB⟩, hPc⟩ := hp
  intro T hT X
  rcases vx_callV X hx (C := C) (bytes := bytes) (maxL := maxL) (ret := ret) ho hl hin hse hcode hy hK (by rw [hT]; exact hcB) hoB hclB hg (hsize.trans hml.symm) (argsL := As) (rest := rest) (fun sig h => hn.trans (hlen sig h)) hstack hW (by rw [hb]; exact hdg)
    (fun vm₁ hW₁ => ⟨hf.1, hf.2, hPc (T.setVm vm₁) hT hW₁⟩) with ⟨v, vm₁, ⟨U', l2, c2, s2⟩, hW₁, X', ⟨g', mk, t, L, e1, e2, hq, h1, hL, h2, h3⟩, st⟩ | ⟨q, vm₁, ⟨U', l2, c2, s2⟩, hW₁, X', ⟨g', mk, t, L, E, ce, e1, e2, hq, hce, hcv, hcl, h1, hL, h2, h3⟩, st⟩
  · dsimp only [Pt.U, Pt.locs, Pt.cells, Pt.slots] at X' e1 e2 h1 h2 h3 st
    subst h1; subst h2; subst h3
    exact Or.inl ⟨v, (T.setVm vm₁).calling g' mk (Value.ref b :: As).toArray, t, U', L, hT, X', hL, e1, e2, hq, st⟩
  · dsimp only [Pt.U, Pt.locs, Pt.cells, Pt.slots] at X' e1 e2 h1 h2 h3 st hcl
    subst h1; subst h2; subst h3
    exact Or.inr ⟨q, (T.setVm vm₁).calling g' mk (Value.ref b :: As).toArray, t, U', L, E, ce, hT, X', hL, e1, e2, hq, hce, hcv, vx_cls hW₁ hcl, st⟩
theorem vx_runS (S : CallFix p m c cc nL s args Ts own) (hM : vx_Met l y ws rm Pc Qc XC mc ms free) (cw : CallB R s args own index y bytes maxL ret ws rm mc ms n ∧ (Cond.static y).before args s = true) (hp : PreS s H Pc As)
    (hg : g.method = m) (hn : As.length = n) (hsize : g.locals.size = nL) (hstack : g.stack = As.reverse ++ rest) (hW : 2 * g.monitorRoom + (rest.map fun v => v.category).sum ≤ 8) (hdg : decode cc g.pc = .ok (.invokestatic index, 3)) (hf : cells + mc ≤ R.cells ∧ slots + ms ≤ R.slots) :
    vx_Run p l e R s m args below meth c H locs cells slots mc ms g rest (Qc As.toArray) XC free := by
  have hK : vx_Back l R p e below s args y 3 8 (PreOf R mc ms Pc) (PostOf Qc mc ms free) (vx_Post XC mc ms free) := vx_callBack cw.1 hM hp.1
  obtain ⟨⟨-, -, -, -, -, -, hcode, hini, hy, hlen, hl⟩, hstt⟩ := cw
  obtain ⟨hx, hb, hml, ho, -⟩ := S
  intro T hT X
  rcases vx_callS X hx (bytes := bytes) (maxL := maxL) (ret := ret) ho hl hstt hini hcode hy hK hg (hsize.trans hml.symm) (argsL := As) (rest := rest) (fun sig h => hn.trans (hlen sig h)) hstack hW (by rw [hb]; exact hdg)
    (fun vm₁ hW₁ => ⟨hf.1, hf.2, hp.2 (T.setVm vm₁) hT hW₁⟩) with ⟨v, vm₁, ⟨U', l2, c2, s2⟩, hW₁, X', ⟨g', mk, t, L, e1, e2, hq, h1, hL, h2, h3⟩, st⟩ | ⟨q, vm₁, ⟨U', l2, c2, s2⟩, hW₁, X', ⟨g', mk, t, L, E, ce, e1, e2, hq, hce, hcv, hcl, h1, hL, h2, h3⟩, st⟩
  · dsimp only [Pt.U, Pt.locs, Pt.cells, Pt.slots] at X' e1 e2 h1 h2 h3 st
    subst h1; subst h2; subst h3
    exact Or.inl ⟨v, (T.setVm vm₁).calling g' mk As.toArray, t, U', L, hT, X', hL, e1, e2, hq, st⟩
  · dsimp only [Pt.U, Pt.locs, Pt.cells, Pt.slots] at X' e1 e2 h1 h2 h3 st hcl
    subst h1; subst h2; subst h3
    exact Or.inr ⟨q, (T.setVm vm₁).calling g' mk As.toArray, t, U', L, E, ce, hT, X', hL, e1, e2, hq, hce, hcv, vx_cls hW₁ hcl, st⟩
end Runs
section Rows
variable {p : Program} {l : Launch} {e : Env} {R : Room} {s : State} {m : MethodId} {args : Array Value} {below : List Frame} {meth : Method} {c : Code} {H : Heap} {locs : List Loc} {cells slots : Nat} {Q : State → Prop}
variable {mc ms : Nat} {free : Addr → Prop} {A0 A1 : Nat → Prop} {H0 : Heap} {a : Array Value} {pc : Nat} {ls : Array Slot} {st0 rest : List Value}
theorem vx_keep {st₀ t T' : State} {L : List Loc} (h0 : st₀.heap = H) (e1 : T'.heap = t.heap) (hS : va_S A0 H0 H locs) (hA : ∀ q, q < H.size → A1 q → A0 q) (hf : ∀ q, free q → A0 q) (hL : ∀ q ∈ L, free q.base) (hF : va_F A1 st₀ t) :
    H.size ≤ T'.heap.size ∧ (∀ q : Nat, q < H.size → ¬ A1 q → T'.heap[q]? = H[q]?) ∧ va_S A0 H0 T'.heap (locs ++ L) := by
  obtain ⟨hz, hk⟩ := hF
  rw [h0] at hz hk
  exact ⟨by rw [e1]; exact hz, fun q h1 h2 => by rw [e1]; exact hk q h1 h2,
    ⟨Nat.le_trans hS.1 (by rw [e1]; exact hz), fun q h1 h2 => by rw [e1, hk q (Nat.lt_of_lt_of_le h1 hS.1) (fun z => h2 (hA q (Nat.lt_of_lt_of_le h1 hS.1) z))]; exact hS.2.1 q h1 h2, fun q hq => by
      rcases List.mem_append.mp hq with h | h
      · exact hS.2.2 q h
      · exact hf _ (hL q h)⟩⟩
theorem vx_calli {S SX : Type} {post : Int32 → S → Prop} {px : SX → Prop} {B : S → State → Prop} {BX : String → SX → State → Prop} {AX : Nat → Prop} (hr : vx_Run p l e R s m args below meth c H locs cells slots mc ms (F0 m pc ls st0) rest (va_Qi post B A1 a) (vx_X px BX AX) free) (hS : va_S A0 H0 H locs) (hA : ∀ q, q < H.size → A1 q → A0 q) (hf : ∀ q, free q → A0 q) (hAX : ∀ q, q < H.size → AX q → A0 q)
    (kx : ∀ (E : String) (ce : Cell) (q9 : Addr) (u : SX) (t : State) (H1 : Heap) (locs1 : List Loc), t.heap = H1 → s.vm.Alike t.vm → px u → BX E u t → H.size ≤ H1.size → (∀ q : Nat, q < H.size → ¬ AX q → H1[q]? = H[q]?) → va_S A0 H0 H1 locs1 → H1[q9]? = some ce → ce.vm = .none → s.vm.findClass E = some ce.cls → vx_W p l e R s m args below meth c H1 locs1 (cells + mc) (slots + ms) Q (F0 m pc ls rest) q9)
    (kk : ∀ (r : Int32) (u : S) (t : State) (H1 : Heap) (locs1 : List Loc), t.heap = H1 → s.vm.Alike t.vm → post r u → B u t → H.size ≤ H1.size → (∀ q : Nat, q < H.size → ¬ A1 q → H1[q]? = H[q]?) → va_S A0 H0 H1 locs1 → W p l e R s m args below meth c H1 locs1 (cells + mc) (slots + ms) Q (F0 m (pc + 3) ls (.int r :: rest))) : W p l e R s m args below meth c H locs cells slots Q (F0 m pc ls st0) := by
  intro T hT X
  rcases hr T hT X with ⟨v, st₀, t, T', L, h0, X', hL, e1, e2, ⟨⟨r, u, hv, hp, hb⟩, hF⟩, st⟩ | ⟨q, st₀, t, T', L, E, ce, h0, X', hL, e1, e2, ⟨u, hp, hb, hF⟩, hce, hcv, hcl, st⟩
  · cases hv
    obtain ⟨k1, k2, k3⟩ := vx_keep h0 e1 hS hA hf hL hF
    obtain ⟨t2, a1, b1⟩ := kk r u t T'.heap (locs ++ L) e1.symm (by rw [← e2]; exact X'.warmed.alike) hp hb k1 k2 k3 T' rfl X'
    exact ⟨t2, st t2 a1, b1⟩
  · obtain ⟨k1, k2, k3⟩ := vx_keep h0 e1 hS hAX hf hL hF
    obtain ⟨t2, a1, b1⟩ := kx E ce q u t T'.heap (locs ++ L) e1.symm (by rw [← e2]; exact X'.warmed.alike) hp hb k1 k2 k3 (by rw [e1]; exact hce) hcv hcl T' rfl X'
    exact ⟨t2, st.trans a1, b1⟩
theorem vx_calll {S SX : Type} {post : Int64 → S → Prop} {px : SX → Prop} {B : S → State → Prop} {BX : String → SX → State → Prop} {AX : Nat → Prop} (hr : vx_Run p l e R s m args below meth c H locs cells slots mc ms (F0 m pc ls st0) rest (va_Ql post B A1 a) (vx_X px BX AX) free) (hS : va_S A0 H0 H locs) (hA : ∀ q, q < H.size → A1 q → A0 q) (hf : ∀ q, free q → A0 q) (hAX : ∀ q, q < H.size → AX q → A0 q)
    (kx : ∀ (E : String) (ce : Cell) (q9 : Addr) (u : SX) (t : State) (H1 : Heap) (locs1 : List Loc), t.heap = H1 → s.vm.Alike t.vm → px u → BX E u t → H.size ≤ H1.size → (∀ q : Nat, q < H.size → ¬ AX q → H1[q]? = H[q]?) → va_S A0 H0 H1 locs1 → H1[q9]? = some ce → ce.vm = .none → s.vm.findClass E = some ce.cls → vx_W p l e R s m args below meth c H1 locs1 (cells + mc) (slots + ms) Q (F0 m pc ls rest) q9)
    (kk : ∀ (r : Int64) (u : S) (t : State) (H1 : Heap) (locs1 : List Loc), t.heap = H1 → s.vm.Alike t.vm → post r u → B u t → H.size ≤ H1.size → (∀ q : Nat, q < H.size → ¬ A1 q → H1[q]? = H[q]?) → va_S A0 H0 H1 locs1 → W p l e R s m args below meth c H1 locs1 (cells + mc) (slots + ms) Q (F0 m (pc + 3) ls (.long r :: rest))) : W p l e R s m args below meth c H locs cells slots Q (F0 m pc ls st0) := by
  intro T hT X
  rcases hr T hT X with ⟨v, st₀, t, T', L, h0, X', hL, e1, e2, ⟨⟨r, u, hv, hp, hb⟩, hF⟩, st⟩ | ⟨q, st₀, t, T', L, E, ce, h0, X', hL, e1, e2, ⟨u, hp, hb, hF⟩, hce, hcv, hcl, st⟩
  · cases hv
    obtain ⟨k1, k2, k3⟩ := vx_keep h0 e1 hS hA hf hL hF
    obtain ⟨t2, a1, b1⟩ := kk r u t T'.heap (locs ++ L) e1.symm (by rw [← e2]; exact X'.warmed.alike) hp hb k1 k2 k3 T' rfl X'
    exact ⟨t2, st t2 a1, b1⟩
  · obtain ⟨k1, k2, k3⟩ := vx_keep h0 e1 hS hAX hf hL hF
    obtain ⟨t2, a1, b1⟩ := kx E ce q u t T'.heap (locs ++ L) e1.symm (by rw [← e2]; exact X'.warmed.alike) hp hb k1 k2 k3 (by rw [e1]; exact hce) hcv hcl T' rfl X'
    exact ⟨t2, st.trans a1, b1⟩
theorem vx_callf {S SX : Type} {post : UInt32 → S → Prop} {px : SX → Prop} {B : S → State → Prop} {BX : String → SX → State → Prop} {AX : Nat → Prop} (hr : vx_Run p l e R s m args below meth c H locs cells slots mc ms (F0 m pc ls st0) rest (va_Qf post B A1 a) (vx_X px BX AX) free) (hS : va_S A0 H0 H locs) (hA : ∀ q, q < H.size → A1 q → A0 q) (hf : ∀ q, free q → A0 q) (hAX : ∀ q, q < H.size → AX q → A0 q)
    (kx : ∀ (E : String) (ce : Cell) (q9 : Addr) (u : SX) (t : State) (H1 : Heap) (locs1 : List Loc), t.heap = H1 → s.vm.Alike t.vm → px u → BX E u t → H.size ≤ H1.size → (∀ q : Nat, q < H.size → ¬ AX q → H1[q]? = H[q]?) → va_S A0 H0 H1 locs1 → H1[q9]? = some ce → ce.vm = .none → s.vm.findClass E = some ce.cls → vx_W p l e R s m args below meth c H1 locs1 (cells + mc) (slots + ms) Q (F0 m pc ls rest) q9)
    (kk : ∀ (r : UInt32) (u : S) (t : State) (H1 : Heap) (locs1 : List Loc), t.heap = H1 → s.vm.Alike t.vm → post r u → B u t → H.size ≤ H1.size → (∀ q : Nat, q < H.size → ¬ A1 q → H1[q]? = H[q]?) → va_S A0 H0 H1 locs1 → W p l e R s m args below meth c H1 locs1 (cells + mc) (slots + ms) Q (F0 m (pc + 3) ls (.float r :: rest))) : W p l e R s m args below meth c H locs cells slots Q (F0 m pc ls st0) := by
  intro T hT X
  rcases hr T hT X with ⟨v, st₀, t, T', L, h0, X', hL, e1, e2, ⟨⟨r, u, hv, hp, hb⟩, hF⟩, st⟩ | ⟨q, st₀, t, T', L, E, ce, h0, X', hL, e1, e2, ⟨u, hp, hb, hF⟩, hce, hcv, hcl, st⟩
  · cases hv
    obtain ⟨k1, k2, k3⟩ := vx_keep h0 e1 hS hA hf hL hF
    obtain ⟨t2, a1, b1⟩ := kk r u t T'.heap (locs ++ L) e1.symm (by rw [← e2]; exact X'.warmed.alike) hp hb k1 k2 k3 T' rfl X'
    exact ⟨t2, st t2 a1, b1⟩
  · obtain ⟨k1, k2, k3⟩ := vx_keep h0 e1 hS hAX hf hL hF
    obtain ⟨t2, a1, b1⟩ := kx E ce q u t T'.heap (locs ++ L) e1.symm (by rw [← e2]; exact X'.warmed.alike) hp hb k1 k2 k3 (by rw [e1]; exact hce) hcv hcl T' rfl X'
    exact ⟨t2, st.trans a1, b1⟩
theorem vx_calld {S SX : Type} {post : UInt64 → S → Prop} {px : SX → Prop} {B : S → State → Prop} {BX : String → SX → State → Prop} {AX : Nat → Prop} (hr : vx_Run p l e R s m args below meth c H locs cells slots mc ms (F0 m pc ls st0) rest (va_Qd post B A1 a) (vx_X px BX AX) free) (hS : va_S A0 H0 H locs) (hA : ∀ q, q < H.size → A1 q → A0 q) (hf : ∀ q, free q → A0 q) (hAX : ∀ q, q < H.size → AX q → A0 q)
    (kx : ∀ (E : String) (ce : Cell) (q9 : Addr) (u : SX) (t : State) (H1 : Heap) (locs1 : List Loc), t.heap = H1 → s.vm.Alike t.vm → px u → BX E u t → H.size ≤ H1.size → (∀ q : Nat, q < H.size → ¬ AX q → H1[q]? = H[q]?) → va_S A0 H0 H1 locs1 → H1[q9]? = some ce → ce.vm = .none → s.vm.findClass E = some ce.cls → vx_W p l e R s m args below meth c H1 locs1 (cells + mc) (slots + ms) Q (F0 m pc ls rest) q9)
    (kk : ∀ (r : UInt64) (u : S) (t : State) (H1 : Heap) (locs1 : List Loc), t.heap = H1 → s.vm.Alike t.vm → post r u → B u t → H.size ≤ H1.size → (∀ q : Nat, q < H.size → ¬ A1 q → H1[q]? = H[q]?) → va_S A0 H0 H1 locs1 → W p l e R s m args below meth c H1 locs1 (cells + mc) (slots + ms) Q (F0 m (pc + 3) ls (.double r :: rest))) : W p l e R s m args below meth c H locs cells slots Q (F0 m pc ls st0) := by
  intro T hT X
  rcases hr T hT X with ⟨v, st₀, t, T', L, h0, X', hL, e1, e2, ⟨⟨r, u, hv, hp, hb⟩, hF⟩, st⟩ | ⟨q, st₀, t, T', L, E, ce, h0, X', hL, e1, e2, ⟨u, hp, hb, hF⟩, hce, hcv, hcl, st⟩
  · cases hv
    obtain ⟨k1, k2, k3⟩ := vx_keep h0 e1 hS hA hf hL hF
    obtain ⟨t2, a1, b1⟩ := kk r u t T'.heap (locs ++ L) e1.symm (by rw [← e2]; exact X'.warmed.alike) hp hb k1 k2 k3 T' rfl X'
    exact ⟨t2, st t2 a1, b1⟩
  · obtain ⟨k1, k2, k3⟩ := vx_keep h0 e1 hS hAX hf hL hF
    obtain ⟨t2, a1, b1⟩ := kx E ce q u t T'.heap (locs ++ L) e1.symm (by rw [← e2]; exact X'.warmed.alike) hp hb k1 k2 k3 (by rw [e1]; exact hce) hcv hcl T' rfl X'
    exact ⟨t2, st.trans a1, b1⟩
theorem vx_callv {S SX : Type} {post : S → Prop} {px : SX → Prop} {B : S → State → Prop} {BX : String → SX → State → Prop} {AX : Nat → Prop} (hr : vx_Run p l e R s m args below meth c H locs cells slots mc ms (F0 m pc ls st0) rest (va_Qv post B A1 a) (vx_X px BX AX) free) (hS : va_S A0 H0 H locs) (hA : ∀ q, q < H.size → A1 q → A0 q) (hf : ∀ q, free q → A0 q) (hAX : ∀ q, q < H.size → AX q → A0 q)
    (kx : ∀ (E : String) (ce : Cell) (q9 : Addr) (u : SX) (t : State) (H1 : Heap) (locs1 : List Loc), t.heap = H1 → s.vm.Alike t.vm → px u → BX E u t → H.size ≤ H1.size → (∀ q : Nat, q < H.size → ¬ AX q → H1[q]? = H[q]?) → va_S A0 H0 H1 locs1 → H1[q9]? = some ce → ce.vm = .none → s.vm.findClass E = some ce.cls → vx_W p l e R s m args below meth c H1 locs1 (cells + mc) (slots + ms) Q (F0 m pc ls rest) q9)
    (kk : ∀ (u : S) (t : State) (H1 : Heap) (locs1 : List Loc), t.heap = H1 → s.vm.Alike t.vm → post u → B u t → H.size ≤ H1.size → (∀ q : Nat, q < H.size → ¬ A1 q → H1[q]? = H[q]?) → va_S A0 H0 H1 locs1 → W p l e R s m args below meth c H1 locs1 (cells + mc) (slots + ms) Q (F0 m (pc + 3) ls (rest))) : W p l e R s m args below meth c H locs cells slots Q (F0 m pc ls st0) := by
  intro T hT X
  rcases hr T hT X with ⟨v, st₀, t, T', L, h0, X', hL, e1, e2, ⟨⟨u, hv, hp, hb⟩, hF⟩, st⟩ | ⟨q, st₀, t, T', L, E, ce, h0, X', hL, e1, e2, ⟨u, hp, hb, hF⟩, hce, hcv, hcl, st⟩
  · cases hv
    obtain ⟨k1, k2, k3⟩ := vx_keep h0 e1 hS hA hf hL hF
    obtain ⟨t2, a1, b1⟩ := kk u t T'.heap (locs ++ L) e1.symm (by rw [← e2]; exact X'.warmed.alike) hp hb k1 k2 k3 T' rfl X'
    exact ⟨t2, st t2 a1, b1⟩
  · obtain ⟨k1, k2, k3⟩ := vx_keep h0 e1 hS hAX hf hL hF
    obtain ⟨t2, a1, b1⟩ := kx E ce q u t T'.heap (locs ++ L) e1.symm (by rw [← e2]; exact X'.warmed.alike) hp hb k1 k2 k3 (by rw [e1]; exact hce) hcv hcl T' rfl X'
    exact ⟨t2, st.trans a1, b1⟩
end Rows
section Ends
variable {p : Program} {l : Launch} {e : Env} {R : Room} {s : State} {m : MethodId} {args : Array Value} {below : List Frame} {meth : Method} {c : Code} {H : Heap} {locs : List Loc} {cells slots : Nat} {Q : State → Prop}
variable {mc ms : Nat} {free : Addr → Prop} {A0 A1 : Nat → Prop} {H0 : Heap} {a : Array Value} {ls : Array Slot} {st0 rest : List Value}
variable {Qc : Array Value → State → Outcome → State → Prop} {XC : String → State → State → Prop}
/-- what a body that may throw owes at its end -/
def vx_MQ (below : List Frame) (Qc : Array Value → State → Outcome → State → Prop) (XC : String → State → State → Prop) (a : Array Value) (s : State) (mc ms : Nat) (free : Addr → Prop) : State → Prop := fun t =>
  ∃ o, t.status = .running ∧ Ended t below o ∧ vx_Q Qc XC mc ms free a s o t
theorem vx_ret {g : JFrame} {mc ms : Nat} (k : W p l e R s m args below meth c H locs cells slots (MQ below Qc args s mc ms free) g) : W p l e R s m args below meth c H locs cells slots (vx_MQ below Qc XC args s mc ms free) g := by
  intro T hT X
  obtain ⟨t, a1, o, b1, b2, b3, b4⟩ := k T hT X
  exact ⟨t, a1, o, b1, b2, Or.inl ⟨b3, b4⟩⟩
/-- not caught here: it goes on to the caller -/
theorem vx_widen {g : JFrame} {q : Addr} {k n : Nat} (h1 : cells ≤ k) (h2 : slots ≤ n) (kk : vx_W p l e R s m args below meth c H locs k n Q g q) : vx_W p l e R s m args below meth c H locs cells slots Q g q := fun T hT X => kk T hT (stand_widen X h1 h2)
theorem vx_out {pc : Nat} {E : String} {ce : Cell} {q : Addr} {mc ms : Nat} (hout : ∀ x ∈ c.exceptionTable.toList, covers x pc = false) (hlocks : meth.locks = false) (hcell : H[q]? = some ce) (hv : ce.vm = .none) (hcl : s.vm.findClass E = some ce.cls)
    (hx : ∀ t : State, t.heap = H → s.vm.Alike t.vm → XC E s t) (hf : ∀ z ∈ locs, free z.base) (hc : cells ≤ mc) (hs : slots ≤ ms) :
    vx_W p l e R s m args below meth c H locs cells slots (vx_MQ below Qc XC args s mc ms free) (F0 m pc ls rest) q := by
  intro T hT X
  obtain ⟨st1, hrun, hend, hW, hsm⟩ := X.leaveThrown q (g := F0 m pc ls rest) rfl rfl rfl hout hlocks
  have hcell9 : (T.setFrames (.throwing q :: below)).heap[q]? = some ce := by
    show T.heap[q]? = some ce
    rw [hT]; exact hcell
  exact ⟨_, st1, .threw q, hrun, hend, Or.inr ⟨q, rfl, E, ce, locs, hx _ hT hW.alike, hcell9, hv, hcl, hW, hsm.mono hc hs, hf⟩⟩
theorem vx_frame {U : State} {k n : Nat} (h : s.sameButNew ({ U with vm := s.vm } : State) locs k n) : s.heap.size ≤ U.heap.size ∧ ∀ q : Nat, q < s.heap.size → (∀ z ∈ locs, z.base ≠ q) → U.heap[q]? = s.heap[q]? := by
  obtain ⟨-, h2, -, -, -, h6⟩ := h
  refine ⟨h2, fun q hq hz => ?_⟩
  obtain ⟨c9, e1, e2, e3, e4⟩ := h6 q _ (Array.getElem?_eq_getElem hq)
  have hs : c9.slots = (s.heap[q]).slots := Array.ext_getElem? fun i => e4 i fun hm => hz _ hm rfl
  have h9 : c9 = s.heap[q] := by
    rw [hs] at e2
    exact e2
  have e5 : U.heap[q]? = some c9 := e1
  rw [e5, h9, Array.getElem?_eq_getElem hq]
/-- the words of a throw but the four that speak of the heap -/
def vx_no (w : Cond) : Bool := decide (w ≠ .isRef (.static Bundle.tN "UNASSIGNED_STACK" Bundle.steD)) && decide (w ≠ .isRef (.static Bundle.tN "SUPPRESSED_SENTINEL" Bundle.listD)) && decide (w ≠ .laysStatic Bundle.tN "UNASSIGNED_STACK" Bundle.steD) && decide (w ≠ .laysStatic Bundle.tN "SUPPRESSED_SENTINEL" Bundle.listD)
def vx_at0 (own : String) (ic : Nat) (X : String) (names : List String) : List Cond := (Bundle.ownAtoms0 own ic X names).filter vx_no
def vx_atS (own : String) (ic : Nat) (X : String) (names : List String) : List Cond := (Bundle.ownAtoms own ic X names).filter vx_no
/-- a word that the tables alone decide, or a good one -/
def vx_ot (w : Cond) : Bool := w.onTables || goodWord w
theorem vx_ot_at {args a' : Array Value} {s U : State} {w : Cond} (hW : s.WarmedH U.vm) (hvm : s.vm = U.vm) (hg : vx_ot w = true) (h : w.before args s = true) : w.before a' U = true := by
  simp only [vx_ot, Bool.or_eq_true] at hg
  rcases hg with hg | hg
  · exact va_tabs hg hvm h
  · exact word_at hW (good_of_word hg) h
/-- a list's words: the good ones out of the method's own list, the others by premises of their own -/
theorem vx_hat {args : Array Value} {s : State} {L B : List Cond} (h1 : ∀ w ∈ L.filter goodWord, w.before args s = true) (h2 : ∀ w ∈ L.filter (fun w => !goodWord w), w ∈ B) (h3 : ∀ w ∈ B, w.before args s = true) : ∀ w ∈ L, w.before args s = true := by
  intro w hw
  by_cases g : goodWord w = true
  · exact h1 w (List.mem_filter.mpr ⟨hw, g⟩)
  · refine h3 w (h2 w (List.mem_filter.mpr ⟨hw, ?_⟩))
    show (!goodWord w) = true
    cases hgw : goodWord w
    · rfl
    · exact absurd hgw g
theorem vx_c {args : Array Value} {s : State} {w : Cond} {B : List Cond} (h : w.before args s = true) (t : ∀ w ∈ B, w.before args s = true) : ∀ w' ∈ w :: B, w'.before args s = true := fun w' h' => (List.mem_cons.mp h').elim (fun e => by rw [e]; exact h) (t w')
theorem vx_n {args : Array Value} {s : State} : ∀ w ∈ ([] : List Cond), w.before args s = true := fun _ h => nomatch h
theorem vx_own {args : Array Value} {s : State} {L : List Cond} (h1 : ∀ w ∈ L.filter vx_no, w.before args s = true)
    (hU : (Cond.isRef (.static Bundle.tN "UNASSIGNED_STACK" Bundle.steD)).before args s = true) (hN : (Cond.isRef (.static Bundle.tN "SUPPRESSED_SENTINEL" Bundle.listD)).before args s = true)
    (lU : (Cond.laysStatic Bundle.tN "UNASSIGNED_STACK" Bundle.steD).before args s = true) (lN : (Cond.laysStatic Bundle.tN "SUPPRESSED_SENTINEL" Bundle.listD).before args s = true) : ∀ w ∈ L, w.before args s = true := by
  intro w hw
  by_cases e1 : w = .isRef (.static Bundle.tN "UNASSIGNED_STACK" Bundle.steD)
  · rw [e1]; exact hU
  · by_cases e2 : w = .isRef (.static Bundle.tN "SUPPRESSED_SENTINEL" Bundle.listD)
    · rw [e2]; exact hN
    · by_cases e3 : w = .laysStatic Bundle.tN "UNASSIGNED_STACK" Bundle.steD
      · rw [e3]; exact lU
      · by_cases e4 : w = .laysStatic Bundle.tN "SUPPRESSED_SENTINEL" Bundle.listD
        · rw [e4]; exact lN
        · exact h1 w (List.mem_filter.mpr ⟨hw, by unfold vx_no; rw [decide_eq_true e1, decide_eq_true e2, decide_eq_true e3, decide_eq_true e4]; rfl⟩)
/-- where a static field lies, its class's statics cell in H -/
def vx_L (C n d : String) (A : Nat → Prop) (U : State) (H : Heap) : Prop := ∃ (c : ClassId) (k : Class) (i : Nat) (f : Field) (a : Nat) (cell : Cell), U.vm.findClass C = some c ∧ U.fieldFound? C n d = some (c, k, i, f) ∧ f.isStatic = true ∧ k.statics = some a ∧ H[a]? = some cell ∧ cell.vm.isStatics = true ∧ cell.cls = c ∧ f.slot < cell.slots.size ∧ k.staticTypes[f.slot]? = some f.type ∧ ¬ A a
theorem vx_L.moved {C n d : String} {A : Nat → Prop} {u U : State} {H : Heap} (hvm : u.vm.Alike U.vm) (h : vx_L C n d A u H) : vx_L C n d A U H := by
  obtain ⟨c, k, i, f, a, cell, h1, h2, h3, h4, h5, h6, h7, h8, h9, h10⟩ := h
  obtain ⟨k', hi', he⟩ := State.fieldFound?_setVm hvm h2
  exact ⟨c, k', i, f, a, cell, by rw [hvm.findClass]; exact h1, hi', h3, by rw [he]; exact h4, h5, h6, h7, h8, by rw [he]; exact h9, h10⟩
theorem vx_L.kept {C n d : String} {A : Nat → Prop} {U : State} {H H1 : Heap} (h : vx_L C n d A U H) (hq : ∀ a : Nat, a < H.size → ¬ A a → H1[a]? = H[a]?) : vx_L C n d A U H1 := by
  obtain ⟨c, k, i, f, a, cell, h1, h2, h3, h4, h5, h6, h7, h8, h9, h10⟩ := h
  exact ⟨c, k, i, f, a, cell, h1, h2, h3, h4, by rw [hq a (Array.getElem?_eq_some_iff.mp h5).1 h10]; exact h5, h6, h7, h8, h9, h10⟩
theorem vx_L.narrow {C n d : String} {A B : Nat → Prop} {U : State} {H : Heap} (h : vx_L C n d A U H) (hAB : ∀ q, B q → A q) : vx_L C n d B U H := by
  obtain ⟨c, k, i, f, a, cell, h1, h2, h3, h4, h5, h6, h7, h8, h9, h10⟩ := h
  exact ⟨c, k, i, f, a, cell, h1, h2, h3, h4, h5, h6, h7, h8, h9, fun z => h10 (hAB _ z)⟩
theorem vx_L.word {C n d : String} {A : Nat → Prop} {s : State} {args : Array Value} (h : vx_L C n d A s s.heap) : (Cond.laysStatic C n d).before args s = true := by
  obtain ⟨c, k, i, f, a, cell, h1, h2, h3, h4, h5, h6, h7, h8, h9, -⟩ := h
  show (Cond.laysStatic C n d).holds args s none s [] = true
  exact Cond.laysStatic_of h1 h2 h3 h4 h5 h6 h7 h8 h9
/-- .. and what it holds: null or some reference -/
def vx_Zq (C n d : String) (A : Nat → Prop) (U : State) (H : Heap) : Prop := va_Zq C n d A U H ∧ vx_L C n d A U H
theorem vx_Zq.moved {C n d : String} {A : Nat → Prop} {u U : State} {H : Heap} (hvm : u.vm.Alike U.vm) (h : vx_Zq C n d A u H) : vx_Zq C n d A U H := ⟨va_Zq.moved hvm h.1, vx_L.moved hvm h.2⟩
theorem vx_Zq.kept {C n d : String} {A : Nat → Prop} {U : State} {H H1 : Heap} (h : vx_Zq C n d A U H) (hq : ∀ a : Nat, a < H.size → ¬ A a → H1[a]? = H[a]?) : vx_Zq C n d A U H1 := ⟨va_Zq.kept h.1 hq, vx_L.kept h.2 hq⟩
theorem vx_Zq.narrow {C n d : String} {A B : Nat → Prop} {U : State} {H : Heap} (h : vx_Zq C n d A U H) (hAB : ∀ q, B q → A q) : vx_Zq C n d B U H := ⟨va_Zq.narrow h.1 hAB, vx_L.narrow h.2 hAB⟩
theorem vx_Zqof {args : Array Value} {s : State} {C n d : String} {A : Nat → Prop} (hl : (Cond.laysStatic C n d).before args s = true) (hini : (Cond.initialized C).before args s = true) (h : (Cond.isRef (.static C n d)).before args s = true) (hA : ∀ a : Nat, a < s.heap.size → ¬ A a) : vx_Zq C n d A s s.heap := by
  refine ⟨va_Zqof hl hini h hA, ?_⟩
  obtain ⟨c, k, i, f, a, cell, h1, h2, h3, h4, h5, h6, h7, h8, h9⟩ := Cond.laysStatic_spec hl
  exact ⟨c, k, i, f, a, cell, h1, h2, h3, h4, h5, h6, h7, h8, h9, hA a (Array.getElem?_eq_some_iff.mp h5).1⟩
theorem vx_isRef {C n d : String} {v : Value} {A : Nat → Prop} {s : State} {args : Array Value} (h : va_Z C n d v A s s.heap) (hv : v.isRef = true) : (Cond.isRef (.static C n d)).before args s = true := by
  obtain ⟨cf, kf, fi, f, a, cell, h1, h2, h3, h4, h5, h6, h7, -⟩ := h
  have he : (Term.static C n d).eval args s none [] s = some v := by
    simp [Term.eval, State.fieldNamed?, h1, h2, h4, h5, h6, h7]
  simp only [Cond.before, Cond.holds, Cond.value, he]
  cases v <;> simp_all [Value.isRef]
theorem vx_isRefq {C n d : String} {A : Nat → Prop} {s : State} {args : Array Value} (h : va_Zq C n d A s s.heap) : (Cond.isRef (.static C n d)).before args s = true := by
  rcases h with h | ⟨t, h⟩
  · exact vx_isRef h rfl
  · exact vx_isRef h rfl
/-- the same frame, seen from here: as if the method were called anew in this heap -/
theorem vx_rebase {T : State} (X : Stand p l e R s m args below meth c T locs cells slots) {R' : Room} (hf : R'.frames ≤ R.frames) (hl : R'.locals ≤ R.locals) (hc : cells + R'.cells ≤ R.cells) (hs : slots + R'.slots ≤ R.slots) :
    Stand p l e R' ((T.setVm s.vm).setFrames (.invoking m args :: below)) m args below meth c T [] 0 0 := by
  have htop : (T.setVm s.vm).topJava?.isSome := X.here.top
  have hF : ((T.setVm s.vm).setFrames (.invoking m args :: below)).frames = .invoking m args :: below := State.frames_setFrames _ (State.cur_lt_of_top htop)
  obtain ⟨g₀, hg0⟩ := Option.isSome_iff_exists.mp htop
  obtain ⟨r, hr⟩ := State.topJava?_eq_some.mp hg0
  have hl9 : e.platform.stackLimits (T.setVm s.vm).me = e.platform.stackLimits s.me := X.limits
  have hb9 : (T.setVm s.vm).me.stackBytes = s.me.stackBytes := X.bytes
  refine ⟨X.admits, X.cas, X.clock, hF, ?_, X.hears, X.method, X.code, X.here, X.tail, X.warmed, ?_, ?_, ?_⟩
  · have h := X.room
    have hU : ((T.setVm s.vm).setFrames (.invoking m args :: below)).localsInUse = s.localsInUse := by
      rw [State.localsInUse_invoking hF (meth := meth) (c := c) X.method X.code, State.localsInUse_invoking X.frames X.method X.code]
    simp only [State.hasRoom, Bool.and_eq_true, decide_eq_true_eq] at h ⊢
    obtain ⟨⟨⟨⟨h1, h2, h3, h4, h5, h6⟩, h7⟩, h8⟩, h9⟩ := h
    rw [X.frames, List.length_cons] at h2 h3
    have q1 := X.heapSize
    have q2 := X.used
    simp only [hF, hU, List.length_cons, State.stackLimits_setFrames, State.stackBytes_setFrames, hl9, hb9]
    refine ⟨⟨⟨⟨by omega, by omega, by omega, by omega, by omega, h6⟩, ?_⟩, ?_⟩, X.book⟩
    · show T.heap.size + R'.cells ≤ e.platform.maxCells
      omega
    · show T.slotsUsed + R'.slots ≤ e.platform.maxSlots
      omega
  · rw [State.stackLimits_setFrames]; rfl
  · rw [State.stackBytes_setFrames]; rfl
  · refine ⟨?_, Nat.le_refl _, Nat.le_refl _, ?_, ?_, fun a c9 h9 => ⟨c9, h9, rfl, rfl, fun _ _ => rfl⟩⟩
    · obtain ⟨t, ht, -⟩ := State.frames_cons hr
      show T.setVm s.vm = { ((T.setVm s.vm).setFrames (.invoking m args :: below)).setFrames (T.setVm s.vm).frames with heap := T.heap, slotsUsed := T.slotsUsed }
      rw [State.setFrames_setFrames, State.setFrames_self ht]
      rfl
    · show T.slotsUsed = T.slotsUsed + ((T.heap.toList.drop T.heap.size).map (·.slots.size)).sum
      rw [List.drop_eq_nil_of_le (Nat.le_of_eq Array.length_toList)]
      rfl
    · show ((T.heap.toList.drop T.heap.size).map (·.slots.size)).sum ≤ 0
      rw [List.drop_eq_nil_of_le (Nat.le_of_eq Array.length_toList)]
      exact Nat.le_refl _
/-- 'throw new E()': new; dup; invokespecial; athrow -/
theorem vx_throw0 {cc : ByteArray} {pc : Nat} (hexec : p.tables.exec = Jvm.exec) (hb : c.code = cc) (hl : l.stackTraces = false) {own cls : String} {names : List String} {ik ic mc ms : Nat} {A : Nat → Prop}
    (hown : s.vm.findClass own = some m.cls) (hcls : Bundle.fit cls = true) (hnames : ∀ n ∈ names, Bundle.fit n = true)
    (hk : (Cond.classLink own ik cls).before args s = true) (hini : (Cond.initialized cls).before args s = true) (hat : ∀ w ∈ vx_at0 own ic cls names, w.before args s = true)
    (hgood : ∀ w ∈ Cond.classLink own ik cls :: Cond.initialized cls :: vx_at0 own ic cls names, vx_ot w = true)
    (hU : vx_Zq Bundle.tN "UNASSIGNED_STACK" Bundle.steD A s s.heap) (hN : vx_Zq Bundle.tN "SUPPRESSED_SENTINEL" Bundle.listD A s s.heap) (hS : va_S A s.heap H locs) (hsize : ls.size = c.maxLocals)
    (d0 : decode cc pc = .ok (.new ik, 3)) (d3 : decode cc (pc + 3) = .ok (.dup, 1)) (d4 : decode cc (pc + 4) = .ok (.invokespecial ic, 3)) (d7 : decode cc (pc + 7) = .ok (.athrow, 1))
    (hout : ∀ x ∈ c.exceptionTable.toList, covers x (pc + 7) = false)
    (hRframes : names.length + 3 < R.frames) (hRlocals : (rest.map fun v => v.category).sum + (13 * (names.length + 1) + 42) ≤ R.locals) (hRcells : cells + 1 ≤ R.cells) (hRslots : slots + 6 ≤ R.slots) (hlocks : meth.locks = false)
    (hx : ∀ t : State, s.vm.Alike t.vm → H.size ≤ t.heap.size → (∀ q : Nat, q < H.size → t.heap[q]? = H[q]?) → XC cls s t)
    (hf : ∀ z ∈ locs, free z.base) (hc : cells + 1 ≤ mc) (hs : slots + 6 ≤ ms) :
    W p l e R s m args below meth c H locs cells slots (vx_MQ below Qc XC args s mc ms free) (F0 m pc ls rest) := by
  intro T hT X
  have htr : e.platform.stackTraces = false := (show e.platform.stackTraces = l.stackTraces by rw [X.admits.platform]).trans hl
  have Y := vx_rebase X (R' := { frames := R.frames, locals := R.locals, cells := 1, slots := 6 }) (Nat.le_refl _) (Nat.le_refl _) hRcells hRslots
  obtain ⟨s', hA⟩ : ∃ z, z = (T.setVm s.vm).setFrames (.invoking m args :: below) := ⟨_, rfl⟩
  rw [← hA] at Y
  have hvm : s'.vm = s.vm := by rw [hA]; rfl
  have hhp : s'.heap = H := by rw [hA]; exact hT
  have hW0 : s.WarmedH s'.vm := by rw [hvm]; exact State.WarmedH.refl s
  have hat' : ∀ w ∈ vx_at0 own ic cls names, w.before args s' = true := fun w hw => vx_ot_at hW0 hvm.symm (hgood w (List.mem_cons_of_mem _ (List.mem_cons_of_mem _ hw))) (hat w hw)
  have hk' : (Cond.classLink own ik cls).before args s' = true := vx_ot_at hW0 hvm.symm (hgood _ List.mem_cons_self) hk
  have hini' : (Cond.initialized cls).before args s' = true := vx_ot_at hW0 hvm.symm (hgood _ (List.mem_cons_of_mem _ List.mem_cons_self)) hini
  have hU' : vx_Zq Bundle.tN "UNASSIGNED_STACK" Bundle.steD A s' s'.heap := by rw [hhp]; exact vx_Zq.moved hW0.alike (hU.kept hS.2.1)
  have hN' : vx_Zq Bundle.tN "SUPPRESSED_SENTINEL" Bundle.listD A s' s'.heap := by rw [hhp]; exact vx_Zq.moved hW0.alike (hN.kept hS.2.1)
  have h : ∀ w ∈ Bundle.ownAtoms0 own ic cls names, w.before args s' = true := vx_own hat' (vx_isRefq hU'.1) (vx_isRefq hN'.1) hU'.2.word hN'.2.word
  have hown' : s'.vm.findClass own = some m.cls := by rw [hvm]; exact hown
  have hins : (Cond.instantiable cls 6).before args s' = true := h _ (by simp [Bundle.ownAtoms0])
  obtain ⟨vm₁, cX, kX, hfX, hkX, -, -, X₁, st1⟩ := Y.newCold hexec (own := own) (C := cls) (index := ik) (n := 6) hown' hk' hins hini'
    (g := F0 m pc ls rest) rfl (by rw [hb]; exact d0) (Nat.le_refl _) (Nat.le_refl _)
  generalize hT1 : (T.setVm vm₁).pushCell { cls := cX, slots := kX.instanceTypes.map defaultValue, vm := .none } = T1 at X₁ st1
  have hcat : (Value.ref T.heap.size).category = 1 := rfl
  have hcellA : T1.heap[T.heap.size]? = some (freshCell cX kX) := by rw [← hT1]; exact State.heap_pushCell_size _ _
  have d3' : decode c.code (pc + 3) = .ok (.dup, 1) := by rw [hb]; exact d3
  obtain ⟨U, hsteps, hrun, hend, hW, hsame, ce, hce, hO⟩ := X₁.ctorThrow0 hexec htr (own := own) (cls := cls) (names := names) (ic := ic) hown' hcls hnames h (fun x hx => nomatch hx) hfX hkX hcellA (by rw [hhp, hT]; exact Nat.le_refl _)
    (g := { method := m, pc := pc + 4, locals := ls, stack := .ref T.heap.size :: .ref T.heap.size :: rest, locked := none }) rfl hsize rfl rfl (rest := rest) rfl
    (by rw [hb]; exact d4) (by rw [hb]; exact d7) hout hRframes (by simp only [List.map_cons, List.sum_cons, hcat]; omega) hlocks
  obtain ⟨f1, f2⟩ := vx_frame hsame
  rw [hhp] at f1 f2
  have hWs : s.WarmedH U.vm := State.WarmedH.trans hW0 hW
  have hcl : s.vm.findClass cls = some ce.cls := by
    have h9 := hO.cls
    rw [hvm] at h9
    exact h9
  have hall : s.sameButNew ({ U with vm := s.vm } : State) locs mc ms := by
    subst hA
    obtain ⟨e1, e2⟩ := hsame
    rw [State.setFrames_setFrames] at e1
    have h2 : (T.setVm s.vm).sameButNew ({ U with vm := s.vm } : State) [] (0 + 1) (0 + 6) := ⟨e1, e2⟩
    have h3 := X.same.trans h2
    rw [List.append_nil] at h3
    exact h3.mono hc hs
  refine ⟨U, ?_, .threw T.heap.size, hrun, hend, Or.inr ⟨T.heap.size, rfl, cls, ce, locs, hx U hWs.alike f1 (fun q hq => f2 q hq (fun z hz => nomatch hz)), hce, hO.vm, hcl, hWs, hall, hf⟩⟩
  refine st1 _ ?_
  show Steps p.tables e below (T1.setTop { method := m, pc := pc + 3, locals := ls, stack := .ref T.heap.size :: rest, locked := none }) _
  jvm_step X₁.here [X₁.here.top, hexec, d3', Value.category]
  exact hsteps
/-- 'throw new E("text")': new; dup; ldc; invokespecial; athrow -/
theorem vx_throwS {cc : ByteArray} {pc : Nat} (hexec : p.tables.exec = Jvm.exec) (hb : c.code = cc) (hl : l.stackTraces = false) {own cls text : String} {names : List String} {ik is ic mc ms sa : Nat} {A : Nat → Prop}
    (hown : s.vm.findClass own = some m.cls) (hcls : Bundle.fit cls = true) (hnames : ∀ n ∈ names, Bundle.fit n = true)
    (hk : (Cond.classLink own ik cls).before args s = true) (hini : (Cond.initialized cls).before args s = true) (hstr : vk_R own is text sa s) (hat : ∀ w ∈ vx_atS own ic cls names, w.before args s = true)
    (hgood : ∀ w ∈ Cond.classLink own ik cls :: Cond.initialized cls :: vx_atS own ic cls names, vx_ot w = true)
    (hU : vx_Zq Bundle.tN "UNASSIGNED_STACK" Bundle.steD A s s.heap) (hN : vx_Zq Bundle.tN "SUPPRESSED_SENTINEL" Bundle.listD A s s.heap) (hS : va_S A s.heap H locs) (hsize : ls.size = c.maxLocals)
    (d0 : decode cc pc = .ok (.new ik, 3)) (d3 : decode cc (pc + 3) = .ok (.dup, 1)) (d4 : decode cc (pc + 4) = .ok (.ldc is, 2)) (d6 : decode cc (pc + 6) = .ok (.invokespecial ic, 3)) (d9 : decode cc (pc + 9) = .ok (.athrow, 1))
    (hout : ∀ x ∈ c.exceptionTable.toList, covers x (pc + 9) = false)
    (hRframes : names.length + 3 < R.frames) (hRlocals : (rest.map fun v => v.category).sum + (13 * (names.length + 1) + 43) ≤ R.locals) (hRcells : cells + 1 ≤ R.cells) (hRslots : slots + 6 ≤ R.slots) (hlocks : meth.locks = false)
    (hx : ∀ t : State, s.vm.Alike t.vm → H.size ≤ t.heap.size → (∀ q : Nat, q < H.size → t.heap[q]? = H[q]?) → XC cls s t)
    (hf : ∀ z ∈ locs, free z.base) (hc : cells + 1 ≤ mc) (hs : slots + 6 ≤ ms) :
    W p l e R s m args below meth c H locs cells slots (vx_MQ below Qc XC args s mc ms free) (F0 m pc ls rest) := by
  intro T hT X
  have htr : e.platform.stackTraces = false := (show e.platform.stackTraces = l.stackTraces by rw [X.admits.platform]).trans hl
  have Y := vx_rebase X (R' := { frames := R.frames, locals := R.locals, cells := 1, slots := 6 }) (Nat.le_refl _) (Nat.le_refl _) hRcells hRslots
  obtain ⟨s', hA⟩ : ∃ z, z = (T.setVm s.vm).setFrames (.invoking m args :: below) := ⟨_, rfl⟩
  rw [← hA] at Y
  have hvm : s'.vm = s.vm := by rw [hA]; rfl
  have hhp : s'.heap = H := by rw [hA]; exact hT
  have hW0 : s.WarmedH s'.vm := by rw [hvm]; exact State.WarmedH.refl s
  have hat' : ∀ w ∈ vx_atS own ic cls names, w.before args s' = true := fun w hw => vx_ot_at hW0 hvm.symm (hgood w (List.mem_cons_of_mem _ (List.mem_cons_of_mem _ hw))) (hat w hw)
  have hk' : (Cond.classLink own ik cls).before args s' = true := vx_ot_at hW0 hvm.symm (hgood _ List.mem_cons_self) hk
  have hini' : (Cond.initialized cls).before args s' = true := vx_ot_at hW0 hvm.symm (hgood _ (List.mem_cons_of_mem _ List.mem_cons_self)) hini
  have hU' : vx_Zq Bundle.tN "UNASSIGNED_STACK" Bundle.steD A s' s'.heap := by rw [hhp]; exact vx_Zq.moved hW0.alike (hU.kept hS.2.1)
  have hN' : vx_Zq Bundle.tN "SUPPRESSED_SENTINEL" Bundle.listD A s' s'.heap := by rw [hhp]; exact vx_Zq.moved hW0.alike (hN.kept hS.2.1)
  have h : ∀ w ∈ Bundle.ownAtoms own ic cls names, w.before args s' = true := vx_own hat' (vx_isRefq hU'.1) (vx_isRefq hN'.1) hU'.2.word hN'.2.word
  have hown' : s'.vm.findClass own = some m.cls := by rw [hvm]; exact hown
  have hins : (Cond.instantiable cls 6).before args s' = true := h _ (by simp [Bundle.ownAtoms])
  obtain ⟨vm₁, cX, kX, hfX, hkX, -, -, X₁, st1⟩ := Y.newCold hexec (own := own) (C := cls) (index := ik) (n := 6) hown' hk' hins hini'
    (g := F0 m pc ls rest) rfl (by rw [hb]; exact d0) (Nat.le_refl _) (Nat.le_refl _)
  generalize hT1 : (T.setVm vm₁).pushCell { cls := cX, slots := kX.instanceTypes.map defaultValue, vm := .none } = T1 at X₁ st1
  have hcat : (Value.ref T.heap.size).category = 1 := rfl
  have hcellA : T1.heap[T.heap.size]? = some (freshCell cX kX) := by rw [← hT1]; exact State.heap_pushCell_size _ _
  have d3' : decode c.code (pc + 3) = .ok (.dup, 1) := by rw [hb]; exact d3
  have d4' : decode c.code (pc + 4) = .ok (.ldc is, 2) := by rw [hb]; exact d4
  have hstr' : vk_R own is text sa s' := vk_R.warm hW0 hstr
  obtain ⟨U, hsteps, hrun, hend, hW, hsame, ce, hce, hO⟩ := X₁.ctorThrowS hexec htr (own := own) (cls := cls) (names := names) (ic := ic) hown' hcls hnames h (fun x hx => nomatch hx) hfX hkX hcellA (by rw [hhp, hT]; exact Nat.le_refl _) (msg := .ref sa) rfl
    (g := { method := m, pc := pc + 6, locals := ls, stack := .ref sa :: .ref T.heap.size :: .ref T.heap.size :: rest, locked := none }) rfl hsize rfl rfl (rest := rest) rfl
    (by rw [hb]; exact d6) (by rw [hb]; exact d9) hout hRframes (by simp only [List.map_cons, List.sum_cons, hcat]; omega) hlocks
  obtain ⟨f1, f2⟩ := vx_frame hsame
  rw [hhp] at f1 f2
  have hWs : s.WarmedH U.vm := State.WarmedH.trans hW0 hW
  have hcl : s.vm.findClass cls = some ce.cls := by
    have h9 := hO.cls
    rw [hvm] at h9
    exact h9
  have hall : s.sameButNew ({ U with vm := s.vm } : State) locs mc ms := by
    subst hA
    obtain ⟨e1, e2⟩ := hsame
    rw [State.setFrames_setFrames] at e1
    have h2 : (T.setVm s.vm).sameButNew ({ U with vm := s.vm } : State) [] (0 + 1) (0 + 6) := ⟨e1, e2⟩
    have h3 := X.same.trans h2
    rw [List.append_nil] at h3
    exact h3.mono hc hs
  refine ⟨U, ?_, .threw T.heap.size, hrun, hend, Or.inr ⟨T.heap.size, rfl, cls, ce, locs, hx U hWs.alike f1 (fun q hq => f2 q hq (fun z hz => nomatch hz)), hce, hO.vm, hcl, hWs, hall, hf⟩⟩
  refine st1 _ ?_
  show Steps p.tables e below (T1.setTop { method := m, pc := pc + 3, locals := ls, stack := .ref T.heap.size :: rest, locked := none }) _
  jvm_step X₁.here [X₁.here.top, hexec, d3', Value.category]
  exact X₁.ldcString hexec (own := own) (text := text) (index := is) (a := sa) hown' hstr'.1 hstr'.2
    (g := { method := m, pc := pc + 4, locals := ls, stack := .ref T.heap.size :: .ref T.heap.size :: rest, locked := none }) rfl d4' _ hsteps
/-- 'throw new E("text")', the text by a wide index -/
theorem vx_throwSW {cc : ByteArray} {pc : Nat} (hexec : p.tables.exec = Jvm.exec) (hb : c.code = cc) (hl : l.stackTraces = false) {own cls text : String} {names : List String} {ik is ic mc ms sa : Nat} {A : Nat → Prop}
    (hown : s.vm.findClass own = some m.cls) (hcls : Bundle.fit cls = true) (hnames : ∀ n ∈ names, Bundle.fit n = true)
    (hk : (Cond.classLink own ik cls).before args s = true) (hini : (Cond.initialized cls).before args s = true) (hstr : vk_R own is text sa s) (hat : ∀ w ∈ vx_atS own ic cls names, w.before args s = true)
    (hgood : ∀ w ∈ Cond.classLink own ik cls :: Cond.initialized cls :: vx_atS own ic cls names, vx_ot w = true)
    (hU : vx_Zq Bundle.tN "UNASSIGNED_STACK" Bundle.steD A s s.heap) (hN : vx_Zq Bundle.tN "SUPPRESSED_SENTINEL" Bundle.listD A s s.heap) (hS : va_S A s.heap H locs) (hsize : ls.size = c.maxLocals)
    (d0 : decode cc pc = .ok (.new ik, 3)) (d3 : decode cc (pc + 3) = .ok (.dup, 1)) (d4 : decode cc (pc + 4) = .ok (.ldc_w is, 3)) (d7 : decode cc (pc + 7) = .ok (.invokespecial ic, 3)) (d10 : decode cc (pc + 10) = .ok (.athrow, 1))
    (hout : ∀ x ∈ c.exceptionTable.toList, covers x (pc + 10) = false)
    (hRframes : names.length + 3 < R.frames) (hRlocals : (rest.map fun v => v.category).sum + (13 * (names.length + 1) + 43) ≤ R.locals) (hRcells : cells + 1 ≤ R.cells) (hRslots : slots + 6 ≤ R.slots) (hlocks : meth.locks = false)
    (hx : ∀ t : State, s.vm.Alike t.vm → H.size ≤ t.heap.size → (∀ q : Nat, q < H.size → t.heap[q]? = H[q]?) → XC cls s t)
    (hf : ∀ z ∈ locs, free z.base) (hc : cells + 1 ≤ mc) (hs : slots + 6 ≤ ms) :
    W p l e R s m args below meth c H locs cells slots (vx_MQ below Qc XC args s mc ms free) (F0 m pc ls rest) := by
  intro T hT X
  have htr : e.platform.stackTraces = false := (show e.platform.stackTraces = l.stackTraces by rw [X.admits.platform]).trans hl
  have Y := vx_rebase X (R' := { frames := R.frames, locals := R.locals, cells := 1, slots := 6 }) (Nat.le_refl _) (Nat.le_refl _) hRcells hRslots
  obtain ⟨s', hA⟩ : ∃ z, z = (T.setVm s.vm).setFrames (.invoking m args :: below) := ⟨_, rfl⟩
  rw [← hA] at Y
  have hvm : s'.vm = s.vm := by rw [hA]; rfl
  have hhp : s'.heap = H := by rw [hA]; exact hT
  have hW0 : s.WarmedH s'.vm := by rw [hvm]; exact State.WarmedH.refl s
  have hat' : ∀ w ∈ vx_atS own ic cls names, w.before args s' = true := fun w hw => vx_ot_at hW0 hvm.symm (hgood w (List.mem_cons_of_mem _ (List.mem_cons_of_mem _ hw))) (hat w hw)
  have hk' : (Cond.classLink own ik cls).before args s' = true := vx_ot_at hW0 hvm.symm (hgood _ List.mem_cons_self) hk
  have hini' : (Cond.initialized cls).before args s' = true := vx_ot_at hW0 hvm.symm (hgood _ (List.mem_cons_of_mem _ List.mem_cons_self)) hini
  have hU' : vx_Zq Bundle.tN "UNASSIGNED_STACK" Bundle.steD A s' s'.heap := by rw [hhp]; exact vx_Zq.moved hW0.alike (hU.kept hS.2.1)
  have hN' : vx_Zq Bundle.tN "SUPPRESSED_SENTINEL" Bundle.listD A s' s'.heap := by rw [hhp]; exact vx_Zq.moved hW0.alike (hN.kept hS.2.1)
  have h : ∀ w ∈ Bundle.ownAtoms own ic cls names, w.before args s' = true := vx_own hat' (vx_isRefq hU'.1) (vx_isRefq hN'.1) hU'.2.word hN'.2.word
  have hown' : s'.vm.findClass own = some m.cls := by rw [hvm]; exact hown
  have hins : (Cond.instantiable cls 6).before args s' = true := h _ (by simp [Bundle.ownAtoms])
  obtain ⟨vm₁, cX, kX, hfX, hkX, -, -, X₁, st1⟩ := Y.newCold hexec (own := own) (C := cls) (index := ik) (n := 6) hown' hk' hins hini'
    (g := F0 m pc ls rest) rfl (by rw [hb]; exact d0) (Nat.le_refl _) (Nat.le_refl _)
  generalize hT1 : (T.setVm vm₁).pushCell { cls := cX, slots := kX.instanceTypes.map defaultValue, vm := .none } = T1 at X₁ st1
  have hcat : (Value.ref T.heap.size).category = 1 := rfl
  have hcellA : T1.heap[T.heap.size]? = some (freshCell cX kX) := by rw [← hT1]; exact State.heap_pushCell_size _ _
  have d3' : decode c.code (pc + 3) = .ok (.dup, 1) := by rw [hb]; exact d3
  have d4' : decode c.code (pc + 4) = .ok (.ldc_w is, 3) := by rw [hb]; exact d4
  have hstr' : vk_R own is text sa s' := vk_R.warm hW0 hstr
  obtain ⟨U, hsteps, hrun, hend, hW, hsame, ce, hce, hO⟩ := X₁.ctorThrowS hexec htr (own := own) (cls := cls) (names := names) (ic := ic) hown' hcls hnames h (fun x hx => nomatch hx) hfX hkX hcellA (by rw [hhp, hT]; exact Nat.le_refl _) (msg := .ref sa) rfl
    (g := { method := m, pc := pc + 7, locals := ls, stack := .ref sa :: .ref T.heap.size :: .ref T.heap.size :: rest, locked := none }) rfl hsize rfl rfl (rest := rest) rfl
    (by rw [hb]; exact d7) (by rw [hb]; exact d10) hout hRframes (by simp only [List.map_cons, List.sum_cons, hcat]; omega) hlocks
  obtain ⟨f1, f2⟩ := vx_frame hsame
  rw [hhp] at f1 f2
  have hWs : s.WarmedH U.vm := State.WarmedH.trans hW0 hW
  have hcl : s.vm.findClass cls = some ce.cls := by
    have h9 := hO.cls
    rw [hvm] at h9
    exact h9
  have hall : s.sameButNew ({ U with vm := s.vm } : State) locs mc ms := by
    subst hA
    obtain ⟨e1, e2⟩ := hsame
    rw [State.setFrames_setFrames] at e1
    have h2 : (T.setVm s.vm).sameButNew ({ U with vm := s.vm } : State) [] (0 + 1) (0 + 6) := ⟨e1, e2⟩
    have h3 := X.same.trans h2
    rw [List.append_nil] at h3
    exact h3.mono hc hs
  refine ⟨U, ?_, .threw T.heap.size, hrun, hend, Or.inr ⟨T.heap.size, rfl, cls, ce, locs, hx U hWs.alike f1 (fun q hq => f2 q hq (fun z hz => nomatch hz)), hce, hO.vm, hcl, hWs, hall, hf⟩⟩
  refine st1 _ ?_
  show Steps p.tables e below (T1.setTop { method := m, pc := pc + 3, locals := ls, stack := .ref T.heap.size :: rest, locked := none }) _
  jvm_step X₁.here [X₁.here.top, hexec, d3', Value.category]
  exact X₁.ldcStringW hexec (own := own) (text := text) (index := is) (a := sa) hown' hstr'.1 hstr'.2
    (g := { method := m, pc := pc + 4, locals := ls, stack := .ref T.heap.size :: .ref T.heap.size :: rest, locked := none }) rfl d4' _ hsteps
end Ends
section Bodies
variable {l : Launch}
theorem vx_ofW {y : MethodName} {ws ws' : List Cond} {rm : Room} {Pc : Array Value → State → Prop} {Qc : Array Value → State → Outcome → State → Prop} {XC : String → State → State → Prop} {mc ms : Nat} {free : Addr → Prop} {cc : ByteArray} {maxL : Nat} {ret : Option FieldType}
    (hy : plainName y.cls = true) (hw : ws = Cond.code y cc maxL ret :: ws')
    (body : ∀ p e s m args below meth c s₁, BodyLoose p l y (headSpec ws rm) cc maxL ret e s m args below meth c s₁ → c.maxLocals = maxL → (∀ x ∈ c.exceptionTable.toList, False) → Pc args s →
      W p l e (headSpec ws rm).room s m args below meth c s.heap [] 0 0 (vx_MQ below Qc XC args s mc ms free) (entryFrame m args maxL)) : vx_Met l y ws rm Pc Qc XC mc ms free := by
  refine MetFree.of_bodyS (code := cc) (maxLocals := maxL) (ret := ret) hy ?_ ?_
  · intro args s m h hn
    obtain ⟨meth, c, h1, h2, h3, h4, h5, h6, -, -⟩ := Cond.code_spec hn (atoms_spec (ws := ws) h _ (by rw [hw]; exact List.mem_cons_self))
    exact ⟨meth, c, h1, h2, h3, h4, h5, h6⟩
  · intro p e s m args below meth c s₁ B hml hP _
    have hh0 : s₁.heap = s.heap := by rw [B.state]; rfl
    have ht : ∀ x ∈ c.exceptionTable.toList, False := by
      obtain ⟨meth9, c9, h1, h2, -, -, -, -, h7, -⟩ := Cond.code_spec B.named (atoms_spec (ws := ws) B.pre _ (by rw [hw]; exact List.mem_cons_self))
      cases Option.some.inj (h1.symm.trans B.method)
      cases Option.some.inj (h2.symm.trans (Stand.of_body B).code)
      intro x hx
      rw [Array.isEmpty_iff.mp h7] at hx
      cases hx
    obtain ⟨t, a1, o, b1, b2, b3⟩ := body p e s m args below meth c s₁ B hml ht hP s₁ hh0 (Stand.of_body B)
    exact ⟨t, o, a1, b1, b2, b3⟩
/-- the table of a body with handlers -/
theorem vx_table {p : Program} {x y : MethodName} {S : Spec} {cc bytes : ByteArray} {maxL maxL' : Nat} {ret ret' : Option FieldType} {e : Env} {s s₁ : State} {m : MethodId} {args : Array Value} {below : List Frame} {meth : Method} {c : Code} {hh : List (Nat × Nat × Nat × Nat)}
    (B : BodyLoose p l y S cc maxL ret e s m args below meth c s₁) (h : (Cond.codeWith y bytes maxL' ret' hh).before args s = true) : c.exceptionTable.toList = tableOf hh := by
  obtain ⟨m9, meth9, c9, hn9, h1, h2, -, -, h6, -⟩ := Cond.codeWith_spec h
  cases Option.some.inj (hn9.symm.trans B.named)
  cases Option.some.inj (h1.symm.trans B.method)
  cases Option.some.inj (h2.symm.trans (Stand.of_body B).code)
  rw [← h6, table_eq]
end Bodies
end VXA
/-! ===== END ===== -/
/-! ===== BEGIN a static call of a method with an exception table ===== -/
section VXS
variable {p : Program} {l : Launch} {e : Env} {R : Room} {s : State} {m : MethodId} {args : Array Value} {below : List Frame} {meth : Method} {c : Code} {T : State} {H : Heap} {locs : List Loc} {cells slots : Nat}
abbrev vx_CSW (R : Room) (s : State) (args : Array Value) (own : String) (index : Nat) (y : MethodName) (bytes : ByteArray) (maxL : Nat) (ret : Option FieldType) (hh : List (Nat × Nat × Nat × Nat)) (ws : List Cond) (rm : Room) (mc ms n : Nat) : Prop :=
  (rm.cells = mc ∧ rm.slots = ms ∧ rm.frames + 1 ≤ R.frames ∧ 8 + (maxL + 11) + rm.locals ≤ R.locals ∧ (∀ w ∈ ws, ∀ (a' : Array Value) (U : State), s.WarmedH U.vm → w.before a' U = true) ∧ Cond.codeWith y bytes maxL ret hh ∈ ws) ∧
  (Cond.codeWith y bytes maxL ret hh).before args s = true ∧ (Cond.initialized y.cls).before args s = true ∧ (y.cls ≠ "java/lang/invoke/MethodHandle" ∧ y.cls ≠ "java/lang/invoke/VarHandle") ∧
  (∀ sig, parseMethodDescriptor y.desc = some sig → n = sig.parameters.length) ∧ (Cond.methodLink own index y).before args s = true ∧ (Cond.static y).before args s = true
theorem vx_cwSW {own : String} {index maxL mc ms : Nat} {y : MethodName} {bytes : ByteArray} {ret : Option FieldType} {hh : List (Nat × Nat × Nat × Nat)} {Ts ws ws' : List Cond} {rm : Room} (n : Nat) (ht : ∀ w ∈ Ts, w.before args s = true) (hT : GoodIn Ts (va_wsS own index y ws)) (hw : ws = Cond.codeWith y bytes maxL ret hh :: ws') (hrc : rm.cells = mc) (hrs : rm.slots = ms)
    (hd : y.cls ≠ "java/lang/invoke/MethodHandle" ∧ y.cls ≠ "java/lang/invoke/VarHandle" ∧ (parseMethodDescriptor y.desc).map (fun d => d.parameters.length) = some n) (hR : rm.frames + 1 ≤ R.frames ∧ 8 + (maxL + 11) + rm.locals ≤ R.locals) :
    vx_CSW R s args own index y bytes maxL ret hh ws rm mc ms n := by
  have ok : ∀ w ∈ va_wsS own index y ws, w.before args s = true := fun w h => ht w (hT w h).1
  have hG : GoodIn Ts ws := fun w h => hT w (by unfold va_wsS; exact List.mem_append_right _ h)
  have hc : Cond.codeWith y bytes maxL ret hh ∈ ws := by rw [hw]; exact List.mem_cons_self
  refine ⟨⟨hrc, hrs, hR.1, hR.2, pay_in ht hG, hc⟩, ht _ (hG _ hc).1, ok _ (by simp [va_wsS]), ⟨hd.1, hd.2.1⟩, fun sig h => ?_, ok _ (by simp [va_wsS]), ok _ (by simp [va_wsS])⟩
  have h2 := hd.2.2
  rw [h] at h2
  exact (Option.some.inj h2).symm
theorem vx_callSW (X : Stand p l e R s m args below meth c T locs cells slots) (hexec : p.tables.exec = Jvm.exec) {own : String} {index : Nat} {y : MethodName} {bytes : ByteArray} {maxL : Nat} {ret : Option FieldType} {hh : List (Nat × Nat × Nat × Nat)}
    (hown : s.vm.findClass own = some m.cls) (hlink : (Cond.methodLink own index y).before args s = true) (hstat : (Cond.static y).before args s = true) (hinit : (Cond.initialized y.cls).before args s = true)
    (hcode : (Cond.codeWith y bytes maxL ret hh).before args s = true) (hy : y.cls ≠ "java/lang/invoke/MethodHandle" ∧ y.cls ≠ "java/lang/invoke/VarHandle")
    {W9 : Nat} {Pre : Pt → Array Value → Prop} {Post : Pt → Array Value → Option Value → Pt → Prop} (hK : Back l R p e below s args y 3 W9 Pre Post)
    {g : JFrame} (hg : g.method = m) (hsize : g.locals.size = c.maxLocals) {argsL rest : List Value} (hlen : ∀ sig, parseMethodDescriptor y.desc = some sig → argsL.length = sig.parameters.length)
    (hstack : g.stack = argsL.reverse ++ rest) (hW : 2 * g.monitorRoom + (rest.map fun v => v.category).sum ≤ W9) (hdg : decode c.code g.pc = .ok (.invokestatic index, 3))
    (hpre : ∀ vm₁, s.WarmedH vm₁ → Pre ⟨T.setVm vm₁, locs, cells, slots⟩ argsL.toArray) :
    ∃ (v : Option Value) (vm₁ : Vm) (B : Pt), s.WarmedH vm₁ ∧ Stand p l e R s m args below meth c B.U B.locs B.cells B.slots ∧ Post ⟨T.setVm vm₁, locs, cells, slots⟩ argsL.toArray v B ∧
      ∀ target, Steps p.tables e below (B.U.setTop { g with pc := g.pc + 3, stack := v.toList ++ rest }) target → Steps p.tables e below (T.setTop g) target := by
  obtain ⟨mk, methM, cM, hnamed, hmethM, -, -, -, -, -, -, hsigM⟩ := Cond.codeWith_spec hcode
  have hstatic : methM.isStatic = true := Cond.static_spec hnamed hmethM hstat
  obtain ⟨kP, hkP, -⟩ := className_of_methodNamed hnamed
  have hinitP : kP.init = .initialized := Cond.initialized_spec (findClass_of_methodNamed hnamed) hkP hinit
  obtain ⟨vm₁, X₁, hstep₁⟩ := X.invokestatic hexec hown hlink hnamed hmethM hstatic hkP hinitP hy (g := g) hg (argsL := argsL) (rest := rest) (hlen _ hsigM) hstack hdg
  obtain ⟨v, B, X', hpost, hsteps⟩ := hK m meth c ⟨T.setVm vm₁, locs, cells, slots⟩ { g with stack := rest } (.invokestatic index) mk argsL.toArray X₁ hg hsize hdg hW (X₁.named hnamed) (hpre vm₁ X₁.warmed)
  exact ⟨v, vm₁, B, X₁.warmed, X', hpost, fun target h => hstep₁ _ fun acts => by rw [doInvoke_state]; exact hsteps.trans h⟩
theorem vx_runSW {y : MethodName} {bytes cc : ByteArray} {maxL nL mc ms n index : Nat} {ret : Option FieldType} {hh : List (Nat × Nat × Nat × Nat)} {ws : List Cond} {rm : Room} {Pc : Array Value → State → Prop} {Qc : Array Value → State → Outcome → State → Prop} {free : Addr → Prop} {Ts : List Cond} {own : String} {As rest : List Value} {g : JFrame}
    (S : CallFix p m c cc nL s args Ts own) (hM : Met l y ws rm Pc Qc mc ms free) (cw : vx_CSW R s args own index y bytes maxL ret hh ws rm mc ms n) (hp : PreS s H Pc As)
    (hg : g.method = m) (hn : As.length = n) (hsize : g.locals.size = nL) (hstack : g.stack = As.reverse ++ rest) (hW : 2 * g.monitorRoom + (rest.map fun v => v.category).sum ≤ 8) (hdg : decode cc g.pc = .ok (.invokestatic index, 3)) (hf : cells + mc ≤ R.cells ∧ slots + ms ≤ R.slots) :
    va_Run p l e R s m args below meth c H locs cells slots mc ms g rest (Qc As.toArray) (free) := by
  obtain ⟨⟨hrc, hrs, hfr, hlo, hws, hcw⟩, hcode, hini, hy, hlen, hl, hstt⟩ := cw
  have hK : Back l R p e below s args y 3 8 (PreOf R mc ms Pc) (PostOf Qc mc ms free) := va_backW (hh := hh) (bytes := bytes) (maxL := maxL) (ret := ret) hM hp.1 hrc hrs hfr hlo hws hcw (fun a' U hW => word_at hW (Or.inl (by first | rfl | simp [Cond.onTables, Cond.keeps, Cond.steady])) hini)
  obtain ⟨hx, hb, hml, ho, -⟩ := S
  intro T hT X
  obtain ⟨v, vm₁, ⟨U', l2, c2, s2⟩, hW₁, X', ⟨g', mk, t, L, e1, e2, hq, h1, hL, h2, h3⟩, st⟩ := vx_callSW X hx (hh := hh) (bytes := bytes) (maxL := maxL) (ret := ret) ho hl hstt hini hcode hy hK hg (hsize.trans hml.symm) (argsL := As) (rest := rest) (fun sig h => hn.trans (hlen sig h)) hstack hW (by rw [hb]; exact hdg)
    (fun vm₁ hW₁ => ⟨hf.1, hf.2, hp.2 (T.setVm vm₁) hT hW₁⟩)
  dsimp only [Pt.U, Pt.locs, Pt.cells, Pt.slots] at X' e1 e2 h1 h2 h3 st
  subst h1; subst h2; subst h3
  exact ⟨v, (T.setVm vm₁).calling g' mk As.toArray, t, U', L, hT, X', hL, e1, e2, hq, st⟩
/-- a thing of a world lies in the heap -/
theorem vx_lt {D : va_G} {cl : List vw_C} {ws : va_W} {H1 : Heap} (h : va_P D cl ws H1) {k : Nat} {q : Nat × va_E} (hk : ws[k]? = some q) : q.1 < H1.size := (h k q hk).lt
end VXS
/-! ===== END ===== -/
/-! ===== BEGIN methods with a table of their own: called by a name, returning or throwing ===== -/
section VXH
/-! vx_backW, vx_callVX, vx_callSX, vx_callVW, vx_runVW, vx_runVX, vx_runSX, vx_ofWH follow the same proofs as their sisters above (Free/Laws.lean, Shelf42/LK1.lean); vx_outP calls Shelf42/NT130.lean (outThrough). -/
section
variable {l : Launch} {R : Room} {p : Program} {e : Env} {below : List Frame} {s : State} {sargs : Array Value} {y : MethodName} {len W9 : Nat}
theorem vx_backW {ws : List Cond} {rm : Room} {Pc : Array Value → State → Prop} {Qc : Array Value → State → Outcome → State → Prop} {XC : String → State → State → Prop} {mc ms : Nat} {free : Addr → Prop} {bytes : ByteArray} {maxL : Nat} {ret : Option FieldType} {hh : List (Nat × Nat × Nat × Nat)}
    (hM : vx_Met l y ws rm Pc Qc XC mc ms free) (hblind : FrameBlind Pc) (hrc : rm.cells = mc) (hrs : rm.slots = ms)
    (hframes : rm.frames + 1 ≤ R.frames) (hlocals : W9 + (maxL + 11) + rm.locals ≤ R.locals)
    (hws : ∀ w ∈ ws, ∀ a' U, s.WarmedH U.vm → w.before a' U = true) (hcode : Cond.codeWith y bytes maxL ret hh ∈ ws) (hinit : ∀ a' U, s.WarmedH U.vm → (Cond.initialized y.cls).before a' U = true) :
    vx_Back l R p e below s sargs y len W9 (PreOf R mc ms Pc) (PostOf Qc mc ms free) (vx_Post XC mc ms free) := by
  intro m meth c A g ig mk a X hg hsize hdg hW hn hp
  have h1 : (headSpec ws rm).pre.before a A.U = true := atoms_intro fun w hw => hws w hw _ _ X.warmed
  have h2 : (Cond.codeWith y bytes maxL ret hh).before a A.U = true := hws _ hcode _ _ X.warmed
  have h3 : (Cond.initialized y.cls).before a A.U = true := hinit _ _ X.warmed
  have h4 : A.cells + (headSpec ws rm).room.cells ≤ R.cells := by rw [show (headSpec ws rm).room.cells = mc from hrc]; exact hp.1
  have h5 : A.slots + (headSpec ws rm).room.slots ≤ R.slots := by rw [show (headSpec ws rm).room.slots = ms from hrs]; exact hp.2.1
  have hPc : Pc a (A.U.calling g mk a) := hblind _ _ _ _ hp.2.2
  obtain ⟨U, Ls, c0, s0⟩ := A
  dsimp only [Pt.U, Pt.locs, Pt.cells, Pt.slots] at h1 h2 h3 h4 h5 X hn hPc ⊢
  obtain ⟨m9, methY, cY, hn9, hmY, hcY, -, hlY, -⟩ := Cond.codeWith_spec h2
  cases Option.some.inj (hn9.symm.trans hn)
  obtain ⟨kY, hkY, -⟩ := className_of_methodNamed hn
  have hinitY : kY.init = .initialized := Cond.initialized_spec (findClass_of_methodNamed hn) hkY h3
  have h : At U g.method c below := by rw [hg]; exact X.here
  have hlocals9 : W9 + (maxL + 11) + (headSpec ws rm).room.locals ≤ R.locals := hlocals
  have happ : (headSpec ws rm).appliesLoose y e.platform (U.calling g mk a) = true :=
    Spec.appliesLoose_calling (g := g) h hdg hn hkY hinitY
      (X.room_calling (g := g) (R' := (headSpec ws rm).room) hsize hmY hcY hframes (by rw [hlY]; omega) h4 h5) h1
  obtain ⟨mid, hmid⟩ := h.above
  have hfr : (U.setTop g).frames = (.java g :: mid) ++ below := by rw [State.frames_setTop' g h.top, hmid]; rfl
  obtain ⟨o, s₂, hsteps, -, hend, hq⟩ := Steps.callFree hM p X.admits X.cas X.clock (acts := []) hfr happ hPc trivial
  have hq' : vx_Q Qc XC mc ms free a (U.calling g mk a) o s₂ := hq
  rw [State.frames_setTop' g h.top] at hend
  obtain ⟨g₀, hg0⟩ := Option.isSome_iff_exists.mp h.top
  obtain ⟨r, hr⟩ := State.topJava?_eq_some.mp hg0
  have hr' : (({ U with heap := s₂.heap, slotsUsed := s₂.slotsUsed } : State).setVm s₂.vm).frames = .java g₀ :: r := hr
  rcases hq' with ⟨hqc, L, hfe, hL⟩ | ⟨q, rfl, E, ce, L, hx, hce, hcv, hcl, hW₂, hsm, hL⟩
  · obtain ⟨⟨v, rfl⟩, hW₂, e2, q2, q3, q4, q5, q6⟩ := id hfe
    have e3 : s₂ = ({ (U.calling g mk a).setFrames s₂.frames with heap := s₂.heap, slotsUsed := s₂.slotsUsed } : State).setVm s₂.vm := by
      have : s₂ = ({ s₂ with vm := (U.calling g mk a).vm } : State).setVm s₂.vm := rfl
      rw [e2] at this
      exact this
    obtain ⟨c₂, i₂, len₂, hc₂, hd₂, hf₂⟩ := hend
    have hW' : U.WarmedH s₂.vm := hW₂
    have hcc : c₂ = c := by
      have h1 : s₂.code? g.method = U.code? g.method := by
        rw [State.code?_eq, State.code?_eq, hW'.alike.method?]
      exact Option.some.inj (hc₂.symm.trans (h1.trans h.code))
    subst hcc
    have hlen : len₂ = len := by rw [hdg] at hd₂; cases hd₂; rfl
    subst hlen
    have hs₂ : s₂ = (({ U with heap := s₂.heap, slotsUsed := s₂.slotsUsed } : State).setVm s₂.vm).setTop { g with pc := g.pc + len₂, stack := v.toList ++ g.stack } := by
      refine e3.trans ?_
      rw [hf₂, State.calling_eq h.top, State.setFrames_setFrames, State.setTop_of_frames _ hr', hr]
      rfl
    have hsame : U.sameButNew ({ U with heap := s₂.heap, slotsUsed := s₂.slotsUsed } : State) L mc ms := by
      refine ⟨?_, q2, q3, q4, q5, q6⟩
      obtain ⟨t, ht, -⟩ := State.frames_cons hr
      show ({ U with heap := s₂.heap, slotsUsed := s₂.slotsUsed } : State) = { U.setFrames U.frames with heap := s₂.heap, slotsUsed := s₂.slotsUsed }
      rw [State.setFrames_self ht]
    subst hg
    refine Or.inl ⟨v, ⟨(({ U with heap := s₂.heap, slotsUsed := s₂.slotsUsed } : State).setVm s₂.vm), Ls ++ L, c0 + mc, s0 + ms⟩,
      ⟨X.admits, X.cas, X.clock, X.frames, X.room, X.hears, X.method, X.code, (X.here.setHeapUsed s₂.heap s₂.slotsUsed).setVm hW'.alike, X.tail, State.WarmedH.trans X.warmed hW', X.limits, X.bytes, X.same.trans (hsame.setVm s.vm)⟩,
      ⟨g, mk, s₂, L, rfl, rfl, hqc, rfl, hL, rfl, rfl⟩, ?_⟩
    show Steps p.tables e below _ ((({ U with heap := s₂.heap, slotsUsed := s₂.slotsUsed } : State).setVm s₂.vm).setTop { g with pc := g.pc + len₂, stack := v.toList ++ g.stack })
    rw [← hs₂]
    exact hsteps
  · obtain ⟨e2, q2, q3, q4, q5, q6⟩ := id hsm
    have e3 : s₂ = ({ (U.calling g mk a).setFrames s₂.frames with heap := s₂.heap, slotsUsed := s₂.slotsUsed } : State).setVm s₂.vm := by
      have : s₂ = ({ s₂ with vm := (U.calling g mk a).vm } : State).setVm s₂.vm := rfl
      rw [e2] at this
      exact this
    have hf₂ : s₂.frames = .throwing q :: .java g :: U.frames.tail := hend
    have hW' : U.WarmedH s₂.vm := hW₂
    have hs₂ : s₂ = ((({ U with heap := s₂.heap, slotsUsed := s₂.slotsUsed } : State).setVm s₂.vm).setTop g).pushFrame (.throwing q) := by
      refine e3.trans ?_
      rw [hf₂, State.calling_eq h.top, State.setFrames_setFrames, State.pushFrame, State.frames_setTop _ hr', State.setTop_of_frames _ hr', State.setFrames_setFrames, hr]
      rfl
    have hsame : U.sameButNew ({ U with heap := s₂.heap, slotsUsed := s₂.slotsUsed } : State) L mc ms := by
      refine ⟨?_, q2, q3, q4, q5, q6⟩
      obtain ⟨t, ht, -⟩ := State.frames_cons hr
      show ({ U with heap := s₂.heap, slotsUsed := s₂.slotsUsed } : State) = { U.setFrames U.frames with heap := s₂.heap, slotsUsed := s₂.slotsUsed }
      rw [State.setFrames_self ht]
    subst hg
    refine Or.inr ⟨q, ⟨(({ U with heap := s₂.heap, slotsUsed := s₂.slotsUsed } : State).setVm s₂.vm), Ls ++ L, c0 + mc, s0 + ms⟩,
      ⟨X.admits, X.cas, X.clock, X.frames, X.room, X.hears, X.method, X.code, (X.here.setHeapUsed s₂.heap s₂.slotsUsed).setVm hW'.alike, X.tail, State.WarmedH.trans X.warmed hW', X.limits, X.bytes, X.same.trans (hsame.setVm s.vm)⟩,
      ⟨g, mk, s₂, L, E, ce, rfl, rfl, hx, hce, hcv, hcl, rfl, hL, rfl, rfl⟩, ?_⟩
    show Steps p.tables e below _ (((({ U with heap := s₂.heap, slotsUsed := s₂.slotsUsed } : State).setVm s₂.vm).setTop g).pushFrame (.throwing q))
    rw [← hs₂]
    exact hsteps
end
variable {p : Program} {l : Launch} {e : Env} {R : Room} {s : State} {m : MethodId} {args : Array Value} {below : List Frame} {meth : Method} {c : Code} {T : State} {H : Heap} {locs : List Loc} {cells slots : Nat}
theorem vx_callVX (X : Stand p l e R s m args below meth c T locs cells slots) (hexec : p.tables.exec = Jvm.exec) {own C : String} {index : Nat} {y : MethodName} {bytes : ByteArray} {maxL : Nat} {ret : Option FieldType} {hh : List (Nat × Nat × Nat × Nat)}
    (hown : s.vm.findClass own = some m.cls) (hlink : (Cond.methodLink own index y).before args s = true) (hinst : (Cond.instanceMethod y).before args s = true) (hsel : (Cond.selects C y y).before args s = true)
    (hcode : (Cond.codeWith y bytes maxL ret hh).before args s = true) (hy : y.cls ≠ "java/lang/invoke/MethodHandle" ∧ y.cls ≠ "java/lang/invoke/VarHandle")
    {W9 : Nat} {Pre : Pt → Array Value → Prop} {Post : Pt → Array Value → Option Value → Pt → Prop} {PostX : Pt → Array Value → Addr → Pt → Prop} (hK : vx_Back l R p e below s args y 3 W9 Pre Post PostX)
    {b : Addr} {cellB : Cell} (hcell : T.heap[b]? = some cellB) (hobj : cellB.vm.isStatics = false) (hcls : s.vm.findClass C = some cellB.cls)
    {g : JFrame} (hg : g.method = m) (hsize : g.locals.size = c.maxLocals) {argsL rest : List Value} (hlen : ∀ sig, parseMethodDescriptor y.desc = some sig → argsL.length = sig.parameters.length)
    (hstack : g.stack = argsL.reverse ++ .ref b :: rest) (hW : 2 * g.monitorRoom + (rest.map fun v => v.category).sum ≤ W9) (hdg : decode c.code g.pc = .ok (.invokevirtual index, 3))
    (hpre : ∀ vm₁, s.WarmedH vm₁ → Pre ⟨T.setVm vm₁, locs, cells, slots⟩ (Value.ref b :: argsL).toArray) :
    (∃ (v : Option Value) (vm₁ : Vm) (B : Pt), s.WarmedH vm₁ ∧ Stand p l e R s m args below meth c B.U B.locs B.cells B.slots ∧ Post ⟨T.setVm vm₁, locs, cells, slots⟩ (Value.ref b :: argsL).toArray v B ∧
      ∀ target, Steps p.tables e below (B.U.setTop { g with pc := g.pc + 3, stack := v.toList ++ rest }) target → Steps p.tables e below (T.setTop g) target) ∨
    (∃ (q : Addr) (vm₁ : Vm) (B : Pt), s.WarmedH vm₁ ∧ Stand p l e R s m args below meth c B.U B.locs B.cells B.slots ∧ PostX ⟨T.setVm vm₁, locs, cells, slots⟩ (Value.ref b :: argsL).toArray q B ∧
      Steps p.tables e below (T.setTop g) ((B.U.setTop { g with stack := rest }).pushFrame (.throwing q))) := by
  obtain ⟨mk, methM, hnamed, hmethM, hstM, habM⟩ := Cond.instanceMethod_spec hinst
  obtain ⟨m8, methM', cM, hn8, hmethM', -, -, -, -, -, -, hsigM⟩ := Cond.codeWith_spec hcode
  cases Option.some.inj (hn8.symm.trans hnamed)
  cases hmethM.symm.trans hmethM'
  obtain ⟨c2, r2, m2, q1, q2, q3, q4, kP, hkP, hkPi⟩ := Cond.selects_spec hsel
  cases hcls.symm.trans q1
  cases (State.methodFound?_of_named hnamed hy).symm.trans q2
  cases hnamed.symm.trans q3
  have hselP : selectMethod e.platform s.vm cellB.cls mk = .method mk := by rw [Launch.admits_selectMethod X.admits]; exact q4
  obtain ⟨vm₁, X₁, hstep₁⟩ := X.invokevirtual hexec hown hlink hnamed hmethM hstM hkP hkPi hy (a := b) (cell := cellB) hcell
    (fun z h => by rw [h] at hobj; cases hobj) hselP hmethM habM hkP hkPi (g := g) hg (argsL := argsL) (rest := rest) (hlen _ hsigM) hstack hdg
  rcases hK m meth c ⟨T.setVm vm₁, locs, cells, slots⟩ { g with stack := rest } (.invokevirtual index) mk (Value.ref b :: argsL).toArray X₁ hg hsize hdg hW (X₁.named hnamed) (hpre vm₁ X₁.warmed) with ⟨v, B, X', hpost, hsteps⟩ | ⟨q, B, X', hpost, hsteps⟩
  · exact Or.inl ⟨v, vm₁, B, X₁.warmed, X', hpost, fun target h => hstep₁ _ fun acts => by rw [doInvoke_state]; exact hsteps.trans h⟩
  · exact Or.inr ⟨q, vm₁, B, X₁.warmed, X', hpost, hstep₁ _ fun acts => by rw [doInvoke_state]; exact hsteps⟩
theorem vx_callSX (X : Stand p l e R s m args below meth c T locs cells slots) (hexec : p.tables.exec = Jvm.exec) {own : String} {index : Nat} {y : MethodName} {bytes : ByteArray} {maxL : Nat} {ret : Option FieldType} {hh : List (Nat × Nat × Nat × Nat)}
    (hown : s.vm.findClass own = some m.cls) (hlink : (Cond.methodLink own index y).before args s = true) (hstat : (Cond.static y).before args s = true) (hinit : (Cond.initialized y.cls).before args s = true)
    (hcode : (Cond.codeWith y bytes maxL ret hh).before args s = true) (hy : y.cls ≠ "java/lang/invoke/MethodHandle" ∧ y.cls ≠ "java/lang/invoke/VarHandle")
    {W9 : Nat} {Pre : Pt → Array Value → Prop} {Post : Pt → Array Value → Option Value → Pt → Prop} {PostX : Pt → Array Value → Addr → Pt → Prop} (hK : vx_Back l R p e below s args y 3 W9 Pre Post PostX)
    {g : JFrame} (hg : g.method = m) (hsize : g.locals.size = c.maxLocals) {argsL rest : List Value} (hlen : ∀ sig, parseMethodDescriptor y.desc = some sig → argsL.length = sig.parameters.length)
    (hstack : g.stack = argsL.reverse ++ rest) (hW : 2 * g.monitorRoom + (rest.map fun v => v.category).sum ≤ W9) (hdg : decode c.code g.pc = .ok (.invokestatic index, 3))
    (hpre : ∀ vm₁, s.WarmedH vm₁ → Pre ⟨T.setVm vm₁, locs, cells, slots⟩ argsL.toArray) :
    (∃ (v : Option Value) (vm₁ : Vm) (B : Pt), s.WarmedH vm₁ ∧ Stand p l e R s m args below meth c B.U B.locs B.cells B.slots ∧ Post ⟨T.setVm vm₁, locs, cells, slots⟩ argsL.toArray v B ∧
      ∀ target, Steps p.tables e below (B.U.setTop { g with pc := g.pc + 3, stack := v.toList ++ rest }) target → Steps p.tables e below (T.setTop g) target) ∨
    (∃ (q : Addr) (vm₁ : Vm) (B : Pt), s.WarmedH vm₁ ∧ Stand p l e R s m args below meth c B.U B.locs B.cells B.slots ∧ PostX ⟨T.setVm vm₁, locs, cells, slots⟩ argsL.toArray q B ∧
      Steps p.tables e below (T.setTop g) ((B.U.setTop { g with stack := rest }).pushFrame (.throwing q))) := by
  obtain ⟨mk, methM, cM, hnamed, hmethM, -, -, -, -, -, -, hsigM⟩ := Cond.codeWith_spec hcode
  have hstatic : methM.isStatic = true := Cond.static_spec hnamed hmethM hstat
  obtain ⟨kP, hkP, -⟩ := className_of_methodNamed hnamed
  have hinitP : kP.init = .initialized := Cond.initialized_spec (findClass_of_methodNamed hnamed) hkP hinit
  obtain ⟨vm₁, X₁, hstep₁⟩ := X.invokestatic hexec hown hlink hnamed hmethM hstatic hkP hinitP hy (g := g) hg (argsL := argsL) (rest := rest) (hlen _ hsigM) hstack hdg
  rcases hK m meth c ⟨T.setVm vm₁, locs, cells, slots⟩ { g with stack := rest } (.invokestatic index) mk argsL.toArray X₁ hg hsize hdg hW (X₁.named hnamed) (hpre vm₁ X₁.warmed) with ⟨v, B, X', hpost, hsteps⟩ | ⟨q, B, X', hpost, hsteps⟩
  · exact Or.inl ⟨v, vm₁, B, X₁.warmed, X', hpost, fun target h => hstep₁ _ fun acts => by rw [doInvoke_state]; exact hsteps.trans h⟩
  · exact Or.inr ⟨q, vm₁, B, X₁.warmed, X', hpost, hstep₁ _ fun acts => by rw [doInvoke_state]; exact hsteps⟩
theorem vx_callVW (X : Stand p l e R s m args below meth c T locs cells slots) (hexec : p.tables.exec = Jvm.exec) {own C : String} {index : Nat} {y : MethodName} {bytes : ByteArray} {maxL : Nat} {ret : Option FieldType} {hh : List (Nat × Nat × Nat × Nat)}
    (hown : s.vm.findClass own = some m.cls) (hlink : (Cond.methodLink own index y).before args s = true) (hinst : (Cond.instanceMethod y).before args s = true) (hsel : (Cond.selects C y y).before args s = true)
    (hcode : (Cond.codeWith y bytes maxL ret hh).before args s = true) (hy : y.cls ≠ "java/lang/invoke/MethodHandle" ∧ y.cls ≠ "java/lang/invoke/VarHandle")
    {W9 : Nat} {Pre : Pt → Array Value → Prop} {Post : Pt → Array Value → Option Value → Pt → Prop} (hK : Back l R p e below s args y 3 W9 Pre Post)
    {b : Addr} {cellB : Cell} (hcell : T.heap[b]? = some cellB) (hobj : cellB.vm.isStatics = false) (hcls : s.vm.findClass C = some cellB.cls)
    {g : JFrame} (hg : g.method = m) (hsize : g.locals.size = c.maxLocals) {argsL rest : List Value} (hlen : ∀ sig, parseMethodDescriptor y.desc = some sig → argsL.length = sig.parameters.length)
    (hstack : g.stack = argsL.reverse ++ .ref b :: rest) (hW : 2 * g.monitorRoom + (rest.map fun v => v.category).sum ≤ W9) (hdg : decode c.code g.pc = .ok (.invokevirtual index, 3))
    (hpre : ∀ vm₁, s.WarmedH vm₁ → Pre ⟨T.setVm vm₁, locs, cells, slots⟩ (Value.ref b :: argsL).toArray) :
    ∃ (v : Option Value) (vm₁ : Vm) (B : Pt), s.WarmedH vm₁ ∧ Stand p l e R s m args below meth c B.U B.locs B.cells B.slots ∧ Post ⟨T.setVm vm₁, locs, cells, slots⟩ (Value.ref b :: argsL).toArray v B ∧
      ∀ target, Steps p.tables e below (B.U.setTop { g with pc := g.pc + 3, stack := v.toList ++ rest }) target → Steps p.tables e below (T.setTop g) target := by
  obtain ⟨mk, methM, hnamed, hmethM, hstM, habM⟩ := Cond.instanceMethod_spec hinst
  obtain ⟨m8, methM', cM, hn8, hmethM', -, -, -, -, -, -, hsigM⟩ := Cond.codeWith_spec hcode
  cases Option.some.inj (hn8.symm.trans hnamed)
  cases hmethM.symm.trans hmethM'
  obtain ⟨c2, r2, m2, q1, q2, q3, q4, kP, hkP, hkPi⟩ := Cond.selects_spec hsel
  cases hcls.symm.trans q1
  cases (State.methodFound?_of_named hnamed hy).symm.trans q2
  cases hnamed.symm.trans q3
  have hselP : selectMethod e.platform s.vm cellB.cls mk = .method mk := by rw [Launch.admits_selectMethod X.admits]; exact q4
  obtain ⟨vm₁, X₁, hstep₁⟩ := X.invokevirtual hexec hown hlink hnamed hmethM hstM hkP hkPi hy (a := b) (cell := cellB) hcell
    (fun z h => by rw [h] at hobj; cases hobj) hselP hmethM habM hkP hkPi (g := g) hg (argsL := argsL) (rest := rest) (hlen _ hsigM) hstack hdg
  obtain ⟨v, B, X', hpost, hsteps⟩ := hK m meth c ⟨T.setVm vm₁, locs, cells, slots⟩ { g with stack := rest } (.invokevirtual index) mk (Value.ref b :: argsL).toArray X₁ hg hsize hdg hW (X₁.named hnamed) (hpre vm₁ X₁.warmed)
  exact ⟨v, vm₁, B, X₁.warmed, X', hpost, fun target h => hstep₁ _ fun acts => by rw [doInvoke_state]; exact hsteps.trans h⟩
abbrev vx_CVW (R : Room) (s : State) (args : Array Value) (own C : String) (index : Nat) (y : MethodName) (bytes : ByteArray) (maxL : Nat) (ret : Option FieldType) (hh : List (Nat × Nat × Nat × Nat)) (ws : List Cond) (rm : Room) (mc ms n : Nat) : Prop :=
  (rm.cells = mc ∧ rm.slots = ms ∧ rm.frames + 1 ≤ R.frames ∧ 8 + (maxL + 11) + rm.locals ≤ R.locals ∧ (∀ w ∈ ws, ∀ (a' : Array Value) (U : State), s.WarmedH U.vm → w.before a' U = true) ∧ Cond.codeWith y bytes maxL ret hh ∈ ws) ∧
  (Cond.codeWith y bytes maxL ret hh).before args s = true ∧ (Cond.initialized y.cls).before args s = true ∧ (y.cls ≠ "java/lang/invoke/MethodHandle" ∧ y.cls ≠ "java/lang/invoke/VarHandle") ∧
  (∀ sig, parseMethodDescriptor y.desc = some sig → n = sig.parameters.length) ∧ (Cond.methodLink own index y).before args s = true ∧ (Cond.instanceMethod y).before args s = true ∧ (Cond.selects C y y).before args s = true
theorem vx_cwVW {own C : String} {index maxL mc ms : Nat} {y : MethodName} {bytes : ByteArray} {ret : Option FieldType} {hh : List (Nat × Nat × Nat × Nat)} {Ts ws ws' : List Cond} {rm : Room} (n : Nat) (ht : ∀ w ∈ Ts, w.before args s = true) (hT : GoodIn Ts (wsV own index C y ws)) (hw : ws = Cond.codeWith y bytes maxL ret hh :: ws') (hrc : rm.cells = mc) (hrs : rm.slots = ms)
    (hd : y.cls = C ∧ y.cls ≠ "java/lang/invoke/MethodHandle" ∧ y.cls ≠ "java/lang/invoke/VarHandle" ∧ (parseMethodDescriptor y.desc).map (fun d => d.parameters.length) = some n) (hR : rm.frames + 1 ≤ R.frames ∧ 8 + (maxL + 11) + rm.locals ≤ R.locals) :
    vx_CVW R s args own C index y bytes maxL ret hh ws rm mc ms n := by
  obtain ⟨hC, hd⟩ := hd
  subst hC
  have ok : ∀ w ∈ wsV own index y.cls y ws, w.before args s = true := fun w h => ht w (hT w h).1
  have hG : GoodIn Ts ws := fun w h => hT w (by unfold wsV; exact List.mem_append_right _ h)
  have hc : Cond.codeWith y bytes maxL ret hh ∈ ws := by rw [hw]; exact List.mem_cons_self
  refine ⟨⟨hrc, hrs, hR.1, hR.2, pay_in ht hG, hc⟩, ht _ (hG _ hc).1, ok _ (by simp [wsV]), ⟨hd.1, hd.2.1⟩, fun sig h => ?_, ok _ (by simp [wsV]), ok _ (by simp [wsV]), ok _ (by simp [wsV])⟩
  have h2 := hd.2.2
  rw [h] at h2
  exact (Option.some.inj h2).symm
theorem vx_runVW {y : MethodName} {bytes cc : ByteArray} {maxL nL mc ms n index : Nat} {ret : Option FieldType} {hh : List (Nat × Nat × Nat × Nat)} {ws : List Cond} {rm : Room} {Pc : Array Value → State → Prop} {Qc : Array Value → State → Outcome → State → Prop} {free : Addr → Prop} {Ts : List Cond} {own C : String} {b : Addr} {As rest : List Value} {g : JFrame}
    (S : CallFix p m c cc nL s args Ts own) (hM : Met l y ws rm Pc Qc mc ms free) (cw : vx_CVW R s args own C index y bytes maxL ret hh ws rm mc ms n) (hp : PreV s H C b Pc As)
    (hg : g.method = m) (hn : As.length = n) (hsize : g.locals.size = nL) (hstack : g.stack = As.reverse ++ .ref b :: rest) (hW : 2 * g.monitorRoom + (rest.map fun v => v.category).sum ≤ 8) (hdg : decode cc g.pc = .ok (.invokevirtual index, 3)) (hf : cells + mc ≤ R.cells ∧ slots + ms ≤ R.slots) :
    va_Run p l e R s m args below meth c H locs cells slots mc ms g rest (Qc (Value.ref b :: As).toArray) free := by
  obtain ⟨⟨hrc, hrs, hfr, hlo, hws, hcw⟩, hcode, hini, hy, hlen, hl, hin, hse⟩ := cw
  have hK : Back l R p e below s args y 3 8 (PreOf R mc ms Pc) (PostOf Qc mc ms free) := va_backW (hh := hh) (bytes := bytes) (maxL := maxL) (ret := ret) hM hp.1 hrc hrs hfr hlo hws hcw (fun a' U hW => word_at hW (Or.inl (by first | rfl | simp [Cond.onTables, Cond.keeps, Cond.steady])) hini)
  obtain ⟨hx, hb, hml, ho, -⟩ := S
  obtain ⟨-, ⟨cellB, hcB, hoB, hclB⟩, hPc⟩ := hp
  intro T hT X
  obtain ⟨v, vm₁, ⟨U', l2, c2, s2⟩, hW₁, X', ⟨g', mk, t, L, e1, e2, hq, h1, hL, h2, h3⟩, st⟩ := vx_callVW X hx (C := C) (hh := hh) (bytes := bytes) (maxL := maxL) (ret := ret) ho hl hin hse hcode hy hK (by rw [hT]; exact hcB) hoB hclB hg (hsize.trans hml.symm) (argsL := As) (rest := rest) (fun sig h => hn.trans (hlen sig h)) hstack hW (by rw [hb]; exact hdg)
    (fun vm₁ hW₁ => ⟨hf.1, hf.2, hPc (T.setVm vm₁) hT hW₁⟩)
  dsimp only [Pt.U, Pt.locs, Pt.cells, Pt.slots] at X' e1 e2 h1 h2 h3 st
  subst h1; subst h2; subst h3
  exact ⟨v, (T.setVm vm₁).calling g' mk (Value.ref b :: As).toArray, t, U', L, hT, X', hL, e1, e2, hq, st⟩
section
variable {y : MethodName} {bytes cc : ByteArray} {maxL nL mc ms n index : Nat} {ret : Option FieldType} {ws : List Cond} {rm : Room} {Pc : Array Value → State → Prop} {Qc : Array Value → State → Outcome → State → Prop} {XC : String → State → State → Prop} {free : Addr → Prop} {Ts : List Cond} {own C : String} {b : Addr} {As rest : List Value} {g : JFrame}
theorem vx_runVX {hh : List (Nat × Nat × Nat × Nat)} (S : CallFix p m c cc nL s args Ts own) (hM : vx_Met l y ws rm Pc Qc XC mc ms free) (cw : vx_CVW R s args own C index y bytes maxL ret hh ws rm mc ms n) (hp : PreV s H C b Pc As)
    (hg : g.method = m) (hn : As.length = n) (hsize : g.locals.size = nL) (hstack : g.stack = As.reverse ++ .ref b :: rest) (hW : 2 * g.monitorRoom + (rest.map fun v => v.category).sum ≤ 8) (hdg : decode cc g.pc = .ok (.invokevirtual index, 3)) (hf : cells + mc ≤ R.cells ∧ slots + ms ≤ R.slots) :
    vx_Run p l e R s m args below meth c H locs cells slots mc ms g rest (Qc (Value.ref b :: As).toArray) XC free := by
  obtain ⟨⟨hrc, hrs, hfr, hlo, hws, hcw⟩, hcode, hini, hy, hlen, hl, hin, hse⟩ := cw
  have hK : vx_Back l R p e below s args y 3 8 (PreOf R mc ms Pc) (PostOf Qc mc ms free) (vx_Post XC mc ms free) := vx_backW (hh := hh) (bytes := bytes) (maxL := maxL) (ret := ret) hM hp.1 hrc hrs hfr hlo hws hcw (fun a' U hW => word_at hW (Or.inl (by first | rfl | simp [Cond.onTables, Cond.keeps, Cond.steady])) hini)
  obtain ⟨hx, hb, hml, ho, -⟩ := S
  obtain ⟨-, ⟨cellB, hcB, hoB, hclB⟩, hPc⟩ := hp
  intro T hT X
  rcases vx_callVX X hx (C := C) (hh := hh) (bytes := bytes) (maxL := maxL) (ret := ret) ho hl hin hse hcode hy hK (by rw [hT]; exact hcB) hoB hclB hg (hsize.trans hml.symm) (argsL := As) (rest := rest) (fun sig h => hn.trans (hlen sig h)) hstack hW (by rw [hb]; exact hdg)
    (fun vm₁ hW₁ => ⟨hf.1, hf.2, hPc (T.setVm vm₁) hT hW₁⟩) with ⟨v, vm₁, ⟨U', l2, c2, s2⟩, hW₁, X', ⟨g', mk, t, L, e1, e2, hq, h1, hL, h2, h3⟩, st⟩ | ⟨q, vm₁, ⟨U', l2, c2, s2⟩, hW₁, X', ⟨g', mk, t, L, E, ce, e1, e2, hq, hce, hcv, hcl, h1, hL, h2, h3⟩, st⟩
  · dsimp only [Pt.U, Pt.locs, Pt.cells, Pt.slots] at X' e1 e2 h1 h2 h3 st
    subst h1; subst h2; subst h3
    exact Or.inl ⟨v, (T.setVm vm₁).calling g' mk (Value.ref b :: As).toArray, t, U', L, hT, X', hL, e1, e2, hq, st⟩
  · dsimp only [Pt.U, Pt.locs, Pt.cells, Pt.slots] at X' e1 e2 h1 h2 h3 st hcl
    subst h1; subst h2; subst h3
    exact Or.inr ⟨q, (T.setVm vm₁).calling g' mk (Value.ref b :: As).toArray, t, U', L, E, ce, hT, X', hL, e1, e2, hq, hce, hcv, vx_cls hW₁ hcl, st⟩
theorem vx_runSX {hh : List (Nat × Nat × Nat × Nat)} (S : CallFix p m c cc nL s args Ts own) (hM : vx_Met l y ws rm Pc Qc XC mc ms free) (cw : vx_CSW R s args own index y bytes maxL ret hh ws rm mc ms n) (hp : PreS s H Pc As)
    (hg : g.method = m) (hn : As.length = n) (hsize : g.locals.size = nL) (hstack : g.stack = As.reverse ++ rest) (hW : 2 * g.monitorRoom + (rest.map fun v => v.category).sum ≤ 8) (hdg : decode cc g.pc = .ok (.invokestatic index, 3)) (hf : cells + mc ≤ R.cells ∧ slots + ms ≤ R.slots) :
    vx_Run p l e R s m args below meth c H locs cells slots mc ms g rest (Qc As.toArray) XC free := by
  obtain ⟨⟨hrc, hrs, hfr, hlo, hws, hcw⟩, hcode, hini, hy, hlen, hl, hstt⟩ := cw
  have hK : vx_Back l R p e below s args y 3 8 (PreOf R mc ms Pc) (PostOf Qc mc ms free) (vx_Post XC mc ms free) := vx_backW (hh := hh) (bytes := bytes) (maxL := maxL) (ret := ret) hM hp.1 hrc hrs hfr hlo hws hcw (fun a' U hW => word_at hW (Or.inl (by first | rfl | simp [Cond.onTables, Cond.keeps, Cond.steady])) hini)
  obtain ⟨hx, hb, hml, ho, -⟩ := S
  intro T hT X
  rcases vx_callSX X hx (hh := hh) (bytes := bytes) (maxL := maxL) (ret := ret) ho hl hstt hini hcode hy hK hg (hsize.trans hml.symm) (argsL := As) (rest := rest) (fun sig h => hn.trans (hlen sig h)) hstack hW (by rw [hb]; exact hdg)
    (fun vm₁ hW₁ => ⟨hf.1, hf.2, hp.2 (T.setVm vm₁) hT hW₁⟩) with ⟨v, vm₁, ⟨U', l2, c2, s2⟩, hW₁, X', ⟨g', mk, t, L, e1, e2, hq, h1, hL, h2, h3⟩, st⟩ | ⟨q, vm₁, ⟨U', l2, c2, s2⟩, hW₁, X', ⟨g', mk, t, L, E, ce, e1, e2, hq, hce, hcv, hcl, h1, hL, h2, h3⟩, st⟩
  · dsimp only [Pt.U, Pt.locs, Pt.cells, Pt.slots] at X' e1 e2 h1 h2 h3 st
    subst h1; subst h2; subst h3
    exact Or.inl ⟨v, (T.setVm vm₁).calling g' mk As.toArray, t, U', L, hT, X', hL, e1, e2, hq, st⟩
  · dsimp only [Pt.U, Pt.locs, Pt.cells, Pt.slots] at X' e1 e2 h1 h2 h3 st hcl
    subst h1; subst h2; subst h3
    exact Or.inr ⟨q, (T.setVm vm₁).calling g' mk As.toArray, t, U', L, E, ce, hT, X', hL, e1, e2, hq, hce, hcv, vx_cls hW₁ hcl, st⟩
end
end VXH
theorem vx_ofWH {l : Launch} {y : MethodName} {ws ws' : List Cond} {rm : Room} {Pc : Array Value → State → Prop} {Qc : Array Value → State → Outcome → State → Prop} {XC : String → State → State → Prop} {mc ms : Nat} {free : Addr → Prop} {cc : ByteArray} {maxL : Nat} {ret : Option FieldType} {hh : List (Nat × Nat × Nat × Nat)}
    (hy : plainName y.cls = true) (hw : ws = Cond.codeWith y cc maxL ret hh :: ws')
    (body : ∀ p e s m args below meth c s₁, BodyLoose p l y (headSpec ws rm) cc maxL ret e s m args below meth c s₁ → c.maxLocals = maxL → Pc args s →
      W p l e (headSpec ws rm).room s m args below meth c s.heap [] 0 0 (vx_MQ below Qc XC args s mc ms free) (entryFrame m args maxL)) : vx_Met l y ws rm Pc Qc XC mc ms free := by
  refine MetFree.of_bodyS (code := cc) (maxLocals := maxL) (ret := ret) hy ?_ ?_
  · intro args s m h hn
    obtain ⟨m9, meth, c, hn9, h1, h2, h3, h4, -, h5, h6, -⟩ := Cond.codeWith_spec (atoms_spec (ws := ws) h _ (by rw [hw]; exact List.mem_cons_self))
    cases hn.symm.trans hn9
    exact ⟨meth, c, h1, h2, h3, h4, h5, h6⟩
  · intro p e s m args below meth c s₁ B hml hP _
    have hh0 : s₁.heap = s.heap := by rw [B.state]; rfl
    obtain ⟨t, a1, o, b1, b2, b3⟩ := body p e s m args below meth c s₁ B hml hP s₁ hh0 (Stand.of_body B)
    exact ⟨t, o, a1, b1, b2, b3⟩
/-! ===== END ===== -/
end
section
/-! ===== BEGIN printed: names, fields, word lists, decode rows ===== -/
def RX0 : String := "TwinFinder$Document"
def TX0 : u_T := fun k => match k with
  | 0 => ("TwinFinder$Document", "slot", "I", true)
  | 1 => ("TwinFinder$Document", "set", "[J", true)
  | 2 => ("TwinFinder$Document", "numbers", "[I", true)
  | 3 => ("TwinFinder$Document", "least", "[I", true)
  | 4 => ("TwinFinder$Document", "shared", "[I", true)
  | 5 => ("TwinFinder$Document", "number", "I", false)
  | _ => ("TwinFinder$Document", "size", "I", false)
def tyX0 : Nat → FieldType := fun k => match k with
  | 0 => .int
  | 1 => .array .long
  | 2 => .array .int
  | 3 => .array .int
  | 4 => .array .int
  | 5 => .int
  | _ => .int
abbrev wsX00 : List Cond := u_ws RX0 TX0 7
theorem nmX0 : ∀ a, a < 7 → ∀ b, b < 7 → a ≠ b → (TX0 a).2.1 ≠ (TX0 b).2.1 := by decide +kernel
theorem tyX0_ok : ∀ k, k < 7 → parseFieldDescriptor (TX0 k).2.2.1 = some (tyX0 k) := by decide +kernel
abbrev cX0_init : ByteArray := prog_2_method_1_code
def yX0_init : MethodName := ⟨RX0, "<init>", "(I)V"⟩
abbrev cX0_fillWith : ByteArray := prog_2_method_2_code
def yX0_fillWith : MethodName := ⟨RX0, "fillWith", "([III)V"⟩
abbrev cX0_countShared : ByteArray := prog_2_method_3_code
def yX0_countShared : MethodName := ⟨RX0, "countShared", "(LTwinFinder$Document;)I"⟩
def RX1 : String := "TwinFinder$Kin"
def TX1 : u_T := fun k => match k with
  | 0 => ("TwinFinder$Kin", "candidates", "LTwinFinder$PairRow;", true)
  | 1 => ("TwinFinder$Kin", "twins", "LTwinFinder$PairRow;", true)
  | 2 => ("TwinFinder$Kin", "number", "[I", true)
  | 3 => ("TwinFinder$Kin", "twinCount", "[I", true)
  | 4 => ("TwinFinder$Kin", "leader", "[I", true)
  | 5 => ("TwinFinder$Kin", "members", "[I", true)
  | 6 => ("TwinFinder$Kin", "places", "I", false)
  | _ => ("TwinFinder$Kin", "known", "Z", false)
def tyX1 : Nat → FieldType := fun k => match k with
  | 0 => .object "TwinFinder$PairRow"
  | 1 => .object "TwinFinder$PairRow"
  | 2 => .array .int
  | 3 => .array .int
  | 4 => .array .int
  | 5 => .array .int
  | 6 => .int
  | _ => .boolean
abbrev wsX10 : List Cond := u_ws RX1 TX1 8
theorem nmX1 : ∀ a, a < 8 → ∀ b, b < 8 → a ≠ b → (TX1 a).2.1 ≠ (TX1 b).2.1 := by decide +kernel
theorem tyX1_ok : ∀ k, k < 8 → parseFieldDescriptor (TX1 k).2.2.1 = some (tyX1 k) := by decide +kernel
abbrev cX1_init : ByteArray := prog_3_method_1_code
def yX1_init : MethodName := ⟨RX1, "<init>", "()V"⟩
abbrev cX1_learn : ByteArray := prog_3_method_2_code
def yX1_learn : MethodName := ⟨RX1, "learn", "(Ljava/util/ArrayList;LTwinFinder$Measure;)V"⟩
abbrev cX1_begin : ByteArray := prog_3_method_3_code
def yX1_begin : MethodName := ⟨RX1, "begin", "(Ljava/util/ArrayList;)V"⟩
abbrev cX1_compare : ByteArray := prog_3_method_4_code
def yX1_compare : MethodName := ⟨RX1, "compare", "(ILTwinFinder$Document;ILTwinFinder$Document;LTwinFinder$Measure;)V"⟩
abbrev cX1_join : ByteArray := prog_3_method_5_code
def yX1_join : MethodName := ⟨RX1, "join", "(II)V"⟩
abbrev cX1_familyOf : ByteArray := prog_3_method_6_code
def yX1_familyOf : MethodName := ⟨RX1, "familyOf", "(I)I"⟩
abbrev cX1_membersWith : ByteArray := prog_3_method_7_code
def yX1_membersWith : MethodName := ⟨RX1, "membersWith", "(I)I"⟩
abbrev cX1_twinsOf : ByteArray := prog_3_method_8_code
def yX1_twinsOf : MethodName := ⟨RX1, "twinsOf", "(I)I"⟩
abbrev cX1_families : ByteArray := prog_3_method_9_code
def yX1_families : MethodName := ⟨RX1, "families", "(I)I"⟩
abbrev cX1_familyAt : ByteArray := prog_3_method_10_code
def yX1_familyAt : MethodName := ⟨RX1, "familyAt", "(II)I"⟩
def RX2 : String := "TwinFinder$Measure"
def TX2 : u_T := fun k => match k with
  | 0 => ("TwinFinder$Measure", "bandCount", "I", false)
  | 1 => ("TwinFinder$Measure", "rowCount", "I", false)
  | 2 => ("TwinFinder$Measure", "p", "I", false)
  | _ => ("TwinFinder$Measure", "q", "I", false)
def tyX2 : Nat → FieldType := fun k => match k with
  | 0 => .int
  | 1 => .int
  | 2 => .int
  | _ => .int
abbrev wsX20 : List Cond := u_ws RX2 TX2 4
theorem nmX2 : ∀ a, a < 4 → ∀ b, b < 4 → a ≠ b → (TX2 a).2.1 ≠ (TX2 b).2.1 := by decide +kernel
theorem tyX2_ok : ∀ k, k < 4 → parseFieldDescriptor (TX2 k).2.2.1 = some (tyX2 k) := by decide +kernel
abbrev cX2_init : ByteArray := prog_4_method_1_code
def yX2_init : MethodName := ⟨RX2, "<init>", "()V"⟩
abbrev cX2_takeBands : ByteArray := prog_4_method_2_code
def yX2_takeBands : MethodName := ⟨RX2, "takeBands", "(II)Z"⟩
abbrev cX2_takeThreshold : ByteArray := prog_4_method_3_code
def yX2_takeThreshold : MethodName := ⟨RX2, "takeThreshold", "(II)Z"⟩
abbrev cX2_common : ByteArray := prog_4_method_4_code
def yX2_common : MethodName := ⟨RX2, "common", "(LTwinFinder$Document;LTwinFinder$Document;)I"⟩
abbrev cX2_all : ByteArray := prog_4_method_5_code
def yX2_all : MethodName := ⟨RX2, "all", "(LTwinFinder$Document;LTwinFinder$Document;)I"⟩
abbrev cX2_sameImages : ByteArray := prog_4_method_6_code
def yX2_sameImages : MethodName := ⟨RX2, "sameImages", "(LTwinFinder$Document;LTwinFinder$Document;)I"⟩
abbrev cX2_firstBand : ByteArray := prog_4_method_7_code
def yX2_firstBand : MethodName := ⟨RX2, "firstBand", "(LTwinFinder$Document;LTwinFinder$Document;)I"⟩
abbrev cX2_agree : ByteArray := prog_4_method_8_code
def yX2_agree : MethodName := ⟨RX2, "agree", "(LTwinFinder$Document;LTwinFinder$Document;I)Z"⟩
abbrev cX2_areTwins : ByteArray := prog_4_method_9_code
def yX2_areTwins : MethodName := ⟨RX2, "areTwins", "(LTwinFinder$Document;LTwinFinder$Document;)Z"⟩
abbrev cX2_areNear : ByteArray := prog_4_method_10_code
def yX2_areNear : MethodName := ⟨RX2, "areNear", "(LTwinFinder$Document;LTwinFinder$Document;)Z"⟩
abbrev cX2_isNearer : ByteArray := prog_4_method_11_code
def yX2_isNearer : MethodName := ⟨RX2, "isNearer", "(LTwinFinder$Document;LTwinFinder$Document;LTwinFinder$Document;)Z"⟩
def RX3 : String := "TwinFinder$PairRow"
def TX3 : u_T := fun k => match k with
  | 0 => ("TwinFinder$PairRow", "first", "[I", true)
  | 1 => ("TwinFinder$PairRow", "second", "[I", true)
  | _ => ("TwinFinder$PairRow", "size", "I", false)
def tyX3 : Nat → FieldType := fun k => match k with
  | 0 => .array .int
  | 1 => .array .int
  | _ => .int
abbrev wsX30 : List Cond := u_ws RX3 TX3 3
theorem nmX3 : ∀ a, a < 3 → ∀ b, b < 3 → a ≠ b → (TX3 a).2.1 ≠ (TX3 b).2.1 := by decide +kernel
theorem tyX3_ok : ∀ k, k < 3 → parseFieldDescriptor (TX3 k).2.2.1 = some (tyX3 k) := by decide +kernel
abbrev cX3_init : ByteArray := prog_5_method_1_code
def yX3_init : MethodName := ⟨RX3, "<init>", "()V"⟩
abbrev cX3_put : ByteArray := prog_5_method_2_code
def yX3_put : MethodName := ⟨RX3, "put", "(II)V"⟩
abbrev cX3_side : ByteArray := prog_5_method_3_code
def yX3_side : MethodName := ⟨RX3, "side", "(II)I"⟩
def RX4 : String := "TwinFinder$Permutations"
def TX4 : u_T := fun k => match k with
  | 0 => ("TwinFinder$Permutations", "factor", "[I", true)
  | 1 => ("TwinFinder$Permutations", "summand", "[I", true)
  | 2 => ("TwinFinder$Permutations", "exchanges", "[I", true)
  | 3 => ("TwinFinder$Permutations", "movedKey", "[I", true)
  | 4 => ("TwinFinder$Permutations", "movedImage", "[I", true)
  | 5 => ("TwinFinder$Permutations", "moved", "I", false)
  | _ => ("TwinFinder$Permutations", "kept", "I", false)
def tyX4 : Nat → FieldType := fun k => match k with
  | 0 => .array .int
  | 1 => .array .int
  | 2 => .array .int
  | 3 => .array .int
  | 4 => .array .int
  | 5 => .int
  | _ => .int
abbrev wsX40 : List Cond := u_ws RX4 TX4 7
theorem nmX4 : ∀ a, a < 7 → ∀ b, b < 7 → a ≠ b → (TX4 a).2.1 ≠ (TX4 b).2.1 := by decide +kernel
theorem tyX4_ok : ∀ k, k < 7 → parseFieldDescriptor (TX4 k).2.2.1 = some (tyX4 k) := by decide +kernel
abbrev cX4_init : ByteArray := prog_6_method_1_code
def yX4_init : MethodName := ⟨RX4, "<init>", "()V"⟩
abbrev cX4_isOne : ByteArray := prog_6_method_2_code
def yX4_isOne : MethodName := ⟨RX4, "isOne", "(I)Z"⟩
abbrev cX4_isNumber : ByteArray := prog_6_method_3_code
def yX4_isNumber : MethodName := ⟨RX4, "isNumber", "(I)Z"⟩
abbrev cX4_become : ByteArray := prog_6_method_4_code
def yX4_become : MethodName := ⟨RX4, "become", "(III)Z"⟩
abbrev cX4_swap : ByteArray := prog_6_method_5_code
def yX4_swap : MethodName := ⟨RX4, "swap", "(III)Z"⟩
abbrev cX4_imageOf : ByteArray := prog_6_method_6_code
def yX4_imageOf : MethodName := ⟨RX4, "imageOf", "(II)I"⟩
abbrev cX4_leastOf : ByteArray := prog_6_method_7_code
def yX4_leastOf : MethodName := ⟨RX4, "leastOf", "(LTwinFinder$Document;I)I"⟩
abbrev cX4_keyOf : ByteArray := prog_6_method_8_code
def yX4_keyOf : MethodName := ⟨RX4, "keyOf", "(II)I"⟩
abbrev cX4_placeFor : ByteArray := prog_6_method_9_code
def yX4_placeFor : MethodName := ⟨RX4, "placeFor", "(I)I"⟩
abbrev cX4_move : ByteArray := prog_6_method_10_code
def yX4_move : MethodName := ⟨RX4, "move", "(II)V"⟩
abbrev cX4_dropMoved : ByteArray := prog_6_method_11_code
def yX4_dropMoved : MethodName := ⟨RX4, "dropMoved", "(I)V"⟩
def RX5 : String := "TwinFinder$Shelf"
def TX5 : u_T := fun k => match k with
  | 0 => ("TwinFinder$Shelf", "here", "Ljava/util/ArrayList;", true)
  | 1 => ("TwinFinder$Shelf", "spare", "Ljava/util/ArrayList;", true)
  | 2 => ("TwinFinder$Shelf", "ranked", "Ljava/util/ArrayList;", true)
  | _ => ("TwinFinder$Shelf", "came", "I", false)
def tyX5 : Nat → FieldType := fun k => match k with
  | 0 => .object "java/util/ArrayList"
  | 1 => .object "java/util/ArrayList"
  | 2 => .object "java/util/ArrayList"
  | _ => .int
abbrev wsX50 : List Cond := u_ws RX5 TX5 4
theorem nmX5 : ∀ a, a < 4 → ∀ b, b < 4 → a ≠ b → (TX5 a).2.1 ≠ (TX5 b).2.1 := by decide +kernel
theorem tyX5_ok : ∀ k, k < 4 → parseFieldDescriptor (TX5 k).2.2.1 = some (tyX5 k) := by decide +kernel
abbrev cX5_init : ByteArray := prog_7_method_1_code
def yX5_init : MethodName := ⟨RX5, "<init>", "()V"⟩
abbrev cX5_isFull : ByteArray := prog_7_method_2_code
def yX5_isFull : MethodName := ⟨RX5, "isFull", "()Z"⟩
abbrev cX5_placeOf : ByteArray := prog_7_method_3_code
def yX5_placeOf : MethodName := ⟨RX5, "placeOf", "(I)I"⟩
abbrev cX5_takeNext : ByteArray := prog_7_method_4_code
def yX5_takeNext : MethodName := ⟨RX5, "takeNext", "()LTwinFinder$Document;"⟩
abbrev cX5_shareWithAll : ByteArray := prog_7_method_5_code
def yX5_shareWithAll : MethodName := ⟨RX5, "shareWithAll", "(LTwinFinder$Document;)V"⟩
abbrev cX5_putAway : ByteArray := prog_7_method_6_code
def yX5_putAway : MethodName := ⟨RX5, "putAway", "(I)Z"⟩
abbrev cX5_putAllAway : ByteArray := prog_7_method_7_code
def yX5_putAllAway : MethodName := ⟨RX5, "putAllAway", "()I"⟩
abbrev cX5_othersByNearness : ByteArray := prog_7_method_8_code
def yX5_othersByNearness : MethodName := ⟨RX5, "othersByNearness", "(LTwinFinder$Document;LTwinFinder$Measure;)Ljava/util/ArrayList;"⟩
abbrev cX5_rankOf : ByteArray := prog_7_method_9_code
def yX5_rankOf : MethodName := ⟨RX5, "rankOf", "(LTwinFinder$Document;LTwinFinder$Document;LTwinFinder$Measure;)I"⟩
def RX6 : String := "TwinFinder$Store"
def TX6 : u_T := fun k => match k with
  | 0 => ("TwinFinder$Store", "letters", "[B", true)
  | 1 => ("TwinFinder$Store", "begin", "[I", true)
  | 2 => ("TwinFinder$Store", "seatOf", "[I", true)
  | 3 => ("TwinFinder$Store", "seats", "[I", true)
  | _ => ("TwinFinder$Store", "given", "I", false)
def tyX6 : Nat → FieldType := fun k => match k with
  | 0 => .array .byte
  | 1 => .array .int
  | 2 => .array .int
  | 3 => .array .int
  | _ => .int
abbrev wsX60 : List Cond := u_ws RX6 TX6 5
theorem nmX6 : ∀ a, a < 5 → ∀ b, b < 5 → a ≠ b → (TX6 a).2.1 ≠ (TX6 b).2.1 := by decide +kernel
theorem tyX6_ok : ∀ k, k < 5 → parseFieldDescriptor (TX6 k).2.2.1 = some (tyX6 k) := by decide +kernel
abbrev cX6_init : ByteArray := prog_8_method_1_code
def yX6_init : MethodName := ⟨RX6, "<init>", "()V"⟩
abbrev cX6_bytesUsed : ByteArray := prog_8_method_2_code
def yX6_bytesUsed : MethodName := ⟨RX6, "bytesUsed", "()I"⟩
abbrev cX6_byteOf : ByteArray := prog_8_method_3_code
def yX6_byteOf : MethodName := ⟨RX6, "byteOf", "(II)I"⟩
abbrev cX6_numberOf : ByteArray := prog_8_method_4_code
def yX6_numberOf : MethodName := ⟨RX6, "numberOf", "([BII)I"⟩
abbrev cX6_firstSeat : ByteArray := prog_8_method_5_code
def yX6_firstSeat : MethodName := ⟨RX6, "firstSeat", "([BII)I"⟩
abbrev cX6_isThere : ByteArray := prog_8_method_6_code
def yX6_isThere : MethodName := ⟨RX6, "isThere", "(I[BII)Z"⟩
abbrev cX6_enter : ByteArray := prog_8_method_7_code
def yX6_enter : MethodName := ⟨RX6, "enter", "([BIII)I"⟩
abbrev cX6_forgetFrom : ByteArray := prog_8_method_8_code
def yX6_forgetFrom : MethodName := ⟨RX6, "forgetFrom", "(I)V"⟩
def RX7 : String := "TwinFinder$Tape"
def TX7 : u_T := fun k => match k with
  | 0 => ("TwinFinder$Tape", "bytes", "[B", true)
  | 1 => ("TwinFinder$Tape", "plain", "[B", true)
  | 2 => ("TwinFinder$Tape", "start", "[I", true)
  | 3 => ("TwinFinder$Tape", "length", "I", false)
  | 4 => ("TwinFinder$Tape", "plainLength", "I", false)
  | 5 => ("TwinFinder$Tape", "pieces", "I", false)
  | _ => ("TwinFinder$Tape", "gap", "I", false)
def tyX7 : Nat → FieldType := fun k => match k with
  | 0 => .array .byte
  | 1 => .array .byte
  | 2 => .array .int
  | 3 => .int
  | 4 => .int
  | 5 => .int
  | _ => .int
abbrev wsX70 : List Cond := u_ws RX7 TX7 7
theorem nmX7 : ∀ a, a < 7 → ∀ b, b < 7 → a ≠ b → (TX7 a).2.1 ≠ (TX7 b).2.1 := by decide +kernel
theorem tyX7_ok : ∀ k, k < 7 → parseFieldDescriptor (TX7 k).2.2.1 = some (tyX7 k) := by decide +kernel
abbrev cX7_init : ByteArray := prog_9_method_1_code
def yX7_init : MethodName := ⟨RX7, "<init>", "()V"⟩
abbrev cX7_putFour : ByteArray := prog_9_method_2_code
def yX7_putFour : MethodName := ⟨RX7, "putFour", "(I)V"⟩
abbrev cX7_cutTo : ByteArray := prog_9_method_3_code
def yX7_cutTo : MethodName := ⟨RX7, "cutTo", "(I)Z"⟩
abbrev cX7_makePlain : ByteArray := prog_9_method_4_code
def yX7_makePlain : MethodName := ⟨RX7, "makePlain", "()I"⟩
abbrev cX7_putPlain : ByteArray := prog_9_method_5_code
def yX7_putPlain : MethodName := ⟨RX7, "putPlain", "(I)V"⟩
abbrev cX7_plainSign : ByteArray := prog_9_method_6_code
def yX7_plainSign : MethodName := ⟨RX7, "plainSign", "(I)I"⟩
abbrev cX7_markPieces : ByteArray := prog_9_method_7_code
def yX7_markPieces : MethodName := ⟨RX7, "markPieces", "(Z)V"⟩
def RX8 : String := "TwinFinder"
def TX8 : u_T := fun k => match k with
  | 0 => ("TwinFinder", "tape", "LTwinFinder$Tape;", true)
  | 1 => ("TwinFinder", "store", "LTwinFinder$Store;", true)
  | 2 => ("TwinFinder", "permutations", "LTwinFinder$Permutations;", true)
  | 3 => ("TwinFinder", "shelf", "LTwinFinder$Shelf;", true)
  | 4 => ("TwinFinder", "measure", "LTwinFinder$Measure;", true)
  | 5 => ("TwinFinder", "kin", "LTwinFinder$Kin;", true)
  | 6 => ("TwinFinder", "along", "[I", true)
  | 7 => ("TwinFinder", "sortAtHand", "I", false)
  | _ => ("TwinFinder", "rowAtHand", "I", false)
def tyX8 : Nat → FieldType := fun k => match k with
  | 0 => .object "TwinFinder$Tape"
  | 1 => .object "TwinFinder$Store"
  | 2 => .object "TwinFinder$Permutations"
  | 3 => .object "TwinFinder$Shelf"
  | 4 => .object "TwinFinder$Measure"
  | 5 => .object "TwinFinder$Kin"
  | 6 => .array .int
  | 7 => .int
  | _ => .int
abbrev wsX80 : List Cond := u_ws RX8 TX8 9
theorem nmX8 : ∀ a, a < 9 → ∀ b, b < 9 → a ≠ b → (TX8 a).2.1 ≠ (TX8 b).2.1 := by decide +kernel
theorem tyX8_ok : ∀ k, k < 9 → parseFieldDescriptor (TX8 k).2.2.1 = some (tyX8 k) := by decide +kernel
abbrev cX8_init : ByteArray := prog_1_method_1_code
def yX8_init : MethodName := ⟨RX8, "<init>", "()V"⟩
abbrev cX8_feed : ByteArray := prog_1_method_2_code
def yX8_feed : MethodName := ⟨RX8, "feed", "(IIIII)I"⟩
abbrev cX8_end : ByteArray := prog_1_method_3_code
def yX8_end : MethodName := ⟨RX8, "end", "(I)Z"⟩
abbrev cX8_add : ByteArray := prog_1_method_4_code
def yX8_add : MethodName := ⟨RX8, "add", "()I"⟩
abbrev cX8_remove : ByteArray := prog_1_method_5_code
def yX8_remove : MethodName := ⟨RX8, "remove", "(I)Z"⟩
abbrev cX8_mode : ByteArray := prog_1_method_6_code
def yX8_mode : MethodName := ⟨RX8, "mode", "(II)I"⟩
abbrev cX8_tell : ByteArray := prog_1_method_7_code
def yX8_tell : MethodName := ⟨RX8, "tell", "(III)Z"⟩
abbrev cX8_exchange : ByteArray := prog_1_method_8_code
def yX8_exchange : MethodName := ⟨RX8, "exchange", "(III)I"⟩
abbrev cX8_image : ByteArray := prog_1_method_9_code
def yX8_image : MethodName := ⟨RX8, "image", "(II)I"⟩
abbrev cX8_bands : ByteArray := prog_1_method_10_code
def yX8_bands : MethodName := ⟨RX8, "bands", "(II)Z"⟩
abbrev cX8_threshold : ByteArray := prog_1_method_11_code
def yX8_threshold : MethodName := ⟨RX8, "threshold", "(II)Z"⟩
abbrev cX8_document : ByteArray := prog_1_method_12_code
def yX8_document : MethodName := ⟨RX8, "document", "(II)I"⟩
abbrev cX8_shingle : ByteArray := prog_1_method_13_code
def yX8_shingle : MethodName := ⟨RX8, "shingle", "(II)I"⟩
abbrev cX8_letter : ByteArray := prog_1_method_14_code
def yX8_letter : MethodName := ⟨RX8, "letter", "(II)I"⟩
abbrev cX8_signature : ByteArray := prog_1_method_15_code
def yX8_signature : MethodName := ⟨RX8, "signature", "(II)I"⟩
abbrev cX8_both : ByteArray := prog_1_method_16_code
def yX8_both : MethodName := ⟨RX8, "both", "(III)I"⟩
abbrev cX8_pairs : ByteArray := prog_1_method_17_code
def yX8_pairs : MethodName := ⟨RX8, "pairs", "(I)I"⟩
abbrev cX8_pair : ByteArray := prog_1_method_18_code
def yX8_pair : MethodName := ⟨RX8, "pair", "(III)I"⟩
abbrev cX8_nearest : ByteArray := prog_1_method_19_code
def yX8_nearest : MethodName := ⟨RX8, "nearest", "(II)I"⟩
abbrev cX8_count : ByteArray := prog_1_method_20_code
def yX8_count : MethodName := ⟨RX8, "count", "(I)I"⟩
abbrev cX8_documentThere : ByteArray := prog_1_method_21_code
def yX8_documentThere : MethodName := ⟨RX8, "documentThere", "(I)LTwinFinder$Document;"⟩
abbrev cX8_numberAlongText : ByteArray := prog_1_method_22_code
def yX8_numberAlongText : MethodName := ⟨RX8, "numberAlongText", "()I"⟩
abbrev cX8_renewImages : ByteArray := prog_1_method_23_code
def yX8_renewImages : MethodName := ⟨RX8, "renewImages", "(I)V"⟩
def RX9 : String := "TwinFinderModel"
def TX9 : u_T := fun k => match k with
  | 0 => ("TwinFinderModel", "thrown", "I", false)
  | 1 => ("TwinFinderModel", "tape", "[B", true)
  | 2 => ("TwinFinderModel", "plain", "[B", true)
  | 3 => ("TwinFinderModel", "length", "I", false)
  | 4 => ("TwinFinderModel", "plainSize", "I", false)
  | 5 => ("TwinFinderModel", "letters", "[B", true)
  | 6 => ("TwinFinderModel", "from", "[I", true)
  | 7 => ("TwinFinderModel", "size", "[I", true)
  | 8 => ("TwinFinderModel", "numbers", "I", false)
  | 9 => ("TwinFinderModel", "bytes", "I", false)
  | 10 => ("TwinFinderModel", "sort", "I", false)
  | 11 => ("TwinFinderModel", "wide", "I", false)
  | 12 => ("TwinFinderModel", "fresh", "[I", true)
  | 13 => ("TwinFinderModel", "freshMany", "I", false)
  | 14 => ("TwinFinderModel", "number", "[I", true)
  | 15 => ("TwinFinderModel", "many", "[I", true)
  | 16 => ("TwinFinderModel", "set", "[I", true)
  | 17 => ("TwinFinderModel", "documents", "I", false)
  | 18 => ("TwinFinderModel", "came", "I", false)
  | 19 => ("TwinFinderModel", "stale", "Z", false)
  | 20 => ("TwinFinderModel", "times", "[I", true)
  | 21 => ("TwinFinderModel", "more", "[I", true)
  | 22 => ("TwinFinderModel", "whose", "[I", true)
  | 23 => ("TwinFinderModel", "one", "[I", true)
  | 24 => ("TwinFinderModel", "other", "[I", true)
  | 25 => ("TwinFinderModel", "exchanges", "I", false)
  | 26 => ("TwinFinderModel", "least", "[I", true)
  | 27 => ("TwinFinderModel", "bands", "I", false)
  | 28 => ("TwinFinderModel", "rows", "I", false)
  | 29 => ("TwinFinderModel", "p", "I", false)
  | 30 => ("TwinFinderModel", "q", "I", false)
  | _ => ("TwinFinderModel", "family", "[I", true)
def tyX9 : Nat → FieldType := fun k => match k with
  | 0 => .int
  | 1 => .array .byte
  | 2 => .array .byte
  | 3 => .int
  | 4 => .int
  | 5 => .array .byte
  | 6 => .array .int
  | 7 => .array .int
  | 8 => .int
  | 9 => .int
  | 10 => .int
  | 11 => .int
  | 12 => .array .int
  | 13 => .int
  | 14 => .array .int
  | 15 => .array .int
  | 16 => .array .int
  | 17 => .int
  | 18 => .int
  | 19 => .boolean
  | 20 => .array .int
  | 21 => .array .int
  | 22 => .array .int
  | 23 => .array .int
  | 24 => .array .int
  | 25 => .int
  | 26 => .array .int
  | 27 => .int
  | 28 => .int
  | 29 => .int
  | 30 => .int
  | _ => .array .int
abbrev wsX90 : List Cond := u_ws RX9 TX9 32
theorem nmX9 : ∀ a, a < 32 → ∀ b, b < 32 → a ≠ b → (TX9 a).2.1 ≠ (TX9 b).2.1 := by decide +kernel
theorem tyX9_ok : ∀ k, k < 32 → parseFieldDescriptor (TX9 k).2.2.1 = some (tyX9 k) := by decide +kernel
abbrev cX9_thrown : ByteArray := prog_11_method_1_code
def yX9_thrown : MethodName := ⟨RX9, "thrown", "()I"⟩
abbrev cX9_throwsIf : ByteArray := prog_11_method_2_code
def yX9_throwsIf : MethodName := ⟨RX9, "throwsIf", "(Z)Z"⟩
abbrev cX9_feed : ByteArray := prog_11_method_3_code
def yX9_feed : MethodName := ⟨RX9, "feed", "(IIIII)I"⟩
abbrev cX9_four : ByteArray := prog_11_method_4_code
def yX9_four : MethodName := ⟨RX9, "four", "(I)V"⟩
abbrev cX9_end : ByteArray := prog_11_method_5_code
def yX9_end : MethodName := ⟨RX9, "end", "(I)Z"⟩
abbrev cX9_makePlain : ByteArray := prog_11_method_6_code
def yX9_makePlain : MethodName := ⟨RX9, "makePlain", "()V"⟩
abbrev cX9_numberOf : ByteArray := prog_11_method_7_code
def yX9_numberOf : MethodName := ⟨RX9, "numberOf", "(II)I"⟩
abbrev cX9_comes : ByteArray := prog_11_method_8_code
def yX9_comes : MethodName := ⟨RX9, "comes", "(II)Z"⟩
abbrev cX9_all : ByteArray := prog_11_method_9_code
def yX9_all : MethodName := ⟨RX9, "all", "()Z"⟩
abbrev cX9_add : ByteArray := prog_11_method_10_code
def yX9_add : MethodName := ⟨RX9, "add", "()I"⟩
abbrev cX9_slot : ByteArray := prog_11_method_11_code
def yX9_slot : MethodName := ⟨RX9, "slot", "(I)I"⟩
abbrev cX9_remove : ByteArray := prog_11_method_12_code
def yX9_remove : MethodName := ⟨RX9, "remove", "(I)Z"⟩
abbrev cX9_mode : ByteArray := prog_11_method_13_code
def yX9_mode : MethodName := ⟨RX9, "mode", "(II)I"⟩
abbrev cX9_init : ByteArray := prog_11_method_14_code
def yX9_init : MethodName := ⟨RX9, "<init>", "()V"⟩
abbrev cX9_isNone : ByteArray := prog_11_method_15_code
def yX9_isNone : MethodName := ⟨RX9, "isNone", "(III)Z"⟩
abbrev cX9_tell : ByteArray := prog_11_method_16_code
def yX9_tell : MethodName := ⟨RX9, "tell", "(III)Z"⟩
abbrev cX9_exchange : ByteArray := prog_11_method_17_code
def yX9_exchange : MethodName := ⟨RX9, "exchange", "(III)I"⟩
abbrev cX9_imageOf : ByteArray := prog_11_method_18_code
def yX9_imageOf : MethodName := ⟨RX9, "imageOf", "(II)I"⟩
abbrev cX9_image : ByteArray := prog_11_method_19_code
def yX9_image : MethodName := ⟨RX9, "image", "(II)I"⟩
abbrev cX9_sign : ByteArray := prog_11_method_20_code
def yX9_sign : MethodName := ⟨RX9, "sign", "()V"⟩
abbrev cX9_bands : ByteArray := prog_11_method_21_code
def yX9_bands : MethodName := ⟨RX9, "bands", "(II)Z"⟩
abbrev cX9_threshold : ByteArray := prog_11_method_22_code
def yX9_threshold : MethodName := ⟨RX9, "threshold", "(II)Z"⟩
abbrev cX9_common : ByteArray := prog_11_method_23_code
def yX9_common : MethodName := ⟨RX9, "common", "(II)I"⟩
abbrev cX9_band : ByteArray := prog_11_method_24_code
def yX9_band : MethodName := ⟨RX9, "band", "(II)I"⟩
abbrev cX9_areTwins : ByteArray := prog_11_method_25_code
def yX9_areTwins : MethodName := ⟨RX9, "areTwins", "(II)Z"⟩
abbrev cX9_families : ByteArray := prog_11_method_26_code
def yX9_families : MethodName := ⟨RX9, "families", "()V"⟩
abbrev cX9_inFamily : ByteArray := prog_11_method_27_code
def yX9_inFamily : MethodName := ⟨RX9, "inFamily", "(I)I"⟩
abbrev cX9_document : ByteArray := prog_11_method_28_code
def yX9_document : MethodName := ⟨RX9, "document", "(II)I"⟩
abbrev cX9_shingle : ByteArray := prog_11_method_29_code
def yX9_shingle : MethodName := ⟨RX9, "shingle", "(II)I"⟩
abbrev cX9_letter : ByteArray := prog_11_method_30_code
def yX9_letter : MethodName := ⟨RX9, "letter", "(II)I"⟩
abbrev cX9_signature : ByteArray := prog_11_method_31_code
def yX9_signature : MethodName := ⟨RX9, "signature", "(II)I"⟩
abbrev cX9_both : ByteArray := prog_11_method_32_code
def yX9_both : MethodName := ⟨RX9, "both", "(III)I"⟩
abbrev cX9_isPair : ByteArray := prog_11_method_33_code
def yX9_isPair : MethodName := ⟨RX9, "isPair", "(III)Z"⟩
abbrev cX9_isTold : ByteArray := prog_11_method_34_code
def yX9_isTold : MethodName := ⟨RX9, "isTold", "(II)Z"⟩
abbrev cX9_pairs : ByteArray := prog_11_method_35_code
def yX9_pairs : MethodName := ⟨RX9, "pairs", "(I)I"⟩
abbrev cX9_pair : ByteArray := prog_11_method_36_code
def yX9_pair : MethodName := ⟨RX9, "pair", "(III)I"⟩
abbrev cX9_isNearer : ByteArray := prog_11_method_37_code
def yX9_isNearer : MethodName := ⟨RX9, "isNearer", "(III)Z"⟩
abbrev cX9_nearest : ByteArray := prog_11_method_38_code
def yX9_nearest : MethodName := ⟨RX9, "nearest", "(II)I"⟩
abbrev cX9_count : ByteArray := prog_11_method_39_code
def yX9_count : MethodName := ⟨RX9, "count", "(I)I"⟩
def RJx145de : String := "java/io/Serializable"
def TJx145de : u_T := fun k => match k with
  | _ => ("", "", "", false)
def tyJx145de : Nat → FieldType := fun k => match k with
  | _ => .int
abbrev wsJx145de0 : List Cond := u_ws RJx145de TJx145de 0
theorem nmJx145de : ∀ a, a < 0 → ∀ b, b < 0 → a ≠ b → (TJx145de a).2.1 ≠ (TJx145de b).2.1 := by decide +kernel
theorem tyJx145de_ok : ∀ k, k < 0 → parseFieldDescriptor (TJx145de k).2.2.1 = some (tyJx145de k) := by decide +kernel
def RJx8e188 : String := "java/lang/Cloneable"
def TJx8e188 : u_T := fun k => match k with
  | _ => ("", "", "", false)
def tyJx8e188 : Nat → FieldType := fun k => match k with
  | _ => .int
abbrev wsJx8e1880 : List Cond := u_ws RJx8e188 TJx8e188 0
theorem nmJx8e188 : ∀ a, a < 0 → ∀ b, b < 0 → a ≠ b → (TJx8e188 a).2.1 ≠ (TJx8e188 b).2.1 := by decide +kernel
theorem tyJx8e188_ok : ∀ k, k < 0 → parseFieldDescriptor (TJx8e188 k).2.2.1 = some (tyJx8e188 k) := by decide +kernel
def RJxab1ab : String := "java/lang/Iterable"
def TJxab1ab : u_T := fun k => match k with
  | _ => ("", "", "", false)
def tyJxab1ab : Nat → FieldType := fun k => match k with
  | _ => .int
abbrev wsJxab1ab0 : List Cond := u_ws RJxab1ab TJxab1ab 0
theorem nmJxab1ab : ∀ a, a < 0 → ∀ b, b < 0 → a ≠ b → (TJxab1ab a).2.1 ≠ (TJxab1ab b).2.1 := by decide +kernel
theorem tyJxab1ab_ok : ∀ k, k < 0 → parseFieldDescriptor (TJxab1ab k).2.2.1 = some (tyJxab1ab k) := by decide +kernel
def RJ13 : String := "java/lang/Long"
def TJ13 : u_T := fun k => match k with
  | _ => ("", "", "", false)
def tyJ13 : Nat → FieldType := fun k => match k with
  | _ => .int
abbrev wsJ130 : List Cond := u_ws RJ13 TJ13 0
theorem nmJ13 : ∀ a, a < 0 → ∀ b, b < 0 → a ≠ b → (TJ13 a).2.1 ≠ (TJ13 b).2.1 := by decide +kernel
theorem tyJ13_ok : ∀ k, k < 0 → parseFieldDescriptor (TJ13 k).2.2.1 = some (tyJ13 k) := by decide +kernel
abbrev cJ13_bitCount_95d88 : ByteArray := prog_17_method_50_code
def yJ13_bitCount_95d88 : MethodName := ⟨RJ13, "bitCount", "(J)I"⟩
def RJ9 : String := "java/lang/Math"
def TJ9 : u_T := fun k => match k with
  | _ => ("", "", "", false)
def tyJ9 : Nat → FieldType := fun k => match k with
  | _ => .int
abbrev wsJ90 : List Cond := u_ws RJ9 TJ9 0
theorem nmJ9 : ∀ a, a < 0 → ∀ b, b < 0 → a ≠ b → (TJ9 a).2.1 ≠ (TJ9 b).2.1 := by decide +kernel
theorem tyJ9_ok : ∀ k, k < 0 → parseFieldDescriptor (TJ9 k).2.2.1 = some (tyJ9 k) := by decide +kernel
abbrev cJ9_max_7cf53 : ByteArray := prog_18_method_65_code
def yJ9_max_7cf53 : MethodName := ⟨RJ9, "max", "(II)I"⟩
abbrev cJ9_min_7cf53 : ByteArray := prog_18_method_69_code
def yJ9_min_7cf53 : MethodName := ⟨RJ9, "min", "(II)I"⟩
def RJ0 : String := "java/lang/String"
def TJ0 : u_T := fun k => match k with
  | _ => ("", "", "", false)
def tyJ0 : Nat → FieldType := fun k => match k with
  | _ => .int
abbrev wsJ00 : List Cond := u_ws RJ0 TJ0 0
theorem nmJ0 : ∀ a, a < 0 → ∀ b, b < 0 → a ≠ b → (TJ0 a).2.1 ≠ (TJ0 b).2.1 := by decide +kernel
theorem tyJ0_ok : ∀ k, k < 0 → parseFieldDescriptor (TJ0 k).2.2.1 = some (tyJ0 k) := by decide +kernel
def RJ10 : String := "java/lang/System"
def TJ10 : u_T := fun k => match k with
  | _ => ("", "", "", false)
def tyJ10 : Nat → FieldType := fun k => match k with
  | _ => .int
abbrev wsJ100 : List Cond := u_ws RJ10 TJ10 0
theorem nmJ10 : ∀ a, a < 0 → ∀ b, b < 0 → a ≠ b → (TJ10 a).2.1 ≠ (TJ10 b).2.1 := by decide +kernel
theorem tyJ10_ok : ∀ k, k < 0 → parseFieldDescriptor (TJ10 k).2.2.1 = some (tyJ10 k) := by decide +kernel
def RJxa1e45 : String := "java/util/AbstractCollection"
def TJxa1e45 : u_T := fun k => match k with
  | _ => ("", "", "", false)
def tyJxa1e45 : Nat → FieldType := fun k => match k with
  | _ => .int
abbrev wsJxa1e450 : List Cond := u_ws RJxa1e45 TJxa1e45 0
theorem nmJxa1e45 : ∀ a, a < 0 → ∀ b, b < 0 → a ≠ b → (TJxa1e45 a).2.1 ≠ (TJxa1e45 b).2.1 := by decide +kernel
theorem tyJxa1e45_ok : ∀ k, k < 0 → parseFieldDescriptor (TJxa1e45 k).2.2.1 = some (tyJxa1e45 k) := by decide +kernel
abbrev cJxa1e45_init_da8c8 : ByteArray := prog_23_method_1_code
def yJxa1e45_init_da8c8 : MethodName := ⟨RJxa1e45, "<init>", "()V"⟩
def RJxc12de : String := "java/util/AbstractList"
def TJxc12de : u_T := fun k => match k with
  | _ => ("", "", "", false)
def tyJxc12de : Nat → FieldType := fun k => match k with
  | _ => .int
abbrev wsJxc12de0 : List Cond := u_ws RJxc12de TJxc12de 0
theorem nmJxc12de : ∀ a, a < 0 → ∀ b, b < 0 → a ≠ b → (TJxc12de a).2.1 ≠ (TJxc12de b).2.1 := by decide +kernel
theorem tyJxc12de_ok : ∀ k, k < 0 → parseFieldDescriptor (TJxc12de k).2.2.1 = some (tyJxc12de k) := by decide +kernel
abbrev cJxc12de_init_da8c8 : ByteArray := prog_24_method_1_code
def yJxc12de_init_da8c8 : MethodName := ⟨RJxc12de, "<init>", "()V"⟩
def RJx4a65c : String := "java/util/ArrayList"
def TJx4a65c : u_T := fun k => match k with
  | 0 => ("java/util/AbstractList", "modCount", "I", false)
  | 1 => ("java/util/ArrayList", "elementData", "[Ljava/lang/Object;", false)
  | _ => ("java/util/ArrayList", "size", "I", false)
def tyJx4a65c : Nat → FieldType := fun k => match k with
  | 0 => .int
  | 1 => .array (.object "java/lang/Object")
  | _ => .int
abbrev wsJx4a65c0 : List Cond := u_ws RJx4a65c TJx4a65c 3
theorem nmJx4a65c : ∀ a, a < 3 → ∀ b, b < 3 → a ≠ b → (TJx4a65c a).2.1 ≠ (TJx4a65c b).2.1 := by decide +kernel
theorem tyJx4a65c_ok : ∀ k, k < 3 → parseFieldDescriptor (TJx4a65c k).2.2.1 = some (tyJx4a65c k) := by decide +kernel
abbrev cJx4a65c_init_da8c8 : ByteArray := prog_25_method_2_code
def yJx4a65c_init_da8c8 : MethodName := ⟨RJx4a65c, "<init>", "()V"⟩
abbrev cJx4a65c_grow_92f84 : ByteArray := prog_25_method_6_code
def yJx4a65c_grow_92f84 : MethodName := ⟨RJx4a65c, "grow", "(I)[Ljava/lang/Object;"⟩
abbrev cJx4a65c_grow_d5877 : ByteArray := prog_25_method_7_code
def yJx4a65c_grow_d5877 : MethodName := ⟨RJx4a65c, "grow", "()[Ljava/lang/Object;"⟩
abbrev cJx4a65c_size_8abf5 : ByteArray := prog_25_method_8_code
def yJx4a65c_size_8abf5 : MethodName := ⟨RJx4a65c, "size", "()I"⟩
abbrev cJx4a65c_isEmpty_aae02 : ByteArray := prog_25_method_9_code
def yJx4a65c_isEmpty_aae02 : MethodName := ⟨RJx4a65c, "isEmpty", "()Z"⟩
abbrev cJx4a65c_elementData_915e3 : ByteArray := prog_25_method_18_code
def yJx4a65c_elementData_915e3 : MethodName := ⟨RJx4a65c, "elementData", "(I)Ljava/lang/Object;"⟩
abbrev cJx4a65c_get_915e3 : ByteArray := prog_25_method_20_code
def yJx4a65c_get_915e3 : MethodName := ⟨RJx4a65c, "get", "(I)Ljava/lang/Object;"⟩
abbrev cJx4a65c_add_72be8 : ByteArray := prog_25_method_24_code
def yJx4a65c_add_72be8 : MethodName := ⟨RJx4a65c, "add", "(Ljava/lang/Object;[Ljava/lang/Object;I)V"⟩
abbrev cJx4a65c_add_9ea2d : ByteArray := prog_25_method_25_code
def yJx4a65c_add_9ea2d : MethodName := ⟨RJx4a65c, "add", "(Ljava/lang/Object;)Z"⟩
abbrev cJx4a65c_add_7a177 : ByteArray := prog_25_method_26_code
def yJx4a65c_add_7a177 : MethodName := ⟨RJx4a65c, "add", "(ILjava/lang/Object;)V"⟩
abbrev cJx4a65c_remove_915e3 : ByteArray := prog_25_method_29_code
def yJx4a65c_remove_915e3 : MethodName := ⟨RJx4a65c, "remove", "(I)Ljava/lang/Object;"⟩
abbrev cJx4a65c_fastRemove_b59b0 : ByteArray := prog_25_method_39_code
def yJx4a65c_fastRemove_b59b0 : MethodName := ⟨RJx4a65c, "fastRemove", "([Ljava/lang/Object;I)V"⟩
abbrev cJx4a65c_clear_da8c8 : ByteArray := prog_25_method_40_code
def yJx4a65c_clear_da8c8 : MethodName := ⟨RJx4a65c, "clear", "()V"⟩
abbrev cJx4a65c_rangeCheckForAdd_d00df : ByteArray := prog_25_method_45_code
def yJx4a65c_rangeCheckForAdd_d00df : MethodName := ⟨RJx4a65c, "rangeCheckForAdd", "(I)V"⟩
def RJ7 : String := "java/util/Arrays"
def TJ7 : u_T := fun k => match k with
  | _ => ("", "", "", false)
def tyJ7 : Nat → FieldType := fun k => match k with
  | _ => .int
abbrev wsJ70 : List Cond := u_ws RJ7 TJ7 0
theorem nmJ7 : ∀ a, a < 0 → ∀ b, b < 0 → a ≠ b → (TJ7 a).2.1 ≠ (TJ7 b).2.1 := by decide +kernel
theorem tyJ7_ok : ∀ k, k < 0 → parseFieldDescriptor (TJ7 k).2.2.1 = some (tyJ7 k) := by decide +kernel
abbrev cJ7_copyOf_1904c : ByteArray := prog_26_method_119_code
def yJ7_copyOf_1904c : MethodName := ⟨RJ7, "copyOf", "([Ljava/lang/Object;I)[Ljava/lang/Object;"⟩
abbrev cJ7_copyOf_6403c : ByteArray := prog_26_method_120_code
def yJ7_copyOf_6403c : MethodName := ⟨RJ7, "copyOf", "([Ljava/lang/Object;ILjava/lang/Class;)[Ljava/lang/Object;"⟩
def RJx5ef63 : String := "java/util/Collection"
def TJx5ef63 : u_T := fun k => match k with
  | _ => ("", "", "", false)
def tyJx5ef63 : Nat → FieldType := fun k => match k with
  | _ => .int
abbrev wsJx5ef630 : List Cond := u_ws RJx5ef63 TJx5ef63 0
theorem nmJx5ef63 : ∀ a, a < 0 → ∀ b, b < 0 → a ≠ b → (TJx5ef63 a).2.1 ≠ (TJx5ef63 b).2.1 := by decide +kernel
theorem tyJx5ef63_ok : ∀ k, k < 0 → parseFieldDescriptor (TJx5ef63 k).2.2.1 = some (tyJx5ef63 k) := by decide +kernel
def RJxbd725 : String := "java/util/List"
def TJxbd725 : u_T := fun k => match k with
  | _ => ("", "", "", false)
def tyJxbd725 : Nat → FieldType := fun k => match k with
  | _ => .int
abbrev wsJxbd7250 : List Cond := u_ws RJxbd725 TJxbd725 0
theorem nmJxbd725 : ∀ a, a < 0 → ∀ b, b < 0 → a ≠ b → (TJxbd725 a).2.1 ≠ (TJxbd725 b).2.1 := by decide +kernel
theorem tyJxbd725_ok : ∀ k, k < 0 → parseFieldDescriptor (TJxbd725 k).2.2.1 = some (tyJxbd725 k) := by decide +kernel
def RJ15 : String := "java/util/Objects"
def TJ15 : u_T := fun k => match k with
  | _ => ("", "", "", false)
def tyJ15 : Nat → FieldType := fun k => match k with
  | _ => .int
abbrev wsJ150 : List Cond := u_ws RJ15 TJ15 0
theorem nmJ15 : ∀ a, a < 0 → ∀ b, b < 0 → a ≠ b → (TJ15 a).2.1 ≠ (TJ15 b).2.1 := by decide +kernel
theorem tyJ15_ok : ∀ k, k < 0 → parseFieldDescriptor (TJ15 k).2.2.1 = some (tyJ15 k) := by decide +kernel
abbrev cJ15_checkIndex_7cf53 : ByteArray := prog_30_method_17_code
def yJ15_checkIndex_7cf53 : MethodName := ⟨RJ15, "checkIndex", "(II)I"⟩
def RJxf0a74 : String := "java/util/RandomAccess"
def TJxf0a74 : u_T := fun k => match k with
  | _ => ("", "", "", false)
def tyJxf0a74 : Nat → FieldType := fun k => match k with
  | _ => .int
abbrev wsJxf0a740 : List Cond := u_ws RJxf0a74 TJxf0a74 0
theorem nmJxf0a74 : ∀ a, a < 0 → ∀ b, b < 0 → a ≠ b → (TJxf0a74 a).2.1 ≠ (TJxf0a74 b).2.1 := by decide +kernel
theorem tyJxf0a74_ok : ∀ k, k < 0 → parseFieldDescriptor (TJxf0a74 k).2.2.1 = some (tyJxf0a74 k) := by decide +kernel
def RJxa66e6 : String := "java/util/SequencedCollection"
def TJxa66e6 : u_T := fun k => match k with
  | _ => ("", "", "", false)
def tyJxa66e6 : Nat → FieldType := fun k => match k with
  | _ => .int
abbrev wsJxa66e60 : List Cond := u_ws RJxa66e6 TJxa66e6 0
theorem nmJxa66e6 : ∀ a, a < 0 → ∀ b, b < 0 → a ≠ b → (TJxa66e6 a).2.1 ≠ (TJxa66e6 b).2.1 := by decide +kernel
theorem tyJxa66e6_ok : ∀ k, k < 0 → parseFieldDescriptor (TJxa66e6 k).2.2.1 = some (tyJxa66e6 k) := by decide +kernel
def RJ8 : String := "jdk/internal/util/ArraysSupport"
def TJ8 : u_T := fun k => match k with
  | _ => ("", "", "", false)
def tyJ8 : Nat → FieldType := fun k => match k with
  | _ => .int
abbrev wsJ80 : List Cond := u_ws RJ8 TJ8 0
theorem nmJ8 : ∀ a, a < 0 → ∀ b, b < 0 → a ≠ b → (TJ8 a).2.1 ≠ (TJ8 b).2.1 := by decide +kernel
theorem tyJ8_ok : ∀ k, k < 0 → parseFieldDescriptor (TJ8 k).2.2.1 = some (tyJ8 k) := by decide +kernel
abbrev cJ8_newLength_cabcc : ByteArray := prog_33_method_27_code
def yJ8_newLength_cabcc : MethodName := ⟨RJ8, "newLength", "(III)I"⟩
abbrev cJ8_hugeLength_7cf53 : ByteArray := prog_33_method_28_code
def yJ8_hugeLength_7cf53 : MethodName := ⟨RJ8, "hugeLength", "(II)I"⟩
def RJ3 : String := "jdk/internal/util/Preconditions"
def TJ3 : u_T := fun k => match k with
  | _ => ("", "", "", false)
def tyJ3 : Nat → FieldType := fun k => match k with
  | _ => .int
abbrev wsJ30 : List Cond := u_ws RJ3 TJ3 0
theorem nmJ3 : ∀ a, a < 0 → ∀ b, b < 0 → a ≠ b → (TJ3 a).2.1 ≠ (TJ3 b).2.1 := by decide +kernel
theorem tyJ3_ok : ∀ k, k < 0 → parseFieldDescriptor (TJ3 k).2.2.1 = some (tyJ3 k) := by decide +kernel
abbrev cJ3_checkIndex_8e157 : ByteArray := prog_34_method_11_code
def yJ3_checkIndex_8e157 : MethodName := ⟨RJ3, "checkIndex", "(IILjava/util/function/BiFunction;)I"⟩
def RL : String := "TwinFinderLaw"
abbrev cL_mode : ByteArray := method_3_code
def yL_mode : MethodName := ⟨RL, "mode", "(LTwinFinder;II[J)I"⟩
abbrev cL_document : ByteArray := method_4_code
def yL_document : MethodName := ⟨RL, "document", "(LTwinFinder;II[J)I"⟩
abbrev cL_shingle : ByteArray := method_5_code
def yL_shingle : MethodName := ⟨RL, "shingle", "(LTwinFinder;II[J)I"⟩
abbrev cL_signature : ByteArray := method_6_code
def yL_signature : MethodName := ⟨RL, "signature", "(LTwinFinder;II[J)I"⟩
abbrev cL_both : ByteArray := method_7_code
def yL_both : MethodName := ⟨RL, "both", "(LTwinFinder;III[J)I"⟩
abbrev cL_nearest : ByteArray := method_8_code
def yL_nearest : MethodName := ⟨RL, "nearest", "(LTwinFinder;II[J)I"⟩
abbrev cL_law : ByteArray := code
def yL_law : MethodName := ⟨RL, "law", "([I)Z"⟩
def wsX0_init : List Cond := .code yX0_init cX0_init 2 none :: ([.methodLink RX0 3 objectInit, .instanceMethod objectInit, .code objectInit ⟨#[0xb1]⟩ 1 none, .arrayClass .long, .fieldLink RX0 9 "TwinFinder$Document" "set" "[J", .arrayClass .int, .fieldLink RX0 15 "TwinFinder$Document" "numbers" "[I", .fieldLink RX0 19 "TwinFinder$Document" "least" "[I", .fieldLink RX0 22 "TwinFinder$Document" "shared" "[I", .fieldLink RX0 25 "TwinFinder$Document" "slot" "I"] ++ wsX00)
def wsX0_fillWith : List Cond := .code yX0_fillWith cX0_fillWith 5 none :: ([.fieldLink RX0 9 "TwinFinder$Document" "set" "[J", .fieldLink RX0 29 "TwinFinder$Document" "size" "I", .fieldLink RX0 15 "TwinFinder$Document" "numbers" "[I"] ++ wsX00)
def wsJ13_bitCount_95d88 : List Cond := .code yJ13_bitCount_95d88 cJ13_bitCount_95d88 2 (some .int) :: ([.constantLong RJ13 314 (6148914691236517205), .constantLong RJ13 316 (3689348814741910323), .constantLong RJ13 318 (1085102592571150095)])
def wsX0_countShared : List Cond := .code yX0_countShared cX0_countShared 4 (some .int) :: ([.fieldLink RX0 9 "TwinFinder$Document" "set" "[J", .methodLink RX0 32 yJ13_bitCount_95d88, .static yJ13_bitCount_95d88, .initialized RJ13, .code yJ13_bitCount_95d88 cJ13_bitCount_95d88 2 (some .int), .constantLong RJ13 314 (6148914691236517205), .constantLong RJ13 316 (3689348814741910323), .constantLong RJ13 318 (1085102592571150095)] ++ wsX00)
def wsX3_init : List Cond := .code yX3_init cX3_init 1 none :: ([.methodLink RX3 3 objectInit, .instanceMethod objectInit, .code objectInit ⟨#[0xb1]⟩ 1 none, .arrayClass .int, .fieldLink RX3 9 "TwinFinder$PairRow" "first" "[I", .fieldLink RX3 15 "TwinFinder$PairRow" "second" "[I"] ++ wsX30)
def wsX1_init : List Cond := .code yX1_init cX1_init 1 none :: ([.methodLink RX1 3 objectInit, .instanceMethod objectInit, .code objectInit ⟨#[0xb1]⟩ 1 none, .classLink RX1 9 RX3, .instantiable RX3 3, .initialized RX3, .fieldLink RX1 12 "TwinFinder$Kin" "candidates" "LTwinFinder$PairRow;", .fieldLink RX1 18 "TwinFinder$Kin" "twins" "LTwinFinder$PairRow;", .arrayClass .int, .fieldLink RX1 21 "TwinFinder$Kin" "number" "[I", .fieldLink RX1 25 "TwinFinder$Kin" "twinCount" "[I", .fieldLink RX1 28 "TwinFinder$Kin" "leader" "[I", .fieldLink RX1 31 "TwinFinder$Kin" "members" "[I", .instanceMethod yX3_init, .code yX3_init cX3_init 1 none, .methodLink RX3 3 objectInit, .fieldLink RX3 9 "TwinFinder$PairRow" "first" "[I", .fieldLink RX3 15 "TwinFinder$PairRow" "second" "[I"] ++ wsX30 ++ wsX10)
def wsJx4a65c_size_8abf5 : List Cond := .code yJx4a65c_size_8abf5 cJx4a65c_size_8abf5 1 (some .int) :: ([.fieldLink RJx4a65c 48 "java/util/ArrayList" "size" "I"] ++ wsJx4a65c0)
def wsJ3_checkIndex_8e157 : List Cond := .code yJ3_checkIndex_8e157 cJ3_checkIndex_8e157 3 (some .int) :: ([])
def wsJ15_checkIndex_7cf53 : List Cond := .code yJ15_checkIndex_7cf53 cJ15_checkIndex_7cf53 2 (some .int) :: ([.methodLink RJ15 105 yJ3_checkIndex_8e157, .static yJ3_checkIndex_8e157, .initialized RJ3, .code yJ3_checkIndex_8e157 cJ3_checkIndex_8e157 3 (some .int)])
def wsJx4a65c_elementData_915e3 : List Cond := .code yJx4a65c_elementData_915e3 cJx4a65c_elementData_915e3 2 (some (.object "java/lang/Object")) :: ([.fieldLink RJx4a65c 9 "java/util/ArrayList" "elementData" "[Ljava/lang/Object;"] ++ wsJx4a65c0)
def wsJx4a65c_get_915e3 : List Cond := .code yJx4a65c_get_915e3 cJx4a65c_get_915e3 2 (some (.object "java/lang/Object")) :: ([.fieldLink RJx4a65c 48 "java/util/ArrayList" "size" "I", .methodLink RJx4a65c 118 yJ15_checkIndex_7cf53, .static yJ15_checkIndex_7cf53, .initialized RJ15, .code yJ15_checkIndex_7cf53 cJ15_checkIndex_7cf53 2 (some .int), .methodLink RJ15 105 yJ3_checkIndex_8e157, .static yJ3_checkIndex_8e157, .initialized RJ3, .code yJ3_checkIndex_8e157 cJ3_checkIndex_8e157 3 (some .int), .methodLink RJx4a65c 123 yJx4a65c_elementData_915e3, .instanceMethod yJx4a65c_elementData_915e3, .selects RJx4a65c yJx4a65c_elementData_915e3 yJx4a65c_elementData_915e3, .initialized RJx4a65c, .code yJx4a65c_elementData_915e3 cJx4a65c_elementData_915e3 2 (some (.object "java/lang/Object")), .fieldLink RJx4a65c 9 "java/util/ArrayList" "elementData" "[Ljava/lang/Object;"] ++ wsJx4a65c0)
def wsX1_begin_r1 : List Cond := [Cond.methodLink RX1 62 Lib.Math.min.name, Cond.static Lib.Math.min.name, Cond.initialized "java/lang/Math", Cond.code Lib.Math.min.name Lib.Math.min.code 2 (some .int), Cond.fieldLink RX1 42 "TwinFinder$Kin" "places" "I", Cond.fieldLink RX1 12 "TwinFinder$Kin" "candidates" "LTwinFinder$PairRow;", Cond.fieldLink RX1 68 "TwinFinder$PairRow" "size" "I", Cond.fieldLink RX1 18 "TwinFinder$Kin" "twins" "LTwinFinder$PairRow;", Cond.fieldLink RX1 21 "TwinFinder$Kin" "number" "[I", Cond.classLink RX1 52 "TwinFinder$Document", Cond.fieldLink RX1 70 "TwinFinder$Document" "number" "I", Cond.fieldLink RX1 25 "TwinFinder$Kin" "twinCount" "[I", Cond.fieldLink RX1 28 "TwinFinder$Kin" "leader" "[I", Cond.fieldLink RX1 31 "TwinFinder$Kin" "members" "[I", Cond.methodLink RX1 58 yJx4a65c_size_8abf5, Cond.instanceMethod yJx4a65c_size_8abf5, Cond.selects RJx4a65c yJx4a65c_size_8abf5 yJx4a65c_size_8abf5, Cond.initialized RJx4a65c, Cond.code yJx4a65c_size_8abf5 cJx4a65c_size_8abf5 1 (some .int), Cond.fieldLink RJx4a65c 48 "java/util/ArrayList" "size" "I", Cond.methodLink RX1 46 yJx4a65c_get_915e3, Cond.instanceMethod yJx4a65c_get_915e3, Cond.selects RJx4a65c yJx4a65c_get_915e3 yJx4a65c_get_915e3, Cond.code yJx4a65c_get_915e3 cJx4a65c_get_915e3 2 (some (.object "java/lang/Object"))]
def wsX1_begin_r2 : List Cond := [Cond.methodLink RJx4a65c 118 yJ15_checkIndex_7cf53, Cond.static yJ15_checkIndex_7cf53, Cond.initialized RJ15, Cond.code yJ15_checkIndex_7cf53 cJ15_checkIndex_7cf53 2 (some .int), Cond.methodLink RJ15 105 yJ3_checkIndex_8e157, Cond.static yJ3_checkIndex_8e157, Cond.initialized RJ3, Cond.code yJ3_checkIndex_8e157 cJ3_checkIndex_8e157 3 (some .int), Cond.methodLink RJx4a65c 123 yJx4a65c_elementData_915e3, Cond.instanceMethod yJx4a65c_elementData_915e3, Cond.selects RJx4a65c yJx4a65c_elementData_915e3 yJx4a65c_elementData_915e3, Cond.code yJx4a65c_elementData_915e3 cJx4a65c_elementData_915e3 2 (some (.object "java/lang/Object")), Cond.fieldLink RJx4a65c 9 "java/util/ArrayList" "elementData" "[Ljava/lang/Object;"]
def wsX1_begin : List Cond := .code yX1_begin cX1_begin 3 none :: ((wsX1_begin_r1 ++ wsX1_begin_r2) ++ wsX10 ++ wsX30 ++ wsX00 ++ wsJx4a65c0)
def wsX2_agree : List Cond := .code yX2_agree cX2_agree 5 (some .boolean) :: ([.fieldLink RX2 15 "TwinFinder$Measure" "rowCount" "I", .fieldLink RX2 40 "TwinFinder$Document" "least" "[I"] ++ wsX20 ++ wsX00)
def wsX2_firstBand : List Cond := .code yX2_firstBand cX2_firstBand 4 (some .int) :: ([.fieldLink RX2 33 "TwinFinder$Document" "size" "I", .fieldLink RX2 9 "TwinFinder$Measure" "bandCount" "I", .fieldLink RX2 15 "TwinFinder$Measure" "rowCount" "I", .methodLink RX2 43 yX2_agree, .instanceMethod yX2_agree, .selects RX2 yX2_agree yX2_agree, .initialized RX2, .code yX2_agree cX2_agree 5 (some .boolean), .fieldLink RX2 40 "TwinFinder$Document" "least" "[I"] ++ wsX00 ++ wsX20)
def wsX3_put : List Cond := .code yX3_put cX3_put 3 none :: ([.fieldLink RX3 18 "TwinFinder$PairRow" "size" "I", .fieldLink RX3 9 "TwinFinder$PairRow" "first" "[I", .fieldLink RX3 15 "TwinFinder$PairRow" "second" "[I"] ++ wsX30)
def wsX2_common : List Cond := .code yX2_common cX2_common 3 (some .int) :: ([.fieldLink RX2 24 "TwinFinder$Document" "shared" "[I", .fieldLink RX2 30 "TwinFinder$Document" "slot" "I"] ++ wsX00)
def wsX2_all : List Cond := .code yX2_all cX2_all 3 (some .int) :: ([.fieldLink RX2 33 "TwinFinder$Document" "size" "I", .methodLink RX2 36 yX2_common, .instanceMethod yX2_common, .selects RX2 yX2_common yX2_common, .initialized RX2, .code yX2_common cX2_common 3 (some .int), .fieldLink RX2 24 "TwinFinder$Document" "shared" "[I", .fieldLink RX2 30 "TwinFinder$Document" "slot" "I"] ++ wsX00)
def wsX2_areNear : List Cond := .code yX2_areNear cX2_areNear 3 (some .boolean) :: ([.fieldLink RX2 21 "TwinFinder$Measure" "q" "I", .fieldLink RX2 18 "TwinFinder$Measure" "p" "I", .methodLink RX2 36 yX2_common, .instanceMethod yX2_common, .selects RX2 yX2_common yX2_common, .initialized RX2, .code yX2_common cX2_common 3 (some .int), .fieldLink RX2 24 "TwinFinder$Document" "shared" "[I", .fieldLink RX2 30 "TwinFinder$Document" "slot" "I", .methodLink RX2 54 yX2_all, .instanceMethod yX2_all, .selects RX2 yX2_all yX2_all, .code yX2_all cX2_all 3 (some .int), .fieldLink RX2 33 "TwinFinder$Document" "size" "I"] ++ wsX20 ++ wsX00)
def wsX1_join : List Cond := .code yX1_join cX1_join 6 none :: ([.methodLink RX1 62 Lib.Math.min.name, .static Lib.Math.min.name, .initialized "java/lang/Math", .code Lib.Math.min.name Lib.Math.min.code 2 (some .int), .methodLink RX1 89 Lib.Math.max.name, .static Lib.Math.max.name, .code Lib.Math.max.name Lib.Math.max.code 2 (some .int), .fieldLink RX1 42 "TwinFinder$Kin" "places" "I", .fieldLink RX1 28 "TwinFinder$Kin" "leader" "[I"] ++ wsX10)
def wsX1_compare_r1 : List Cond := [Cond.fieldLink RX1 12 "TwinFinder$Kin" "candidates" "LTwinFinder$PairRow;", Cond.fieldLink RX1 70 "TwinFinder$Document" "number" "I", Cond.fieldLink RX1 18 "TwinFinder$Kin" "twins" "LTwinFinder$PairRow;", Cond.fieldLink RX1 25 "TwinFinder$Kin" "twinCount" "[I", Cond.fieldLink RX1 28 "TwinFinder$Kin" "leader" "[I", Cond.methodLink RX1 72 yX2_firstBand, Cond.instanceMethod yX2_firstBand, Cond.selects RX2 yX2_firstBand yX2_firstBand, Cond.initialized RX2, Cond.code yX2_firstBand cX2_firstBand 4 (some .int), Cond.fieldLink RX2 33 "TwinFinder$Document" "size" "I", Cond.fieldLink RX2 9 "TwinFinder$Measure" "bandCount" "I", Cond.fieldLink RX2 15 "TwinFinder$Measure" "rowCount" "I", Cond.methodLink RX2 43 yX2_agree, Cond.instanceMethod yX2_agree, Cond.selects RX2 yX2_agree yX2_agree, Cond.code yX2_agree cX2_agree 5 (some .boolean), Cond.fieldLink RX2 40 "TwinFinder$Document" "least" "[I", Cond.methodLink RX1 78 yX3_put, Cond.instanceMethod yX3_put, Cond.selects RX3 yX3_put yX3_put, Cond.initialized RX3, Cond.code yX3_put cX3_put 3 none, Cond.fieldLink RX3 18 "TwinFinder$PairRow" "size" "I"]
def wsX1_compare_r2 : List Cond := [Cond.fieldLink RX3 9 "TwinFinder$PairRow" "first" "[I", Cond.fieldLink RX3 15 "TwinFinder$PairRow" "second" "[I", Cond.methodLink RX1 82 yX2_areNear, Cond.instanceMethod yX2_areNear, Cond.selects RX2 yX2_areNear yX2_areNear, Cond.code yX2_areNear cX2_areNear 3 (some .boolean), Cond.fieldLink RX2 21 "TwinFinder$Measure" "q" "I", Cond.fieldLink RX2 18 "TwinFinder$Measure" "p" "I", Cond.methodLink RX2 36 yX2_common, Cond.instanceMethod yX2_common, Cond.selects RX2 yX2_common yX2_common, Cond.code yX2_common cX2_common 3 (some .int), Cond.fieldLink RX2 24 "TwinFinder$Document" "shared" "[I", Cond.fieldLink RX2 30 "TwinFinder$Document" "slot" "I", Cond.methodLink RX2 54 yX2_all, Cond.instanceMethod yX2_all, Cond.selects RX2 yX2_all yX2_all, Cond.code yX2_all cX2_all 3 (some .int), Cond.methodLink RX1 86 yX1_join, Cond.instanceMethod yX1_join, Cond.selects RX1 yX1_join yX1_join, Cond.initialized RX1, Cond.code yX1_join cX1_join 6 none, Cond.methodLink RX1 62 Lib.Math.min.name]
def wsX1_compare_r3 : List Cond := [Cond.static Lib.Math.min.name, Cond.initialized "java/lang/Math", Cond.code Lib.Math.min.name Lib.Math.min.code 2 (some .int), Cond.methodLink RX1 89 Lib.Math.max.name, Cond.static Lib.Math.max.name, Cond.code Lib.Math.max.name Lib.Math.max.code 2 (some .int), Cond.fieldLink RX1 42 "TwinFinder$Kin" "places" "I"]
def wsX1_compare : List Cond := .code yX1_compare cX1_compare 6 none :: ((wsX1_compare_r1 ++ (wsX1_compare_r2 ++ wsX1_compare_r3)) ++ wsX10 ++ wsX00 ++ wsX20 ++ wsX30)
def wsX1_learn_r1 : List Cond := [Cond.fieldLink RX1 34 "TwinFinder$Kin" "known" "Z", Cond.fieldLink RX1 42 "TwinFinder$Kin" "places" "I", Cond.classLink RX1 52 "TwinFinder$Document", Cond.fieldLink RX1 31 "TwinFinder$Kin" "members" "[I", Cond.fieldLink RX1 28 "TwinFinder$Kin" "leader" "[I", Cond.methodLink RX1 38 yX1_begin, Cond.instanceMethod yX1_begin, Cond.selects RX1 yX1_begin yX1_begin, Cond.initialized RX1, Cond.code yX1_begin cX1_begin 3 none, Cond.methodLink RX1 62 Lib.Math.min.name, Cond.static Lib.Math.min.name, Cond.initialized "java/lang/Math", Cond.code Lib.Math.min.name Lib.Math.min.code 2 (some .int), Cond.fieldLink RX1 12 "TwinFinder$Kin" "candidates" "LTwinFinder$PairRow;", Cond.fieldLink RX1 68 "TwinFinder$PairRow" "size" "I", Cond.fieldLink RX1 18 "TwinFinder$Kin" "twins" "LTwinFinder$PairRow;", Cond.fieldLink RX1 21 "TwinFinder$Kin" "number" "[I", Cond.fieldLink RX1 70 "TwinFinder$Document" "number" "I", Cond.fieldLink RX1 25 "TwinFinder$Kin" "twinCount" "[I", Cond.methodLink RX1 58 yJx4a65c_size_8abf5, Cond.instanceMethod yJx4a65c_size_8abf5, Cond.selects RJx4a65c yJx4a65c_size_8abf5 yJx4a65c_size_8abf5, Cond.initialized RJx4a65c]
def wsX1_learn_r2 : List Cond := [Cond.code yJx4a65c_size_8abf5 cJx4a65c_size_8abf5 1 (some .int), Cond.fieldLink RJx4a65c 48 "java/util/ArrayList" "size" "I", Cond.methodLink RX1 46 yJx4a65c_get_915e3, Cond.instanceMethod yJx4a65c_get_915e3, Cond.selects RJx4a65c yJx4a65c_get_915e3 yJx4a65c_get_915e3, Cond.code yJx4a65c_get_915e3 cJx4a65c_get_915e3 2 (some (.object "java/lang/Object")), Cond.methodLink RJx4a65c 118 yJ15_checkIndex_7cf53, Cond.static yJ15_checkIndex_7cf53, Cond.initialized RJ15, Cond.code yJ15_checkIndex_7cf53 cJ15_checkIndex_7cf53 2 (some .int), Cond.methodLink RJ15 105 yJ3_checkIndex_8e157, Cond.static yJ3_checkIndex_8e157, Cond.initialized RJ3, Cond.code yJ3_checkIndex_8e157 cJ3_checkIndex_8e157 3 (some .int), Cond.methodLink RJx4a65c 123 yJx4a65c_elementData_915e3, Cond.instanceMethod yJx4a65c_elementData_915e3, Cond.selects RJx4a65c yJx4a65c_elementData_915e3 yJx4a65c_elementData_915e3, Cond.code yJx4a65c_elementData_915e3 cJx4a65c_elementData_915e3 2 (some (.object "java/lang/Object")), Cond.fieldLink RJx4a65c 9 "java/util/ArrayList" "elementData" "[Ljava/lang/Object;", Cond.methodLink RX1 54 yX1_compare, Cond.instanceMethod yX1_compare, Cond.selects RX1 yX1_compare yX1_compare, Cond.code yX1_compare cX1_compare 6 none, Cond.methodLink RX1 72 yX2_firstBand]
def wsX1_learn_r3 : List Cond := [Cond.instanceMethod yX2_firstBand, Cond.selects RX2 yX2_firstBand yX2_firstBand, Cond.initialized RX2, Cond.code yX2_firstBand cX2_firstBand 4 (some .int), Cond.fieldLink RX2 33 "TwinFinder$Document" "size" "I", Cond.fieldLink RX2 9 "TwinFinder$Measure" "bandCount" "I", Cond.fieldLink RX2 15 "TwinFinder$Measure" "rowCount" "I", Cond.methodLink RX2 43 yX2_agree, Cond.instanceMethod yX2_agree, Cond.selects RX2 yX2_agree yX2_agree, Cond.code yX2_agree cX2_agree 5 (some .boolean), Cond.fieldLink RX2 40 "TwinFinder$Document" "least" "[I", Cond.methodLink RX1 78 yX3_put, Cond.instanceMethod yX3_put, Cond.selects RX3 yX3_put yX3_put, Cond.initialized RX3, Cond.code yX3_put cX3_put 3 none, Cond.fieldLink RX3 18 "TwinFinder$PairRow" "size" "I", Cond.fieldLink RX3 9 "TwinFinder$PairRow" "first" "[I", Cond.fieldLink RX3 15 "TwinFinder$PairRow" "second" "[I", Cond.methodLink RX1 82 yX2_areNear, Cond.instanceMethod yX2_areNear, Cond.selects RX2 yX2_areNear yX2_areNear, Cond.code yX2_areNear cX2_areNear 3 (some .boolean)]
def wsX1_learn_r4 : List Cond := [Cond.fieldLink RX2 21 "TwinFinder$Measure" "q" "I", Cond.fieldLink RX2 18 "TwinFinder$Measure" "p" "I", Cond.methodLink RX2 36 yX2_common, Cond.instanceMethod yX2_common, Cond.selects RX2 yX2_common yX2_common, Cond.code yX2_common cX2_common 3 (some .int), Cond.fieldLink RX2 24 "TwinFinder$Document" "shared" "[I", Cond.fieldLink RX2 30 "TwinFinder$Document" "slot" "I", Cond.methodLink RX2 54 yX2_all, Cond.instanceMethod yX2_all, Cond.selects RX2 yX2_all yX2_all, Cond.code yX2_all cX2_all 3 (some .int), Cond.methodLink RX1 86 yX1_join, Cond.instanceMethod yX1_join, Cond.selects RX1 yX1_join yX1_join, Cond.code yX1_join cX1_join 6 none, Cond.methodLink RX1 89 Lib.Math.max.name, Cond.static Lib.Math.max.name, Cond.code Lib.Math.max.name Lib.Math.max.code 2 (some .int)]
def wsX1_learn : List Cond := .code yX1_learn cX1_learn 5 none :: ((wsX1_learn_r1 ++ (wsX1_learn_r2 ++ (wsX1_learn_r3 ++ wsX1_learn_r4))) ++ wsX10 ++ wsX30 ++ wsX00 ++ wsJx4a65c0 ++ wsX20)
def wsX1_familyOf : List Cond := .code yX1_familyOf cX1_familyOf 2 (some .int) :: ([.fieldLink RX1 42 "TwinFinder$Kin" "places" "I", .fieldLink RX1 21 "TwinFinder$Kin" "number" "[I", .fieldLink RX1 28 "TwinFinder$Kin" "leader" "[I"] ++ wsX10)
def wsX1_membersWith : List Cond := .code yX1_membersWith cX1_membersWith 2 (some .int) :: ([.fieldLink RX1 42 "TwinFinder$Kin" "places" "I", .fieldLink RX1 31 "TwinFinder$Kin" "members" "[I", .fieldLink RX1 28 "TwinFinder$Kin" "leader" "[I"] ++ wsX10)
def wsX1_twinsOf : List Cond := .code yX1_twinsOf cX1_twinsOf 2 (some .int) :: ([.fieldLink RX1 42 "TwinFinder$Kin" "places" "I", .fieldLink RX1 25 "TwinFinder$Kin" "twinCount" "[I"] ++ wsX10)
def wsX1_families : List Cond := .code yX1_families cX1_families 4 (some .int) :: ([.fieldLink RX1 42 "TwinFinder$Kin" "places" "I", .fieldLink RX1 31 "TwinFinder$Kin" "members" "[I"] ++ wsX10)
def wsX1_familyAt : List Cond := .code yX1_familyAt cX1_familyAt 5 (some .int) :: ([.fieldLink RX1 42 "TwinFinder$Kin" "places" "I", .fieldLink RX1 31 "TwinFinder$Kin" "members" "[I", .fieldLink RX1 21 "TwinFinder$Kin" "number" "[I"] ++ wsX10)
def wsX2_init : List Cond := .code yX2_init cX2_init 1 none :: ([.methodLink RX2 3 objectInit, .instanceMethod objectInit, .code objectInit ⟨#[0xb1]⟩ 1 none, .fieldLink RX2 9 "TwinFinder$Measure" "bandCount" "I", .fieldLink RX2 15 "TwinFinder$Measure" "rowCount" "I", .fieldLink RX2 18 "TwinFinder$Measure" "p" "I", .fieldLink RX2 21 "TwinFinder$Measure" "q" "I"] ++ wsX20)
def wsX2_takeBands : List Cond := .code yX2_takeBands cX2_takeBands 3 (some .boolean) :: ([.fieldLink RX2 9 "TwinFinder$Measure" "bandCount" "I", .fieldLink RX2 15 "TwinFinder$Measure" "rowCount" "I"] ++ wsX20)
def wsX2_takeThreshold : List Cond := .code yX2_takeThreshold cX2_takeThreshold 3 (some .boolean) :: ([.fieldLink RX2 18 "TwinFinder$Measure" "p" "I", .fieldLink RX2 21 "TwinFinder$Measure" "q" "I"] ++ wsX20)
def wsX2_sameImages : List Cond := .code yX2_sameImages cX2_sameImages 5 (some .int) :: ([.fieldLink RX2 9 "TwinFinder$Measure" "bandCount" "I", .fieldLink RX2 15 "TwinFinder$Measure" "rowCount" "I", .fieldLink RX2 40 "TwinFinder$Document" "least" "[I"] ++ wsX20 ++ wsX00)
def wsX2_areTwins_r1 : List Cond := [Cond.methodLink RX2 47 yX2_firstBand, Cond.instanceMethod yX2_firstBand, Cond.selects RX2 yX2_firstBand yX2_firstBand, Cond.initialized RX2, Cond.code yX2_firstBand cX2_firstBand 4 (some .int), Cond.fieldLink RX2 33 "TwinFinder$Document" "size" "I", Cond.fieldLink RX2 9 "TwinFinder$Measure" "bandCount" "I", Cond.fieldLink RX2 15 "TwinFinder$Measure" "rowCount" "I", Cond.methodLink RX2 43 yX2_agree, Cond.instanceMethod yX2_agree, Cond.selects RX2 yX2_agree yX2_agree, Cond.code yX2_agree cX2_agree 5 (some .boolean), Cond.fieldLink RX2 40 "TwinFinder$Document" "least" "[I", Cond.methodLink RX2 50 yX2_areNear, Cond.instanceMethod yX2_areNear, Cond.selects RX2 yX2_areNear yX2_areNear, Cond.code yX2_areNear cX2_areNear 3 (some .boolean), Cond.fieldLink RX2 21 "TwinFinder$Measure" "q" "I", Cond.fieldLink RX2 18 "TwinFinder$Measure" "p" "I", Cond.methodLink RX2 36 yX2_common, Cond.instanceMethod yX2_common, Cond.selects RX2 yX2_common yX2_common, Cond.code yX2_common cX2_common 3 (some .int), Cond.fieldLink RX2 24 "TwinFinder$Document" "shared" "[I"]
def wsX2_areTwins_r2 : List Cond := [Cond.fieldLink RX2 30 "TwinFinder$Document" "slot" "I", Cond.methodLink RX2 54 yX2_all, Cond.instanceMethod yX2_all, Cond.selects RX2 yX2_all yX2_all, Cond.code yX2_all cX2_all 3 (some .int)]
def wsX2_areTwins : List Cond := .code yX2_areTwins cX2_areTwins 3 (some .boolean) :: ((wsX2_areTwins_r1 ++ wsX2_areTwins_r2) ++ wsX00 ++ wsX20)
def wsX2_isNearer : List Cond := .code yX2_isNearer cX2_isNearer 4 (some .boolean) :: ([.methodLink RX2 57 Lib.Math.max.name, .static Lib.Math.max.name, .initialized "java/lang/Math", .code Lib.Math.max.name Lib.Math.max.code 2 (some .int), .methodLink RX2 36 yX2_common, .instanceMethod yX2_common, .selects RX2 yX2_common yX2_common, .initialized RX2, .code yX2_common cX2_common 3 (some .int), .fieldLink RX2 24 "TwinFinder$Document" "shared" "[I", .fieldLink RX2 30 "TwinFinder$Document" "slot" "I", .methodLink RX2 54 yX2_all, .instanceMethod yX2_all, .selects RX2 yX2_all yX2_all, .code yX2_all cX2_all 3 (some .int), .fieldLink RX2 33 "TwinFinder$Document" "size" "I"] ++ wsX00)
def wsX3_side : List Cond := .code yX3_side cX3_side 3 (some .int) :: ([.fieldLink RX3 18 "TwinFinder$PairRow" "size" "I", .fieldLink RX3 9 "TwinFinder$PairRow" "first" "[I", .fieldLink RX3 15 "TwinFinder$PairRow" "second" "[I"] ++ wsX30)
def wsX4_init : List Cond := .code yX4_init cX4_init 2 none :: ([.methodLink RX4 3 objectInit, .instanceMethod objectInit, .code objectInit ⟨#[0xb1]⟩ 1 none, .arrayClass .int, .fieldLink RX4 9 "TwinFinder$Permutations" "factor" "[I", .fieldLink RX4 15 "TwinFinder$Permutations" "summand" "[I", .fieldLink RX4 18 "TwinFinder$Permutations" "exchanges" "[I", .fieldLink RX4 21 "TwinFinder$Permutations" "movedKey" "[I", .fieldLink RX4 24 "TwinFinder$Permutations" "movedImage" "[I"] ++ wsX40)
def wsX4_isOne : List Cond := .code yX4_isOne cX4_isOne 1 (some .boolean) :: ([])
def wsX4_isNumber : List Cond := .code yX4_isNumber cX4_isNumber 1 (some .boolean) :: ([.constant RX4 27 (65521)])
def wsX4_dropMoved : List Cond := .code yX4_dropMoved cX4_dropMoved 4 none :: ([.fieldLink RX4 58 "TwinFinder$Permutations" "moved" "I", .fieldLink RX4 21 "TwinFinder$Permutations" "movedKey" "[I", .fieldLink RX4 24 "TwinFinder$Permutations" "movedImage" "[I"] ++ wsX40)
def wsX4_become : List Cond := .code yX4_become cX4_become 4 (some .boolean) :: ([.fieldLink RX4 9 "TwinFinder$Permutations" "factor" "[I", .fieldLink RX4 15 "TwinFinder$Permutations" "summand" "[I", .fieldLink RX4 35 "TwinFinder$Permutations" "kept" "I", .fieldLink RX4 18 "TwinFinder$Permutations" "exchanges" "[I", .methodLink RX4 28 yX4_isOne, .static yX4_isOne, .initialized RX4, .code yX4_isOne cX4_isOne 1 (some .boolean), .methodLink RX4 32 yX4_isNumber, .static yX4_isNumber, .code yX4_isNumber cX4_isNumber 1 (some .boolean), .constant RX4 27 (65521), .methodLink RX4 39 yX4_dropMoved, .instanceMethod yX4_dropMoved, .selects RX4 yX4_dropMoved yX4_dropMoved, .code yX4_dropMoved cX4_dropMoved 4 none, .fieldLink RX4 58 "TwinFinder$Permutations" "moved" "I", .fieldLink RX4 21 "TwinFinder$Permutations" "movedKey" "[I", .fieldLink RX4 24 "TwinFinder$Permutations" "movedImage" "[I"] ++ wsX40)
def wsX4_keyOf : List Cond := .code yX4_keyOf cX4_keyOf 2 (some .int) :: ([])
def wsX4_placeFor : List Cond := .code yX4_placeFor cX4_placeFor 4 (some .int) :: ([.fieldLink RX4 58 "TwinFinder$Permutations" "moved" "I", .fieldLink RX4 21 "TwinFinder$Permutations" "movedKey" "[I"] ++ wsX40)
def wsX4_imageOf : List Cond := .code yX4_imageOf cX4_imageOf 5 (some .int) :: ([.fieldLink RX4 18 "TwinFinder$Permutations" "exchanges" "[I", .fieldLink RX4 58 "TwinFinder$Permutations" "moved" "I", .fieldLink RX4 21 "TwinFinder$Permutations" "movedKey" "[I", .fieldLink RX4 24 "TwinFinder$Permutations" "movedImage" "[I", .fieldLink RX4 9 "TwinFinder$Permutations" "factor" "[I", .fieldLink RX4 15 "TwinFinder$Permutations" "summand" "[I", .constantLong RX4 61 (65521), .methodLink RX4 28 yX4_isOne, .static yX4_isOne, .initialized RX4, .code yX4_isOne cX4_isOne 1 (some .boolean), .methodLink RX4 32 yX4_isNumber, .static yX4_isNumber, .code yX4_isNumber cX4_isNumber 1 (some .boolean), .constant RX4 27 (65521), .methodLink RX4 47 yX4_keyOf, .static yX4_keyOf, .code yX4_keyOf cX4_keyOf 2 (some .int), .methodLink RX4 54 yX4_placeFor, .instanceMethod yX4_placeFor, .selects RX4 yX4_placeFor yX4_placeFor, .code yX4_placeFor cX4_placeFor 4 (some .int)] ++ wsX40)
def wsX4_move : List Cond := .code yX4_move cX4_move 5 none :: ([.fieldLink RX4 58 "TwinFinder$Permutations" "moved" "I", .fieldLink RX4 21 "TwinFinder$Permutations" "movedKey" "[I", .fieldLink RX4 24 "TwinFinder$Permutations" "movedImage" "[I", .methodLink RX4 54 yX4_placeFor, .instanceMethod yX4_placeFor, .selects RX4 yX4_placeFor yX4_placeFor, .initialized RX4, .code yX4_placeFor cX4_placeFor 4 (some .int)] ++ wsX40)
def wsX4_swap_r1 : List Cond := [Cond.fieldLink RX4 35 "TwinFinder$Permutations" "kept" "I", Cond.fieldLink RX4 18 "TwinFinder$Permutations" "exchanges" "[I", Cond.methodLink RX4 28 yX4_isOne, Cond.static yX4_isOne, Cond.initialized RX4, Cond.code yX4_isOne cX4_isOne 1 (some .boolean), Cond.methodLink RX4 32 yX4_isNumber, Cond.static yX4_isNumber, Cond.code yX4_isNumber cX4_isNumber 1 (some .boolean), Cond.constant RX4 27 (65521), Cond.methodLink RX4 43 yX4_imageOf, Cond.instanceMethod yX4_imageOf, Cond.selects RX4 yX4_imageOf yX4_imageOf, Cond.code yX4_imageOf cX4_imageOf 5 (some .int), Cond.fieldLink RX4 58 "TwinFinder$Permutations" "moved" "I", Cond.fieldLink RX4 21 "TwinFinder$Permutations" "movedKey" "[I", Cond.fieldLink RX4 24 "TwinFinder$Permutations" "movedImage" "[I", Cond.fieldLink RX4 9 "TwinFinder$Permutations" "factor" "[I", Cond.fieldLink RX4 15 "TwinFinder$Permutations" "summand" "[I", Cond.constantLong RX4 61 (65521), Cond.methodLink RX4 47 yX4_keyOf, Cond.static yX4_keyOf, Cond.code yX4_keyOf cX4_keyOf 2 (some .int), Cond.methodLink RX4 54 yX4_placeFor]
def wsX4_swap_r2 : List Cond := [Cond.instanceMethod yX4_placeFor, Cond.selects RX4 yX4_placeFor yX4_placeFor, Cond.code yX4_placeFor cX4_placeFor 4 (some .int), Cond.methodLink RX4 50 yX4_move, Cond.instanceMethod yX4_move, Cond.selects RX4 yX4_move yX4_move, Cond.code yX4_move cX4_move 5 none]
def wsX4_swap : List Cond := .code yX4_swap cX4_swap 6 (some .boolean) :: ((wsX4_swap_r1 ++ wsX4_swap_r2) ++ wsX40)
def wsX4_leastOf_r1 : List Cond := [Cond.constant RX4 27 (65521), Cond.fieldLink RX4 63 "TwinFinder$Document" "size" "I", Cond.fieldLink RX4 68 "TwinFinder$Document" "numbers" "[I", Cond.methodLink RX4 71 Lib.Math.min.name, Cond.static Lib.Math.min.name, Cond.initialized "java/lang/Math", Cond.code Lib.Math.min.name Lib.Math.min.code 2 (some .int), Cond.methodLink RX4 43 yX4_imageOf, Cond.instanceMethod yX4_imageOf, Cond.selects RX4 yX4_imageOf yX4_imageOf, Cond.initialized RX4, Cond.code yX4_imageOf cX4_imageOf 5 (some .int), Cond.fieldLink RX4 18 "TwinFinder$Permutations" "exchanges" "[I", Cond.fieldLink RX4 58 "TwinFinder$Permutations" "moved" "I", Cond.fieldLink RX4 21 "TwinFinder$Permutations" "movedKey" "[I", Cond.fieldLink RX4 24 "TwinFinder$Permutations" "movedImage" "[I", Cond.fieldLink RX4 9 "TwinFinder$Permutations" "factor" "[I", Cond.fieldLink RX4 15 "TwinFinder$Permutations" "summand" "[I", Cond.constantLong RX4 61 (65521), Cond.methodLink RX4 28 yX4_isOne, Cond.static yX4_isOne, Cond.code yX4_isOne cX4_isOne 1 (some .boolean), Cond.methodLink RX4 32 yX4_isNumber, Cond.static yX4_isNumber]
def wsX4_leastOf_r2 : List Cond := [Cond.code yX4_isNumber cX4_isNumber 1 (some .boolean), Cond.methodLink RX4 47 yX4_keyOf, Cond.static yX4_keyOf, Cond.code yX4_keyOf cX4_keyOf 2 (some .int), Cond.methodLink RX4 54 yX4_placeFor, Cond.instanceMethod yX4_placeFor, Cond.selects RX4 yX4_placeFor yX4_placeFor, Cond.code yX4_placeFor cX4_placeFor 4 (some .int)]
def wsX4_leastOf : List Cond := .code yX4_leastOf cX4_leastOf 5 (some .int) :: ((wsX4_leastOf_r1 ++ wsX4_leastOf_r2) ++ wsX00 ++ wsX40)
def wsJxa1e45_init_da8c8 : List Cond := .code yJxa1e45_init_da8c8 cJxa1e45_init_da8c8 1 none :: ([.methodLink RJxa1e45 1 objectInit, .instanceMethod objectInit, .code objectInit ⟨#[0xb1]⟩ 1 none])
def wsJxc12de_init_da8c8 : List Cond := .code yJxc12de_init_da8c8 cJxc12de_init_da8c8 1 none :: ([.fieldLink RJxc12de 7 "java/util/AbstractList" "modCount" "I", .methodLink RJxc12de 1 yJxa1e45_init_da8c8, .instanceMethod yJxa1e45_init_da8c8, .initialized RJxa1e45, .code yJxa1e45_init_da8c8 cJxa1e45_init_da8c8 1 none, .methodLink RJxa1e45 1 objectInit, .instanceMethod objectInit, .code objectInit ⟨#[0xb1]⟩ 1 none] ++ wsJx4a65c0)
def wsJx4a65c_init_da8c8 : List Cond := .code yJx4a65c_init_da8c8 cJx4a65c_init_da8c8 1 none :: ([.fieldLink RJx4a65c 39 "java/util/ArrayList" "DEFAULTCAPACITY_EMPTY_ELEMENTDATA" "[Ljava/lang/Object;", .fieldLink RJx4a65c 9 "java/util/ArrayList" "elementData" "[Ljava/lang/Object;", .methodLink RJx4a65c 1 yJxc12de_init_da8c8, .instanceMethod yJxc12de_init_da8c8, .initialized RJxc12de, .code yJxc12de_init_da8c8 cJxc12de_init_da8c8 1 none, .fieldLink RJxc12de 7 "java/util/AbstractList" "modCount" "I", .methodLink RJxc12de 1 yJxa1e45_init_da8c8, .instanceMethod yJxa1e45_init_da8c8, .initialized RJxa1e45, .code yJxa1e45_init_da8c8 cJxa1e45_init_da8c8 1 none, .methodLink RJxa1e45 1 objectInit, .instanceMethod objectInit, .code objectInit ⟨#[0xb1]⟩ 1 none] ++ wsJx4a65c0)
def wsX5_init : List Cond := .code yX5_init cX5_init 1 none :: ([.methodLink RX5 3 objectInit, .instanceMethod objectInit, .code objectInit ⟨#[0xb1]⟩ 1 none, .classLink RX5 9 RJx4a65c, .instantiable RJx4a65c 3, .initialized RJx4a65c, .fieldLink RX5 12 "TwinFinder$Shelf" "here" "Ljava/util/ArrayList;", .fieldLink RX5 18 "TwinFinder$Shelf" "spare" "Ljava/util/ArrayList;", .fieldLink RX5 21 "TwinFinder$Shelf" "ranked" "Ljava/util/ArrayList;", .methodLink RX5 11 yJx4a65c_init_da8c8, .instanceMethod yJx4a65c_init_da8c8, .code yJx4a65c_init_da8c8 cJx4a65c_init_da8c8 1 none, .fieldLink RJx4a65c 39 "java/util/ArrayList" "DEFAULTCAPACITY_EMPTY_ELEMENTDATA" "[Ljava/lang/Object;", .fieldLink RJx4a65c 9 "java/util/ArrayList" "elementData" "[Ljava/lang/Object;", .methodLink RJx4a65c 1 yJxc12de_init_da8c8, .instanceMethod yJxc12de_init_da8c8, .initialized RJxc12de, .code yJxc12de_init_da8c8 cJxc12de_init_da8c8 1 none, .fieldLink RJxc12de 7 "java/util/AbstractList" "modCount" "I", .methodLink RJxc12de 1 yJxa1e45_init_da8c8, .instanceMethod yJxa1e45_init_da8c8, .initialized RJxa1e45, .code yJxa1e45_init_da8c8 cJxa1e45_init_da8c8 1 none, .methodLink RJxa1e45 1 objectInit] ++ wsJx4a65c0 ++ wsX50)
def wsX5_isFull : List Cond := .code yX5_isFull cX5_isFull 1 (some .boolean) :: ([.fieldLink RX5 12 "TwinFinder$Shelf" "here" "Ljava/util/ArrayList;", .fieldLink RX5 28 "TwinFinder$Shelf" "came" "I", .methodLink RX5 24 yJx4a65c_size_8abf5, .instanceMethod yJx4a65c_size_8abf5, .selects RJx4a65c yJx4a65c_size_8abf5 yJx4a65c_size_8abf5, .initialized RJx4a65c, .code yJx4a65c_size_8abf5 cJx4a65c_size_8abf5 1 (some .int), .fieldLink RJx4a65c 48 "java/util/ArrayList" "size" "I"] ++ wsX50 ++ wsJx4a65c0)
def wsX5_placeOf_r1 : List Cond := [Cond.fieldLink RX5 12 "TwinFinder$Shelf" "here" "Ljava/util/ArrayList;", Cond.classLink RX5 36 "TwinFinder$Document", Cond.fieldLink RX5 38 "TwinFinder$Document" "number" "I", Cond.methodLink RX5 24 yJx4a65c_size_8abf5, Cond.instanceMethod yJx4a65c_size_8abf5, Cond.selects RJx4a65c yJx4a65c_size_8abf5 yJx4a65c_size_8abf5, Cond.initialized RJx4a65c, Cond.code yJx4a65c_size_8abf5 cJx4a65c_size_8abf5 1 (some .int), Cond.fieldLink RJx4a65c 48 "java/util/ArrayList" "size" "I", Cond.methodLink RX5 32 yJx4a65c_get_915e3, Cond.instanceMethod yJx4a65c_get_915e3, Cond.selects RJx4a65c yJx4a65c_get_915e3 yJx4a65c_get_915e3, Cond.code yJx4a65c_get_915e3 cJx4a65c_get_915e3 2 (some (.object "java/lang/Object")), Cond.methodLink RJx4a65c 118 yJ15_checkIndex_7cf53, Cond.static yJ15_checkIndex_7cf53, Cond.initialized RJ15, Cond.code yJ15_checkIndex_7cf53 cJ15_checkIndex_7cf53 2 (some .int), Cond.methodLink RJ15 105 yJ3_checkIndex_8e157, Cond.static yJ3_checkIndex_8e157, Cond.initialized RJ3, Cond.code yJ3_checkIndex_8e157 cJ3_checkIndex_8e157 3 (some .int), Cond.methodLink RJx4a65c 123 yJx4a65c_elementData_915e3, Cond.instanceMethod yJx4a65c_elementData_915e3, Cond.selects RJx4a65c yJx4a65c_elementData_915e3 yJx4a65c_elementData_915e3]
def wsX5_placeOf_r2 : List Cond := [Cond.code yJx4a65c_elementData_915e3 cJx4a65c_elementData_915e3 2 (some (.object "java/lang/Object")), Cond.fieldLink RJx4a65c 9 "java/util/ArrayList" "elementData" "[Ljava/lang/Object;"]
def wsX5_placeOf : List Cond := .code yX5_placeOf cX5_placeOf 3 (some .int) :: ((wsX5_placeOf_r1 ++ wsX5_placeOf_r2) ++ wsX50 ++ wsX00 ++ wsJx4a65c0)
def wsJx4a65c_isEmpty_aae02 : List Cond := .code yJx4a65c_isEmpty_aae02 cJx4a65c_isEmpty_aae02 1 (some .boolean) :: ([.fieldLink RJx4a65c 48 "java/util/ArrayList" "size" "I"] ++ wsJx4a65c0)
def wsJx4a65c_fastRemove_b59b0 : List Cond := .code yJx4a65c_fastRemove_b59b0 cJx4a65c_fastRemove_b59b0 4 none :: ([.fieldLink RJx4a65c 63 "java/util/ArrayList" "modCount" "I", .sameField "java/util/ArrayList" "java/util/AbstractList" "modCount" "I", .fieldLink RJx4a65c 48 "java/util/ArrayList" "size" "I", .methodLink RJx4a65c 112 arraycopyName, .native arraycopyName, .static arraycopyName, .initialized "java/lang/System"] ++ wsJx4a65c0)
def wsJx4a65c_remove_915e3 : List Cond := .code yJx4a65c_remove_915e3 cJx4a65c_remove_915e3 4 (some (.object "java/lang/Object")) :: ([.fieldLink RJx4a65c 48 "java/util/ArrayList" "size" "I", .fieldLink RJx4a65c 9 "java/util/ArrayList" "elementData" "[Ljava/lang/Object;", .methodLink RJx4a65c 118 yJ15_checkIndex_7cf53, .static yJ15_checkIndex_7cf53, .initialized RJ15, .code yJ15_checkIndex_7cf53 cJ15_checkIndex_7cf53 2 (some .int), .methodLink RJ15 105 yJ3_checkIndex_8e157, .static yJ3_checkIndex_8e157, .initialized RJ3, .code yJ3_checkIndex_8e157 cJ3_checkIndex_8e157 3 (some .int), .methodLink RJx4a65c 144 yJx4a65c_fastRemove_b59b0, .instanceMethod yJx4a65c_fastRemove_b59b0, .selects RJx4a65c yJx4a65c_fastRemove_b59b0 yJx4a65c_fastRemove_b59b0, .initialized RJx4a65c, .code yJx4a65c_fastRemove_b59b0 cJx4a65c_fastRemove_b59b0 4 none, .fieldLink RJx4a65c 63 "java/util/ArrayList" "modCount" "I", .sameField "java/util/ArrayList" "java/util/AbstractList" "modCount" "I", .methodLink RJx4a65c 112 arraycopyName, .native arraycopyName, .static arraycopyName, .initialized "java/lang/System"] ++ wsJx4a65c0)
def wsJ8_hugeLength_7cf53 : List Cond := .code yJ8_hugeLength_7cf53 cJ8_hugeLength_7cf53 3 (some .int) :: ([.constant RJ8 200 (2147483639)])
def wsJ8_newLength_cabcc : List Cond := .code yJ8_newLength_cabcc cJ8_newLength_cabcc 4 (some .int) :: ([.methodLink RJ8 194 Lib.Math.max.name, .static Lib.Math.max.name, .initialized "java/lang/Math", .code Lib.Math.max.name Lib.Math.max.code 2 (some .int), .constant RJ8 200 (2147483639), .methodLink RJ8 201 yJ8_hugeLength_7cf53, .static yJ8_hugeLength_7cf53, .initialized RJ8, .code yJ8_hugeLength_7cf53 cJ8_hugeLength_7cf53 3 (some .int)])
def wsJ7_copyOf_6403c : List Cond := .code yJ7_copyOf_6403c cJ7_copyOf_6403c 4 (some (.array (.object "java/lang/Object"))) :: ([.classLink RJ7 110 "[Ljava/lang/Object;", .classLink RJ7 2 "java/lang/Object", .methodLink RJ7 304 Lib.Math.min.name, .static Lib.Math.min.name, .initialized "java/lang/Math", .code Lib.Math.min.name Lib.Math.min.code 2 (some .int), .methodLink RJ7 150 arraycopyName, .native arraycopyName, .static arraycopyName, .initialized "java/lang/System"])
def wsJ7_copyOf_1904c : List Cond := .code yJ7_copyOf_1904c cJ7_copyOf_1904c 2 (some (.array (.object "java/lang/Object"))) :: ([.methodLink RJ7 86 ⟨"java/lang/Object", "getClass", "()Ljava/lang/Class;"⟩, .selects "[Ljava/lang/Object;" ⟨"java/lang/Object", "getClass", "()Ljava/lang/Class;"⟩ ⟨"java/lang/Object", "getClass", "()Ljava/lang/Class;"⟩, .instanceMethod ⟨"java/lang/Object", "getClass", "()Ljava/lang/Class;"⟩, .native ⟨"java/lang/Object", "getClass", "()Ljava/lang/Class;"⟩, .methodLink RJ7 300 yJ7_copyOf_6403c, .static yJ7_copyOf_6403c, .initialized RJ7, .code yJ7_copyOf_6403c cJ7_copyOf_6403c 4 (some (.array (.object "java/lang/Object"))), .classLink RJ7 110 "[Ljava/lang/Object;", .classLink RJ7 2 "java/lang/Object", .methodLink RJ7 304 Lib.Math.min.name, .static Lib.Math.min.name, .initialized "java/lang/Math", .code Lib.Math.min.name Lib.Math.min.code 2 (some .int), .methodLink RJ7 150 arraycopyName, .native arraycopyName, .static arraycopyName, .initialized "java/lang/System"])
def wsJx4a65c_grow_92f84_r1 : List Cond := [Cond.fieldLink RJx4a65c 9 "java/util/ArrayList" "elementData" "[Ljava/lang/Object;", Cond.fieldLink RJx4a65c 39 "java/util/ArrayList" "DEFAULTCAPACITY_EMPTY_ELEMENTDATA" "[Ljava/lang/Object;", Cond.methodLink RJx4a65c 79 Lib.Math.max.name, Cond.static Lib.Math.max.name, Cond.initialized "java/lang/Math", Cond.code Lib.Math.max.name Lib.Math.max.code 2 (some .int), Cond.classLink RJx4a65c 7 "java/lang/Object", Cond.methodLink RJx4a65c 73 yJ8_newLength_cabcc, Cond.static yJ8_newLength_cabcc, Cond.initialized RJ8, Cond.code yJ8_newLength_cabcc cJ8_newLength_cabcc 4 (some .int), Cond.methodLink RJ8 194 Lib.Math.max.name, Cond.constant RJ8 200 (2147483639), Cond.methodLink RJ8 201 yJ8_hugeLength_7cf53, Cond.static yJ8_hugeLength_7cf53, Cond.code yJ8_hugeLength_7cf53 cJ8_hugeLength_7cf53 3 (some .int), Cond.methodLink RJx4a65c 66 yJ7_copyOf_1904c, Cond.static yJ7_copyOf_1904c, Cond.initialized RJ7, Cond.code yJ7_copyOf_1904c cJ7_copyOf_1904c 2 (some (.array (.object "java/lang/Object"))), Cond.methodLink RJ7 86 ⟨"java/lang/Object", "getClass", "()Ljava/lang/Class;"⟩, Cond.selects "[Ljava/lang/Object;" ⟨"java/lang/Object", "getClass", "()Ljava/lang/Class;"⟩ ⟨"java/lang/Object", "getClass", "()Ljava/lang/Class;"⟩, Cond.instanceMethod ⟨"java/lang/Object", "getClass", "()Ljava/lang/Class;"⟩, Cond.native ⟨"java/lang/Object", "getClass", "()Ljava/lang/Class;"⟩]
def wsJx4a65c_grow_92f84_r2 : List Cond := [Cond.methodLink RJ7 300 yJ7_copyOf_6403c, Cond.static yJ7_copyOf_6403c, Cond.code yJ7_copyOf_6403c cJ7_copyOf_6403c 4 (some (.array (.object "java/lang/Object"))), Cond.classLink RJ7 110 "[Ljava/lang/Object;", Cond.classLink RJ7 2 "java/lang/Object", Cond.methodLink RJ7 304 Lib.Math.min.name, Cond.static Lib.Math.min.name, Cond.code Lib.Math.min.name Lib.Math.min.code 2 (some .int), Cond.methodLink RJ7 150 arraycopyName, Cond.native arraycopyName, Cond.static arraycopyName, Cond.initialized "java/lang/System"]
def wsJx4a65c_grow_92f84 : List Cond := .code yJx4a65c_grow_92f84 cJx4a65c_grow_92f84 4 (some (.array (.object "java/lang/Object"))) :: ((wsJx4a65c_grow_92f84_r1 ++ wsJx4a65c_grow_92f84_r2) ++ wsJx4a65c0)
def wsJx4a65c_grow_d5877_r1 : List Cond := [Cond.fieldLink RJx4a65c 48 "java/util/ArrayList" "size" "I", Cond.methodLink RJx4a65c 69 yJx4a65c_grow_92f84, Cond.instanceMethod yJx4a65c_grow_92f84, Cond.selects RJx4a65c yJx4a65c_grow_92f84 yJx4a65c_grow_92f84, Cond.initialized RJx4a65c, Cond.code yJx4a65c_grow_92f84 cJx4a65c_grow_92f84 4 (some (.array (.object "java/lang/Object"))), Cond.fieldLink RJx4a65c 9 "java/util/ArrayList" "elementData" "[Ljava/lang/Object;", Cond.fieldLink RJx4a65c 39 "java/util/ArrayList" "DEFAULTCAPACITY_EMPTY_ELEMENTDATA" "[Ljava/lang/Object;", Cond.methodLink RJx4a65c 79 Lib.Math.max.name, Cond.static Lib.Math.max.name, Cond.initialized "java/lang/Math", Cond.code Lib.Math.max.name Lib.Math.max.code 2 (some .int), Cond.classLink RJx4a65c 7 "java/lang/Object", Cond.methodLink RJx4a65c 73 yJ8_newLength_cabcc, Cond.static yJ8_newLength_cabcc, Cond.initialized RJ8, Cond.code yJ8_newLength_cabcc cJ8_newLength_cabcc 4 (some .int), Cond.methodLink RJ8 194 Lib.Math.max.name, Cond.constant RJ8 200 (2147483639), Cond.methodLink RJ8 201 yJ8_hugeLength_7cf53, Cond.static yJ8_hugeLength_7cf53, Cond.code yJ8_hugeLength_7cf53 cJ8_hugeLength_7cf53 3 (some .int), Cond.methodLink RJx4a65c 66 yJ7_copyOf_1904c, Cond.static yJ7_copyOf_1904c]
def wsJx4a65c_grow_d5877_r2 : List Cond := [Cond.initialized RJ7, Cond.code yJ7_copyOf_1904c cJ7_copyOf_1904c 2 (some (.array (.object "java/lang/Object"))), Cond.methodLink RJ7 86 ⟨"java/lang/Object", "getClass", "()Ljava/lang/Class;"⟩, Cond.selects "[Ljava/lang/Object;" ⟨"java/lang/Object", "getClass", "()Ljava/lang/Class;"⟩ ⟨"java/lang/Object", "getClass", "()Ljava/lang/Class;"⟩, Cond.instanceMethod ⟨"java/lang/Object", "getClass", "()Ljava/lang/Class;"⟩, Cond.native ⟨"java/lang/Object", "getClass", "()Ljava/lang/Class;"⟩, Cond.methodLink RJ7 300 yJ7_copyOf_6403c, Cond.static yJ7_copyOf_6403c, Cond.code yJ7_copyOf_6403c cJ7_copyOf_6403c 4 (some (.array (.object "java/lang/Object"))), Cond.classLink RJ7 110 "[Ljava/lang/Object;", Cond.classLink RJ7 2 "java/lang/Object", Cond.methodLink RJ7 304 Lib.Math.min.name, Cond.static Lib.Math.min.name, Cond.code Lib.Math.min.name Lib.Math.min.code 2 (some .int), Cond.methodLink RJ7 150 arraycopyName, Cond.native arraycopyName, Cond.static arraycopyName, Cond.initialized "java/lang/System"]
def wsJx4a65c_grow_d5877 : List Cond := .code yJx4a65c_grow_d5877 cJx4a65c_grow_d5877 1 (some (.array (.object "java/lang/Object"))) :: ((wsJx4a65c_grow_d5877_r1 ++ wsJx4a65c_grow_d5877_r2) ++ wsJx4a65c0)
def wsJx4a65c_add_72be8_r1 : List Cond := [Cond.fieldLink RJx4a65c 48 "java/util/ArrayList" "size" "I", Cond.methodLink RJx4a65c 129 yJx4a65c_grow_d5877, Cond.instanceMethod yJx4a65c_grow_d5877, Cond.selects RJx4a65c yJx4a65c_grow_d5877 yJx4a65c_grow_d5877, Cond.initialized RJx4a65c, Cond.code yJx4a65c_grow_d5877 cJx4a65c_grow_d5877 1 (some (.array (.object "java/lang/Object"))), Cond.methodLink RJx4a65c 69 yJx4a65c_grow_92f84, Cond.instanceMethod yJx4a65c_grow_92f84, Cond.selects RJx4a65c yJx4a65c_grow_92f84 yJx4a65c_grow_92f84, Cond.code yJx4a65c_grow_92f84 cJx4a65c_grow_92f84 4 (some (.array (.object "java/lang/Object"))), Cond.fieldLink RJx4a65c 9 "java/util/ArrayList" "elementData" "[Ljava/lang/Object;", Cond.fieldLink RJx4a65c 39 "java/util/ArrayList" "DEFAULTCAPACITY_EMPTY_ELEMENTDATA" "[Ljava/lang/Object;", Cond.methodLink RJx4a65c 79 Lib.Math.max.name, Cond.static Lib.Math.max.name, Cond.initialized "java/lang/Math", Cond.code Lib.Math.max.name Lib.Math.max.code 2 (some .int), Cond.classLink RJx4a65c 7 "java/lang/Object", Cond.methodLink RJx4a65c 73 yJ8_newLength_cabcc, Cond.static yJ8_newLength_cabcc, Cond.initialized RJ8, Cond.code yJ8_newLength_cabcc cJ8_newLength_cabcc 4 (some .int), Cond.methodLink RJ8 194 Lib.Math.max.name, Cond.constant RJ8 200 (2147483639), Cond.methodLink RJ8 201 yJ8_hugeLength_7cf53]
def wsJx4a65c_add_72be8_r2 : List Cond := [Cond.static yJ8_hugeLength_7cf53, Cond.code yJ8_hugeLength_7cf53 cJ8_hugeLength_7cf53 3 (some .int), Cond.methodLink RJx4a65c 66 yJ7_copyOf_1904c, Cond.static yJ7_copyOf_1904c, Cond.initialized RJ7, Cond.code yJ7_copyOf_1904c cJ7_copyOf_1904c 2 (some (.array (.object "java/lang/Object"))), Cond.methodLink RJ7 86 ⟨"java/lang/Object", "getClass", "()Ljava/lang/Class;"⟩, Cond.selects "[Ljava/lang/Object;" ⟨"java/lang/Object", "getClass", "()Ljava/lang/Class;"⟩ ⟨"java/lang/Object", "getClass", "()Ljava/lang/Class;"⟩, Cond.instanceMethod ⟨"java/lang/Object", "getClass", "()Ljava/lang/Class;"⟩, Cond.native ⟨"java/lang/Object", "getClass", "()Ljava/lang/Class;"⟩, Cond.methodLink RJ7 300 yJ7_copyOf_6403c, Cond.static yJ7_copyOf_6403c, Cond.code yJ7_copyOf_6403c cJ7_copyOf_6403c 4 (some (.array (.object "java/lang/Object"))), Cond.classLink RJ7 110 "[Ljava/lang/Object;", Cond.classLink RJ7 2 "java/lang/Object", Cond.methodLink RJ7 304 Lib.Math.min.name, Cond.static Lib.Math.min.name, Cond.code Lib.Math.min.name Lib.Math.min.code 2 (some .int), Cond.methodLink RJ7 150 arraycopyName, Cond.native arraycopyName, Cond.static arraycopyName, Cond.initialized "java/lang/System"]
def wsJx4a65c_add_72be8 : List Cond := .code yJx4a65c_add_72be8 cJx4a65c_add_72be8 4 none :: ((wsJx4a65c_add_72be8_r1 ++ wsJx4a65c_add_72be8_r2) ++ wsJx4a65c0)
def wsJx4a65c_add_9ea2d_r1 : List Cond := [Cond.fieldLink RJx4a65c 63 "java/util/ArrayList" "modCount" "I", Cond.sameField "java/util/ArrayList" "java/util/AbstractList" "modCount" "I", Cond.fieldLink RJx4a65c 9 "java/util/ArrayList" "elementData" "[Ljava/lang/Object;", Cond.fieldLink RJx4a65c 48 "java/util/ArrayList" "size" "I", Cond.methodLink RJx4a65c 131 yJx4a65c_add_72be8, Cond.instanceMethod yJx4a65c_add_72be8, Cond.selects RJx4a65c yJx4a65c_add_72be8 yJx4a65c_add_72be8, Cond.initialized RJx4a65c, Cond.code yJx4a65c_add_72be8 cJx4a65c_add_72be8 4 none, Cond.methodLink RJx4a65c 129 yJx4a65c_grow_d5877, Cond.instanceMethod yJx4a65c_grow_d5877, Cond.selects RJx4a65c yJx4a65c_grow_d5877 yJx4a65c_grow_d5877, Cond.code yJx4a65c_grow_d5877 cJx4a65c_grow_d5877 1 (some (.array (.object "java/lang/Object"))), Cond.methodLink RJx4a65c 69 yJx4a65c_grow_92f84, Cond.instanceMethod yJx4a65c_grow_92f84, Cond.selects RJx4a65c yJx4a65c_grow_92f84 yJx4a65c_grow_92f84, Cond.code yJx4a65c_grow_92f84 cJx4a65c_grow_92f84 4 (some (.array (.object "java/lang/Object"))), Cond.fieldLink RJx4a65c 39 "java/util/ArrayList" "DEFAULTCAPACITY_EMPTY_ELEMENTDATA" "[Ljava/lang/Object;", Cond.methodLink RJx4a65c 79 Lib.Math.max.name, Cond.static Lib.Math.max.name, Cond.initialized "java/lang/Math", Cond.code Lib.Math.max.name Lib.Math.max.code 2 (some .int), Cond.classLink RJx4a65c 7 "java/lang/Object", Cond.methodLink RJx4a65c 73 yJ8_newLength_cabcc]
def wsJx4a65c_add_9ea2d_r2 : List Cond := [Cond.static yJ8_newLength_cabcc, Cond.initialized RJ8, Cond.code yJ8_newLength_cabcc cJ8_newLength_cabcc 4 (some .int), Cond.methodLink RJ8 194 Lib.Math.max.name, Cond.constant RJ8 200 (2147483639), Cond.methodLink RJ8 201 yJ8_hugeLength_7cf53, Cond.static yJ8_hugeLength_7cf53, Cond.code yJ8_hugeLength_7cf53 cJ8_hugeLength_7cf53 3 (some .int), Cond.methodLink RJx4a65c 66 yJ7_copyOf_1904c, Cond.static yJ7_copyOf_1904c, Cond.initialized RJ7, Cond.code yJ7_copyOf_1904c cJ7_copyOf_1904c 2 (some (.array (.object "java/lang/Object"))), Cond.methodLink RJ7 86 ⟨"java/lang/Object", "getClass", "()Ljava/lang/Class;"⟩, Cond.selects "[Ljava/lang/Object;" ⟨"java/lang/Object", "getClass", "()Ljava/lang/Class;"⟩ ⟨"java/lang/Object", "getClass", "()Ljava/lang/Class;"⟩, Cond.instanceMethod ⟨"java/lang/Object", "getClass", "()Ljava/lang/Class;"⟩, Cond.native ⟨"java/lang/Object", "getClass", "()Ljava/lang/Class;"⟩, Cond.methodLink RJ7 300 yJ7_copyOf_6403c, Cond.static yJ7_copyOf_6403c, Cond.code yJ7_copyOf_6403c cJ7_copyOf_6403c 4 (some (.array (.object "java/lang/Object"))), Cond.classLink RJ7 110 "[Ljava/lang/Object;", Cond.classLink RJ7 2 "java/lang/Object", Cond.methodLink RJ7 304 Lib.Math.min.name, Cond.static Lib.Math.min.name, Cond.code Lib.Math.min.name Lib.Math.min.code 2 (some .int)]
def wsJx4a65c_add_9ea2d_r3 : List Cond := [Cond.methodLink RJ7 150 arraycopyName, Cond.native arraycopyName, Cond.static arraycopyName, Cond.initialized "java/lang/System"]
def wsJx4a65c_add_9ea2d : List Cond := .code yJx4a65c_add_9ea2d cJx4a65c_add_9ea2d 2 (some .boolean) :: ((wsJx4a65c_add_9ea2d_r1 ++ (wsJx4a65c_add_9ea2d_r2 ++ wsJx4a65c_add_9ea2d_r3)) ++ wsJx4a65c0)
def wsX5_takeNext_r1 : List Cond := [Cond.fieldLink RX5 18 "TwinFinder$Shelf" "spare" "Ljava/util/ArrayList;", Cond.classLink RX5 36 RX0, Cond.instantiable RX0 7, Cond.initialized RX0, Cond.fieldLink RX5 12 "TwinFinder$Shelf" "here" "Ljava/util/ArrayList;", Cond.classLink RX5 36 "TwinFinder$Document", Cond.fieldLink RX5 28 "TwinFinder$Shelf" "came" "I", Cond.fieldLink RX5 38 "TwinFinder$Document" "number" "I", Cond.methodLink RX5 41 yJx4a65c_isEmpty_aae02, Cond.instanceMethod yJx4a65c_isEmpty_aae02, Cond.selects RJx4a65c yJx4a65c_isEmpty_aae02 yJx4a65c_isEmpty_aae02, Cond.initialized RJx4a65c, Cond.code yJx4a65c_isEmpty_aae02 cJx4a65c_isEmpty_aae02 1 (some .boolean), Cond.fieldLink RJx4a65c 48 "java/util/ArrayList" "size" "I", Cond.methodLink RX5 24 yJx4a65c_size_8abf5, Cond.instanceMethod yJx4a65c_size_8abf5, Cond.selects RJx4a65c yJx4a65c_size_8abf5 yJx4a65c_size_8abf5, Cond.code yJx4a65c_size_8abf5 cJx4a65c_size_8abf5 1 (some .int), Cond.methodLink RX5 45 yX0_init, Cond.instanceMethod yX0_init, Cond.code yX0_init cX0_init 2 none, Cond.methodLink RX0 3 objectInit, Cond.instanceMethod objectInit, Cond.code objectInit ⟨#[0xb1]⟩ 1 none]
def wsX5_takeNext_r2 : List Cond := [Cond.arrayClass .long, Cond.fieldLink RX0 9 "TwinFinder$Document" "set" "[J", Cond.arrayClass .int, Cond.fieldLink RX0 15 "TwinFinder$Document" "numbers" "[I", Cond.fieldLink RX0 19 "TwinFinder$Document" "least" "[I", Cond.fieldLink RX0 22 "TwinFinder$Document" "shared" "[I", Cond.fieldLink RX0 25 "TwinFinder$Document" "slot" "I", Cond.methodLink RX5 48 yJx4a65c_remove_915e3, Cond.instanceMethod yJx4a65c_remove_915e3, Cond.selects RJx4a65c yJx4a65c_remove_915e3 yJx4a65c_remove_915e3, Cond.code yJx4a65c_remove_915e3 cJx4a65c_remove_915e3 4 (some (.object "java/lang/Object")), Cond.fieldLink RJx4a65c 9 "java/util/ArrayList" "elementData" "[Ljava/lang/Object;", Cond.methodLink RJx4a65c 118 yJ15_checkIndex_7cf53, Cond.static yJ15_checkIndex_7cf53, Cond.initialized RJ15, Cond.code yJ15_checkIndex_7cf53 cJ15_checkIndex_7cf53 2 (some .int), Cond.methodLink RJ15 105 yJ3_checkIndex_8e157, Cond.static yJ3_checkIndex_8e157, Cond.initialized RJ3, Cond.code yJ3_checkIndex_8e157 cJ3_checkIndex_8e157 3 (some .int), Cond.methodLink RJx4a65c 144 yJx4a65c_fastRemove_b59b0, Cond.instanceMethod yJx4a65c_fastRemove_b59b0, Cond.selects RJx4a65c yJx4a65c_fastRemove_b59b0 yJx4a65c_fastRemove_b59b0, Cond.code yJx4a65c_fastRemove_b59b0 cJx4a65c_fastRemove_b59b0 4 none]
def wsX5_takeNext_r3 : List Cond := [Cond.fieldLink RJx4a65c 63 "java/util/ArrayList" "modCount" "I", Cond.sameField "java/util/ArrayList" "java/util/AbstractList" "modCount" "I", Cond.methodLink RJx4a65c 112 arraycopyName, Cond.native arraycopyName, Cond.static arraycopyName, Cond.initialized "java/lang/System", Cond.methodLink RX5 51 yJx4a65c_add_9ea2d, Cond.instanceMethod yJx4a65c_add_9ea2d, Cond.selects RJx4a65c yJx4a65c_add_9ea2d yJx4a65c_add_9ea2d, Cond.code yJx4a65c_add_9ea2d cJx4a65c_add_9ea2d 2 (some .boolean), Cond.methodLink RJx4a65c 131 yJx4a65c_add_72be8, Cond.instanceMethod yJx4a65c_add_72be8, Cond.selects RJx4a65c yJx4a65c_add_72be8 yJx4a65c_add_72be8, Cond.code yJx4a65c_add_72be8 cJx4a65c_add_72be8 4 none, Cond.methodLink RJx4a65c 129 yJx4a65c_grow_d5877, Cond.instanceMethod yJx4a65c_grow_d5877, Cond.selects RJx4a65c yJx4a65c_grow_d5877 yJx4a65c_grow_d5877, Cond.code yJx4a65c_grow_d5877 cJx4a65c_grow_d5877 1 (some (.array (.object "java/lang/Object"))), Cond.methodLink RJx4a65c 69 yJx4a65c_grow_92f84, Cond.instanceMethod yJx4a65c_grow_92f84, Cond.selects RJx4a65c yJx4a65c_grow_92f84 yJx4a65c_grow_92f84, Cond.code yJx4a65c_grow_92f84 cJx4a65c_grow_92f84 4 (some (.array (.object "java/lang/Object"))), Cond.fieldLink RJx4a65c 39 "java/util/ArrayList" "DEFAULTCAPACITY_EMPTY_ELEMENTDATA" "[Ljava/lang/Object;", Cond.methodLink RJx4a65c 79 Lib.Math.max.name]
def wsX5_takeNext_r4 : List Cond := [Cond.static Lib.Math.max.name, Cond.initialized "java/lang/Math", Cond.code Lib.Math.max.name Lib.Math.max.code 2 (some .int), Cond.classLink RJx4a65c 7 "java/lang/Object", Cond.methodLink RJx4a65c 73 yJ8_newLength_cabcc, Cond.static yJ8_newLength_cabcc, Cond.initialized RJ8, Cond.code yJ8_newLength_cabcc cJ8_newLength_cabcc 4 (some .int), Cond.methodLink RJ8 194 Lib.Math.max.name, Cond.constant RJ8 200 (2147483639), Cond.methodLink RJ8 201 yJ8_hugeLength_7cf53, Cond.static yJ8_hugeLength_7cf53, Cond.code yJ8_hugeLength_7cf53 cJ8_hugeLength_7cf53 3 (some .int), Cond.methodLink RJx4a65c 66 yJ7_copyOf_1904c, Cond.static yJ7_copyOf_1904c, Cond.initialized RJ7, Cond.code yJ7_copyOf_1904c cJ7_copyOf_1904c 2 (some (.array (.object "java/lang/Object"))), Cond.methodLink RJ7 86 ⟨"java/lang/Object", "getClass", "()Ljava/lang/Class;"⟩, Cond.selects "[Ljava/lang/Object;" ⟨"java/lang/Object", "getClass", "()Ljava/lang/Class;"⟩ ⟨"java/lang/Object", "getClass", "()Ljava/lang/Class;"⟩, Cond.instanceMethod ⟨"java/lang/Object", "getClass", "()Ljava/lang/Class;"⟩, Cond.native ⟨"java/lang/Object", "getClass", "()Ljava/lang/Class;"⟩, Cond.methodLink RJ7 300 yJ7_copyOf_6403c, Cond.static yJ7_copyOf_6403c, Cond.code yJ7_copyOf_6403c cJ7_copyOf_6403c 4 (some (.array (.object "java/lang/Object")))]
def wsX5_takeNext_r5 : List Cond := [Cond.classLink RJ7 110 "[Ljava/lang/Object;", Cond.classLink RJ7 2 "java/lang/Object", Cond.methodLink RJ7 304 Lib.Math.min.name, Cond.static Lib.Math.min.name, Cond.code Lib.Math.min.name Lib.Math.min.code 2 (some .int), Cond.methodLink RJ7 150 arraycopyName]
def wsX5_takeNext : List Cond := .code yX5_takeNext cX5_takeNext 2 (some (.object "TwinFinder$Document")) :: ((wsX5_takeNext_r1 ++ (wsX5_takeNext_r2 ++ (wsX5_takeNext_r3 ++ (wsX5_takeNext_r4 ++ wsX5_takeNext_r5)))) ++ wsX50 ++ wsX00 ++ wsJx4a65c0)
def wsX5_shareWithAll_r1 : List Cond := [Cond.fieldLink RX5 12 "TwinFinder$Shelf" "here" "Ljava/util/ArrayList;", Cond.classLink RX5 36 "TwinFinder$Document", Cond.fieldLink RX5 59 "TwinFinder$Document" "shared" "[I", Cond.fieldLink RX5 63 "TwinFinder$Document" "slot" "I", Cond.methodLink RX5 24 yJx4a65c_size_8abf5, Cond.instanceMethod yJx4a65c_size_8abf5, Cond.selects RJx4a65c yJx4a65c_size_8abf5 yJx4a65c_size_8abf5, Cond.initialized RJx4a65c, Cond.code yJx4a65c_size_8abf5 cJx4a65c_size_8abf5 1 (some .int), Cond.fieldLink RJx4a65c 48 "java/util/ArrayList" "size" "I", Cond.methodLink RX5 32 yJx4a65c_get_915e3, Cond.instanceMethod yJx4a65c_get_915e3, Cond.selects RJx4a65c yJx4a65c_get_915e3 yJx4a65c_get_915e3, Cond.code yJx4a65c_get_915e3 cJx4a65c_get_915e3 2 (some (.object "java/lang/Object")), Cond.methodLink RJx4a65c 118 yJ15_checkIndex_7cf53, Cond.static yJ15_checkIndex_7cf53, Cond.initialized RJ15, Cond.code yJ15_checkIndex_7cf53 cJ15_checkIndex_7cf53 2 (some .int), Cond.methodLink RJ15 105 yJ3_checkIndex_8e157, Cond.static yJ3_checkIndex_8e157, Cond.initialized RJ3, Cond.code yJ3_checkIndex_8e157 cJ3_checkIndex_8e157 3 (some .int), Cond.methodLink RJx4a65c 123 yJx4a65c_elementData_915e3, Cond.instanceMethod yJx4a65c_elementData_915e3]
def wsX5_shareWithAll_r2 : List Cond := [Cond.selects RJx4a65c yJx4a65c_elementData_915e3 yJx4a65c_elementData_915e3, Cond.code yJx4a65c_elementData_915e3 cJx4a65c_elementData_915e3 2 (some (.object "java/lang/Object")), Cond.fieldLink RJx4a65c 9 "java/util/ArrayList" "elementData" "[Ljava/lang/Object;", Cond.methodLink RX5 55 yX0_countShared, Cond.instanceMethod yX0_countShared, Cond.selects RX0 yX0_countShared yX0_countShared, Cond.initialized RX0, Cond.code yX0_countShared cX0_countShared 4 (some .int), Cond.fieldLink RX0 9 "TwinFinder$Document" "set" "[J", Cond.methodLink RX0 32 yJ13_bitCount_95d88, Cond.static yJ13_bitCount_95d88, Cond.initialized RJ13, Cond.code yJ13_bitCount_95d88 cJ13_bitCount_95d88 2 (some .int), Cond.constantLong RJ13 314 (6148914691236517205), Cond.constantLong RJ13 316 (3689348814741910323), Cond.constantLong RJ13 318 (1085102592571150095)]
def wsX5_shareWithAll : List Cond := .code yX5_shareWithAll cX5_shareWithAll 5 none :: ((wsX5_shareWithAll_r1 ++ wsX5_shareWithAll_r2) ++ wsX50 ++ wsX00 ++ wsJx4a65c0)
def wsX5_putAway_r1 : List Cond := [Cond.fieldLink RX5 18 "TwinFinder$Shelf" "spare" "Ljava/util/ArrayList;", Cond.fieldLink RX5 12 "TwinFinder$Shelf" "here" "Ljava/util/ArrayList;", Cond.classLink RX5 36 "TwinFinder$Document", Cond.methodLink RX5 66 yX5_placeOf, Cond.instanceMethod yX5_placeOf, Cond.selects RX5 yX5_placeOf yX5_placeOf, Cond.initialized RX5, Cond.code yX5_placeOf cX5_placeOf 3 (some .int), Cond.fieldLink RX5 38 "TwinFinder$Document" "number" "I", Cond.methodLink RX5 24 yJx4a65c_size_8abf5, Cond.instanceMethod yJx4a65c_size_8abf5, Cond.selects RJx4a65c yJx4a65c_size_8abf5 yJx4a65c_size_8abf5, Cond.initialized RJx4a65c, Cond.code yJx4a65c_size_8abf5 cJx4a65c_size_8abf5 1 (some .int), Cond.fieldLink RJx4a65c 48 "java/util/ArrayList" "size" "I", Cond.methodLink RX5 32 yJx4a65c_get_915e3, Cond.instanceMethod yJx4a65c_get_915e3, Cond.selects RJx4a65c yJx4a65c_get_915e3 yJx4a65c_get_915e3, Cond.code yJx4a65c_get_915e3 cJx4a65c_get_915e3 2 (some (.object "java/lang/Object")), Cond.methodLink RJx4a65c 118 yJ15_checkIndex_7cf53, Cond.static yJ15_checkIndex_7cf53, Cond.initialized RJ15, Cond.code yJ15_checkIndex_7cf53 cJ15_checkIndex_7cf53 2 (some .int), Cond.methodLink RJ15 105 yJ3_checkIndex_8e157]
def wsX5_putAway_r2 : List Cond := [Cond.static yJ3_checkIndex_8e157, Cond.initialized RJ3, Cond.code yJ3_checkIndex_8e157 cJ3_checkIndex_8e157 3 (some .int), Cond.methodLink RJx4a65c 123 yJx4a65c_elementData_915e3, Cond.instanceMethod yJx4a65c_elementData_915e3, Cond.selects RJx4a65c yJx4a65c_elementData_915e3 yJx4a65c_elementData_915e3, Cond.code yJx4a65c_elementData_915e3 cJx4a65c_elementData_915e3 2 (some (.object "java/lang/Object")), Cond.fieldLink RJx4a65c 9 "java/util/ArrayList" "elementData" "[Ljava/lang/Object;", Cond.methodLink RX5 48 yJx4a65c_remove_915e3, Cond.instanceMethod yJx4a65c_remove_915e3, Cond.selects RJx4a65c yJx4a65c_remove_915e3 yJx4a65c_remove_915e3, Cond.code yJx4a65c_remove_915e3 cJx4a65c_remove_915e3 4 (some (.object "java/lang/Object")), Cond.methodLink RJx4a65c 144 yJx4a65c_fastRemove_b59b0, Cond.instanceMethod yJx4a65c_fastRemove_b59b0, Cond.selects RJx4a65c yJx4a65c_fastRemove_b59b0 yJx4a65c_fastRemove_b59b0, Cond.code yJx4a65c_fastRemove_b59b0 cJx4a65c_fastRemove_b59b0 4 none, Cond.fieldLink RJx4a65c 63 "java/util/ArrayList" "modCount" "I", Cond.sameField "java/util/ArrayList" "java/util/AbstractList" "modCount" "I", Cond.methodLink RJx4a65c 112 arraycopyName, Cond.native arraycopyName, Cond.static arraycopyName, Cond.initialized "java/lang/System", Cond.methodLink RX5 51 yJx4a65c_add_9ea2d, Cond.instanceMethod yJx4a65c_add_9ea2d]
def wsX5_putAway_r3 : List Cond := [Cond.selects RJx4a65c yJx4a65c_add_9ea2d yJx4a65c_add_9ea2d, Cond.code yJx4a65c_add_9ea2d cJx4a65c_add_9ea2d 2 (some .boolean), Cond.methodLink RJx4a65c 131 yJx4a65c_add_72be8, Cond.instanceMethod yJx4a65c_add_72be8, Cond.selects RJx4a65c yJx4a65c_add_72be8 yJx4a65c_add_72be8, Cond.code yJx4a65c_add_72be8 cJx4a65c_add_72be8 4 none, Cond.methodLink RJx4a65c 129 yJx4a65c_grow_d5877, Cond.instanceMethod yJx4a65c_grow_d5877, Cond.selects RJx4a65c yJx4a65c_grow_d5877 yJx4a65c_grow_d5877, Cond.code yJx4a65c_grow_d5877 cJx4a65c_grow_d5877 1 (some (.array (.object "java/lang/Object"))), Cond.methodLink RJx4a65c 69 yJx4a65c_grow_92f84, Cond.instanceMethod yJx4a65c_grow_92f84, Cond.selects RJx4a65c yJx4a65c_grow_92f84 yJx4a65c_grow_92f84, Cond.code yJx4a65c_grow_92f84 cJx4a65c_grow_92f84 4 (some (.array (.object "java/lang/Object"))), Cond.fieldLink RJx4a65c 39 "java/util/ArrayList" "DEFAULTCAPACITY_EMPTY_ELEMENTDATA" "[Ljava/lang/Object;", Cond.methodLink RJx4a65c 79 Lib.Math.max.name, Cond.static Lib.Math.max.name, Cond.initialized "java/lang/Math", Cond.code Lib.Math.max.name Lib.Math.max.code 2 (some .int), Cond.classLink RJx4a65c 7 "java/lang/Object", Cond.methodLink RJx4a65c 73 yJ8_newLength_cabcc, Cond.static yJ8_newLength_cabcc, Cond.initialized RJ8, Cond.code yJ8_newLength_cabcc cJ8_newLength_cabcc 4 (some .int)]
def wsX5_putAway_r4 : List Cond := [Cond.methodLink RJ8 194 Lib.Math.max.name, Cond.constant RJ8 200 (2147483639), Cond.methodLink RJ8 201 yJ8_hugeLength_7cf53, Cond.static yJ8_hugeLength_7cf53, Cond.code yJ8_hugeLength_7cf53 cJ8_hugeLength_7cf53 3 (some .int), Cond.methodLink RJx4a65c 66 yJ7_copyOf_1904c, Cond.static yJ7_copyOf_1904c, Cond.initialized RJ7, Cond.code yJ7_copyOf_1904c cJ7_copyOf_1904c 2 (some (.array (.object "java/lang/Object"))), Cond.methodLink RJ7 86 ⟨"java/lang/Object", "getClass", "()Ljava/lang/Class;"⟩, Cond.selects "[Ljava/lang/Object;" ⟨"java/lang/Object", "getClass", "()Ljava/lang/Class;"⟩ ⟨"java/lang/Object", "getClass", "()Ljava/lang/Class;"⟩, Cond.instanceMethod ⟨"java/lang/Object", "getClass", "()Ljava/lang/Class;"⟩, Cond.native ⟨"java/lang/Object", "getClass", "()Ljava/lang/Class;"⟩, Cond.methodLink RJ7 300 yJ7_copyOf_6403c, Cond.static yJ7_copyOf_6403c, Cond.code yJ7_copyOf_6403c cJ7_copyOf_6403c 4 (some (.array (.object "java/lang/Object"))), Cond.classLink RJ7 110 "[Ljava/lang/Object;", Cond.classLink RJ7 2 "java/lang/Object", Cond.methodLink RJ7 304 Lib.Math.min.name, Cond.static Lib.Math.min.name, Cond.code Lib.Math.min.name Lib.Math.min.code 2 (some .int), Cond.methodLink RJ7 150 arraycopyName]
def wsX5_putAway : List Cond := .code yX5_putAway cX5_putAway 3 (some .boolean) :: ((wsX5_putAway_r1 ++ (wsX5_putAway_r2 ++ (wsX5_putAway_r3 ++ wsX5_putAway_r4))) ++ wsX50 ++ wsX00 ++ wsJx4a65c0)
def wsJx4a65c_clear_da8c8 : List Cond := .code yJx4a65c_clear_da8c8 cJx4a65c_clear_da8c8 4 none :: ([.fieldLink RJx4a65c 63 "java/util/ArrayList" "modCount" "I", .sameField "java/util/ArrayList" "java/util/AbstractList" "modCount" "I", .fieldLink RJx4a65c 9 "java/util/ArrayList" "elementData" "[Ljava/lang/Object;", .fieldLink RJx4a65c 48 "java/util/ArrayList" "size" "I"] ++ wsJx4a65c0)
def wsX5_putAllAway_r1 : List Cond := [Cond.fieldLink RX5 12 "TwinFinder$Shelf" "here" "Ljava/util/ArrayList;", Cond.fieldLink RX5 18 "TwinFinder$Shelf" "spare" "Ljava/util/ArrayList;", Cond.classLink RX5 36 "TwinFinder$Document", Cond.fieldLink RX5 28 "TwinFinder$Shelf" "came" "I", Cond.methodLink RX5 24 yJx4a65c_size_8abf5, Cond.instanceMethod yJx4a65c_size_8abf5, Cond.selects RJx4a65c yJx4a65c_size_8abf5 yJx4a65c_size_8abf5, Cond.initialized RJx4a65c, Cond.code yJx4a65c_size_8abf5 cJx4a65c_size_8abf5 1 (some .int), Cond.fieldLink RJx4a65c 48 "java/util/ArrayList" "size" "I", Cond.methodLink RX5 32 yJx4a65c_get_915e3, Cond.instanceMethod yJx4a65c_get_915e3, Cond.selects RJx4a65c yJx4a65c_get_915e3 yJx4a65c_get_915e3, Cond.code yJx4a65c_get_915e3 cJx4a65c_get_915e3 2 (some (.object "java/lang/Object")), Cond.methodLink RJx4a65c 118 yJ15_checkIndex_7cf53, Cond.static yJ15_checkIndex_7cf53, Cond.initialized RJ15, Cond.code yJ15_checkIndex_7cf53 cJ15_checkIndex_7cf53 2 (some .int), Cond.methodLink RJ15 105 yJ3_checkIndex_8e157, Cond.static yJ3_checkIndex_8e157, Cond.initialized RJ3, Cond.code yJ3_checkIndex_8e157 cJ3_checkIndex_8e157 3 (some .int), Cond.methodLink RJx4a65c 123 yJx4a65c_elementData_915e3, Cond.instanceMethod yJx4a65c_elementData_915e3]
def wsX5_putAllAway_r2 : List Cond := [Cond.selects RJx4a65c yJx4a65c_elementData_915e3 yJx4a65c_elementData_915e3, Cond.code yJx4a65c_elementData_915e3 cJx4a65c_elementData_915e3 2 (some (.object "java/lang/Object")), Cond.fieldLink RJx4a65c 9 "java/util/ArrayList" "elementData" "[Ljava/lang/Object;", Cond.methodLink RX5 51 yJx4a65c_add_9ea2d, Cond.instanceMethod yJx4a65c_add_9ea2d, Cond.selects RJx4a65c yJx4a65c_add_9ea2d yJx4a65c_add_9ea2d, Cond.code yJx4a65c_add_9ea2d cJx4a65c_add_9ea2d 2 (some .boolean), Cond.fieldLink RJx4a65c 63 "java/util/ArrayList" "modCount" "I", Cond.sameField "java/util/ArrayList" "java/util/AbstractList" "modCount" "I", Cond.methodLink RJx4a65c 131 yJx4a65c_add_72be8, Cond.instanceMethod yJx4a65c_add_72be8, Cond.selects RJx4a65c yJx4a65c_add_72be8 yJx4a65c_add_72be8, Cond.code yJx4a65c_add_72be8 cJx4a65c_add_72be8 4 none, Cond.methodLink RJx4a65c 129 yJx4a65c_grow_d5877, Cond.instanceMethod yJx4a65c_grow_d5877, Cond.selects RJx4a65c yJx4a65c_grow_d5877 yJx4a65c_grow_d5877, Cond.code yJx4a65c_grow_d5877 cJx4a65c_grow_d5877 1 (some (.array (.object "java/lang/Object"))), Cond.methodLink RJx4a65c 69 yJx4a65c_grow_92f84, Cond.instanceMethod yJx4a65c_grow_92f84, Cond.selects RJx4a65c yJx4a65c_grow_92f84 yJx4a65c_grow_92f84, Cond.code yJx4a65c_grow_92f84 cJx4a65c_grow_92f84 4 (some (.array (.object "java/lang/Object"))), Cond.fieldLink RJx4a65c 39 "java/util/ArrayList" "DEFAULTCAPACITY_EMPTY_ELEMENTDATA" "[Ljava/lang/Object;", Cond.methodLink RJx4a65c 79 Lib.Math.max.name, Cond.static Lib.Math.max.name]
def wsX5_putAllAway_r3 : List Cond := [Cond.initialized "java/lang/Math", Cond.code Lib.Math.max.name Lib.Math.max.code 2 (some .int), Cond.classLink RJx4a65c 7 "java/lang/Object", Cond.methodLink RJx4a65c 73 yJ8_newLength_cabcc, Cond.static yJ8_newLength_cabcc, Cond.initialized RJ8, Cond.code yJ8_newLength_cabcc cJ8_newLength_cabcc 4 (some .int), Cond.methodLink RJ8 194 Lib.Math.max.name, Cond.constant RJ8 200 (2147483639), Cond.methodLink RJ8 201 yJ8_hugeLength_7cf53, Cond.static yJ8_hugeLength_7cf53, Cond.code yJ8_hugeLength_7cf53 cJ8_hugeLength_7cf53 3 (some .int), Cond.methodLink RJx4a65c 66 yJ7_copyOf_1904c, Cond.static yJ7_copyOf_1904c, Cond.initialized RJ7, Cond.code yJ7_copyOf_1904c cJ7_copyOf_1904c 2 (some (.array (.object "java/lang/Object"))), Cond.methodLink RJ7 86 ⟨"java/lang/Object", "getClass", "()Ljava/lang/Class;"⟩, Cond.selects "[Ljava/lang/Object;" ⟨"java/lang/Object", "getClass", "()Ljava/lang/Class;"⟩ ⟨"java/lang/Object", "getClass", "()Ljava/lang/Class;"⟩, Cond.instanceMethod ⟨"java/lang/Object", "getClass", "()Ljava/lang/Class;"⟩, Cond.native ⟨"java/lang/Object", "getClass", "()Ljava/lang/Class;"⟩, Cond.methodLink RJ7 300 yJ7_copyOf_6403c, Cond.static yJ7_copyOf_6403c, Cond.code yJ7_copyOf_6403c cJ7_copyOf_6403c 4 (some (.array (.object "java/lang/Object"))), Cond.classLink RJ7 110 "[Ljava/lang/Object;"]
def wsX5_putAllAway_r4 : List Cond := [Cond.classLink RJ7 2 "java/lang/Object", Cond.methodLink RJ7 304 Lib.Math.min.name, Cond.static Lib.Math.min.name, Cond.code Lib.Math.min.name Lib.Math.min.code 2 (some .int), Cond.methodLink RJ7 150 arraycopyName, Cond.native arraycopyName, Cond.static arraycopyName, Cond.initialized "java/lang/System", Cond.methodLink RX5 70 yJx4a65c_clear_da8c8, Cond.instanceMethod yJx4a65c_clear_da8c8, Cond.selects RJx4a65c yJx4a65c_clear_da8c8 yJx4a65c_clear_da8c8, Cond.code yJx4a65c_clear_da8c8 cJx4a65c_clear_da8c8 4 none]
def wsX5_putAllAway : List Cond := .code yX5_putAllAway cX5_putAllAway 3 (some .int) :: ((wsX5_putAllAway_r1 ++ (wsX5_putAllAway_r2 ++ (wsX5_putAllAway_r3 ++ wsX5_putAllAway_r4))) ++ wsX50 ++ wsJx4a65c0)
def wsX5_rankOf_r1 : List Cond := [Cond.fieldLink RX5 21 "TwinFinder$Shelf" "ranked" "Ljava/util/ArrayList;", Cond.classLink RX5 36 "TwinFinder$Document", Cond.methodLink RX5 24 yJx4a65c_size_8abf5, Cond.instanceMethod yJx4a65c_size_8abf5, Cond.selects RJx4a65c yJx4a65c_size_8abf5 yJx4a65c_size_8abf5, Cond.initialized RJx4a65c, Cond.code yJx4a65c_size_8abf5 cJx4a65c_size_8abf5 1 (some .int), Cond.fieldLink RJx4a65c 48 "java/util/ArrayList" "size" "I", Cond.methodLink RX5 32 yJx4a65c_get_915e3, Cond.instanceMethod yJx4a65c_get_915e3, Cond.selects RJx4a65c yJx4a65c_get_915e3 yJx4a65c_get_915e3, Cond.code yJx4a65c_get_915e3 cJx4a65c_get_915e3 2 (some (.object "java/lang/Object")), Cond.methodLink RJx4a65c 118 yJ15_checkIndex_7cf53, Cond.static yJ15_checkIndex_7cf53, Cond.initialized RJ15, Cond.code yJ15_checkIndex_7cf53 cJ15_checkIndex_7cf53 2 (some .int), Cond.methodLink RJ15 105 yJ3_checkIndex_8e157, Cond.static yJ3_checkIndex_8e157, Cond.initialized RJ3, Cond.code yJ3_checkIndex_8e157 cJ3_checkIndex_8e157 3 (some .int), Cond.methodLink RJx4a65c 123 yJx4a65c_elementData_915e3, Cond.instanceMethod yJx4a65c_elementData_915e3, Cond.selects RJx4a65c yJx4a65c_elementData_915e3 yJx4a65c_elementData_915e3, Cond.code yJx4a65c_elementData_915e3 cJx4a65c_elementData_915e3 2 (some (.object "java/lang/Object"))]
def wsX5_rankOf_r2 : List Cond := [Cond.fieldLink RJx4a65c 9 "java/util/ArrayList" "elementData" "[Ljava/lang/Object;", Cond.methodLink RX5 80 yX2_isNearer, Cond.instanceMethod yX2_isNearer, Cond.selects RX2 yX2_isNearer yX2_isNearer, Cond.initialized RX2, Cond.code yX2_isNearer cX2_isNearer 4 (some .boolean), Cond.methodLink RX2 57 Lib.Math.max.name, Cond.static Lib.Math.max.name, Cond.initialized "java/lang/Math", Cond.code Lib.Math.max.name Lib.Math.max.code 2 (some .int), Cond.methodLink RX2 36 yX2_common, Cond.instanceMethod yX2_common, Cond.selects RX2 yX2_common yX2_common, Cond.code yX2_common cX2_common 3 (some .int), Cond.fieldLink RX2 24 "TwinFinder$Document" "shared" "[I", Cond.fieldLink RX2 30 "TwinFinder$Document" "slot" "I", Cond.methodLink RX2 54 yX2_all, Cond.instanceMethod yX2_all, Cond.selects RX2 yX2_all yX2_all, Cond.code yX2_all cX2_all 3 (some .int), Cond.fieldLink RX2 33 "TwinFinder$Document" "size" "I"]
def wsX5_rankOf : List Cond := .code yX5_rankOf cX5_rankOf 5 (some .int) :: ((wsX5_rankOf_r1 ++ wsX5_rankOf_r2) ++ wsX50 ++ wsJx4a65c0 ++ wsX00)
def wsJx4a65c_rangeCheckForAdd_d00df : List Cond := .code yJx4a65c_rangeCheckForAdd_d00df cJx4a65c_rangeCheckForAdd_d00df 2 none :: ([.fieldLink RJx4a65c 48 "java/util/ArrayList" "size" "I"] ++ wsJx4a65c0)
def wsJx4a65c_add_7a177_r1 : List Cond := [Cond.fieldLink RJx4a65c 63 "java/util/ArrayList" "modCount" "I", Cond.sameField "java/util/ArrayList" "java/util/AbstractList" "modCount" "I", Cond.fieldLink RJx4a65c 48 "java/util/ArrayList" "size" "I", Cond.fieldLink RJx4a65c 9 "java/util/ArrayList" "elementData" "[Ljava/lang/Object;", Cond.methodLink RJx4a65c 112 arraycopyName, Cond.native arraycopyName, Cond.static arraycopyName, Cond.initialized "java/lang/System", Cond.methodLink RJx4a65c 135 yJx4a65c_rangeCheckForAdd_d00df, Cond.instanceMethod yJx4a65c_rangeCheckForAdd_d00df, Cond.selects RJx4a65c yJx4a65c_rangeCheckForAdd_d00df yJx4a65c_rangeCheckForAdd_d00df, Cond.initialized RJx4a65c, Cond.code yJx4a65c_rangeCheckForAdd_d00df cJx4a65c_rangeCheckForAdd_d00df 2 none, Cond.methodLink RJx4a65c 129 yJx4a65c_grow_d5877, Cond.instanceMethod yJx4a65c_grow_d5877, Cond.selects RJx4a65c yJx4a65c_grow_d5877 yJx4a65c_grow_d5877, Cond.code yJx4a65c_grow_d5877 cJx4a65c_grow_d5877 1 (some (.array (.object "java/lang/Object"))), Cond.methodLink RJx4a65c 69 yJx4a65c_grow_92f84, Cond.instanceMethod yJx4a65c_grow_92f84, Cond.selects RJx4a65c yJx4a65c_grow_92f84 yJx4a65c_grow_92f84, Cond.code yJx4a65c_grow_92f84 cJx4a65c_grow_92f84 4 (some (.array (.object "java/lang/Object"))), Cond.fieldLink RJx4a65c 39 "java/util/ArrayList" "DEFAULTCAPACITY_EMPTY_ELEMENTDATA" "[Ljava/lang/Object;", Cond.methodLink RJx4a65c 79 Lib.Math.max.name, Cond.static Lib.Math.max.name]
def wsJx4a65c_add_7a177_r2 : List Cond := [Cond.initialized "java/lang/Math", Cond.code Lib.Math.max.name Lib.Math.max.code 2 (some .int), Cond.classLink RJx4a65c 7 "java/lang/Object", Cond.methodLink RJx4a65c 73 yJ8_newLength_cabcc, Cond.static yJ8_newLength_cabcc, Cond.initialized RJ8, Cond.code yJ8_newLength_cabcc cJ8_newLength_cabcc 4 (some .int), Cond.methodLink RJ8 194 Lib.Math.max.name, Cond.constant RJ8 200 (2147483639), Cond.methodLink RJ8 201 yJ8_hugeLength_7cf53, Cond.static yJ8_hugeLength_7cf53, Cond.code yJ8_hugeLength_7cf53 cJ8_hugeLength_7cf53 3 (some .int), Cond.methodLink RJx4a65c 66 yJ7_copyOf_1904c, Cond.static yJ7_copyOf_1904c, Cond.initialized RJ7, Cond.code yJ7_copyOf_1904c cJ7_copyOf_1904c 2 (some (.array (.object "java/lang/Object"))), Cond.methodLink RJ7 86 ⟨"java/lang/Object", "getClass", "()Ljava/lang/Class;"⟩, Cond.selects "[Ljava/lang/Object;" ⟨"java/lang/Object", "getClass", "()Ljava/lang/Class;"⟩ ⟨"java/lang/Object", "getClass", "()Ljava/lang/Class;"⟩, Cond.instanceMethod ⟨"java/lang/Object", "getClass", "()Ljava/lang/Class;"⟩, Cond.native ⟨"java/lang/Object", "getClass", "()Ljava/lang/Class;"⟩, Cond.methodLink RJ7 300 yJ7_copyOf_6403c, Cond.static yJ7_copyOf_6403c, Cond.code yJ7_copyOf_6403c cJ7_copyOf_6403c 4 (some (.array (.object "java/lang/Object"))), Cond.classLink RJ7 110 "[Ljava/lang/Object;"]
def wsJx4a65c_add_7a177_r3 : List Cond := [Cond.classLink RJ7 2 "java/lang/Object", Cond.methodLink RJ7 304 Lib.Math.min.name, Cond.static Lib.Math.min.name, Cond.code Lib.Math.min.name Lib.Math.min.code 2 (some .int), Cond.methodLink RJ7 150 arraycopyName]
def wsJx4a65c_add_7a177 : List Cond := .code yJx4a65c_add_7a177 cJx4a65c_add_7a177 5 none :: ((wsJx4a65c_add_7a177_r1 ++ (wsJx4a65c_add_7a177_r2 ++ wsJx4a65c_add_7a177_r3)) ++ wsJx4a65c0)
def wsX5_othersByNearness_r1 : List Cond := [Cond.fieldLink RX5 21 "TwinFinder$Shelf" "ranked" "Ljava/util/ArrayList;", Cond.fieldLink RX5 12 "TwinFinder$Shelf" "here" "Ljava/util/ArrayList;", Cond.classLink RX5 36 "TwinFinder$Document", Cond.methodLink RX5 70 yJx4a65c_clear_da8c8, Cond.instanceMethod yJx4a65c_clear_da8c8, Cond.selects RJx4a65c yJx4a65c_clear_da8c8 yJx4a65c_clear_da8c8, Cond.initialized RJx4a65c, Cond.code yJx4a65c_clear_da8c8 cJx4a65c_clear_da8c8 4 none, Cond.fieldLink RJx4a65c 63 "java/util/ArrayList" "modCount" "I", Cond.sameField "java/util/ArrayList" "java/util/AbstractList" "modCount" "I", Cond.fieldLink RJx4a65c 9 "java/util/ArrayList" "elementData" "[Ljava/lang/Object;", Cond.fieldLink RJx4a65c 48 "java/util/ArrayList" "size" "I", Cond.methodLink RX5 24 yJx4a65c_size_8abf5, Cond.instanceMethod yJx4a65c_size_8abf5, Cond.selects RJx4a65c yJx4a65c_size_8abf5 yJx4a65c_size_8abf5, Cond.code yJx4a65c_size_8abf5 cJx4a65c_size_8abf5 1 (some .int), Cond.methodLink RX5 32 yJx4a65c_get_915e3, Cond.instanceMethod yJx4a65c_get_915e3, Cond.selects RJx4a65c yJx4a65c_get_915e3 yJx4a65c_get_915e3, Cond.code yJx4a65c_get_915e3 cJx4a65c_get_915e3 2 (some (.object "java/lang/Object")), Cond.methodLink RJx4a65c 118 yJ15_checkIndex_7cf53, Cond.static yJ15_checkIndex_7cf53, Cond.initialized RJ15, Cond.code yJ15_checkIndex_7cf53 cJ15_checkIndex_7cf53 2 (some .int)]
def wsX5_othersByNearness_r2 : List Cond := [Cond.methodLink RJ15 105 yJ3_checkIndex_8e157, Cond.static yJ3_checkIndex_8e157, Cond.initialized RJ3, Cond.code yJ3_checkIndex_8e157 cJ3_checkIndex_8e157 3 (some .int), Cond.methodLink RJx4a65c 123 yJx4a65c_elementData_915e3, Cond.instanceMethod yJx4a65c_elementData_915e3, Cond.selects RJx4a65c yJx4a65c_elementData_915e3 yJx4a65c_elementData_915e3, Cond.code yJx4a65c_elementData_915e3 cJx4a65c_elementData_915e3 2 (some (.object "java/lang/Object")), Cond.methodLink RX5 73 yX5_rankOf, Cond.instanceMethod yX5_rankOf, Cond.selects RX5 yX5_rankOf yX5_rankOf, Cond.initialized RX5, Cond.code yX5_rankOf cX5_rankOf 5 (some .int), Cond.methodLink RX5 80 yX2_isNearer, Cond.instanceMethod yX2_isNearer, Cond.selects RX2 yX2_isNearer yX2_isNearer, Cond.initialized RX2, Cond.code yX2_isNearer cX2_isNearer 4 (some .boolean), Cond.methodLink RX2 57 Lib.Math.max.name, Cond.static Lib.Math.max.name, Cond.initialized "java/lang/Math", Cond.code Lib.Math.max.name Lib.Math.max.code 2 (some .int), Cond.methodLink RX2 36 yX2_common, Cond.instanceMethod yX2_common]
def wsX5_othersByNearness_r3 : List Cond := [Cond.selects RX2 yX2_common yX2_common, Cond.code yX2_common cX2_common 3 (some .int), Cond.fieldLink RX2 24 "TwinFinder$Document" "shared" "[I", Cond.fieldLink RX2 30 "TwinFinder$Document" "slot" "I", Cond.methodLink RX2 54 yX2_all, Cond.instanceMethod yX2_all, Cond.selects RX2 yX2_all yX2_all, Cond.code yX2_all cX2_all 3 (some .int), Cond.fieldLink RX2 33 "TwinFinder$Document" "size" "I", Cond.methodLink RX5 77 yJx4a65c_add_7a177, Cond.instanceMethod yJx4a65c_add_7a177, Cond.selects RJx4a65c yJx4a65c_add_7a177 yJx4a65c_add_7a177, Cond.code yJx4a65c_add_7a177 cJx4a65c_add_7a177 5 none, Cond.methodLink RJx4a65c 112 arraycopyName, Cond.native arraycopyName, Cond.static arraycopyName, Cond.initialized "java/lang/System", Cond.methodLink RJx4a65c 135 yJx4a65c_rangeCheckForAdd_d00df, Cond.instanceMethod yJx4a65c_rangeCheckForAdd_d00df, Cond.selects RJx4a65c yJx4a65c_rangeCheckForAdd_d00df yJx4a65c_rangeCheckForAdd_d00df, Cond.code yJx4a65c_rangeCheckForAdd_d00df cJx4a65c_rangeCheckForAdd_d00df 2 none, Cond.methodLink RJx4a65c 129 yJx4a65c_grow_d5877, Cond.instanceMethod yJx4a65c_grow_d5877, Cond.selects RJx4a65c yJx4a65c_grow_d5877 yJx4a65c_grow_d5877]
def wsX5_othersByNearness_r4 : List Cond := [Cond.code yJx4a65c_grow_d5877 cJx4a65c_grow_d5877 1 (some (.array (.object "java/lang/Object"))), Cond.methodLink RJx4a65c 69 yJx4a65c_grow_92f84, Cond.instanceMethod yJx4a65c_grow_92f84, Cond.selects RJx4a65c yJx4a65c_grow_92f84 yJx4a65c_grow_92f84, Cond.code yJx4a65c_grow_92f84 cJx4a65c_grow_92f84 4 (some (.array (.object "java/lang/Object"))), Cond.fieldLink RJx4a65c 39 "java/util/ArrayList" "DEFAULTCAPACITY_EMPTY_ELEMENTDATA" "[Ljava/lang/Object;", Cond.methodLink RJx4a65c 79 Lib.Math.max.name, Cond.classLink RJx4a65c 7 "java/lang/Object", Cond.methodLink RJx4a65c 73 yJ8_newLength_cabcc, Cond.static yJ8_newLength_cabcc, Cond.initialized RJ8, Cond.code yJ8_newLength_cabcc cJ8_newLength_cabcc 4 (some .int), Cond.methodLink RJ8 194 Lib.Math.max.name, Cond.constant RJ8 200 (2147483639), Cond.methodLink RJ8 201 yJ8_hugeLength_7cf53, Cond.static yJ8_hugeLength_7cf53, Cond.code yJ8_hugeLength_7cf53 cJ8_hugeLength_7cf53 3 (some .int), Cond.methodLink RJx4a65c 66 yJ7_copyOf_1904c, Cond.static yJ7_copyOf_1904c, Cond.initialized RJ7, Cond.code yJ7_copyOf_1904c cJ7_copyOf_1904c 2 (some (.array (.object "java/lang/Object"))), Cond.methodLink RJ7 86 ⟨"java/lang/Object", "getClass", "()Ljava/lang/Class;"⟩, Cond.selects "[Ljava/lang/Object;" ⟨"java/lang/Object", "getClass", "()Ljava/lang/Class;"⟩ ⟨"java/lang/Object", "getClass", "()Ljava/lang/Class;"⟩, Cond.instanceMethod ⟨"java/lang/Object", "getClass", "()Ljava/lang/Class;"⟩]
def wsX5_othersByNearness_r5 : List Cond := [Cond.native ⟨"java/lang/Object", "getClass", "()Ljava/lang/Class;"⟩, Cond.methodLink RJ7 300 yJ7_copyOf_6403c, Cond.static yJ7_copyOf_6403c, Cond.code yJ7_copyOf_6403c cJ7_copyOf_6403c 4 (some (.array (.object "java/lang/Object"))), Cond.classLink RJ7 110 "[Ljava/lang/Object;", Cond.classLink RJ7 2 "java/lang/Object", Cond.methodLink RJ7 304 Lib.Math.min.name, Cond.static Lib.Math.min.name, Cond.code Lib.Math.min.name Lib.Math.min.code 2 (some .int), Cond.methodLink RJ7 150 arraycopyName]
def wsX5_othersByNearness : List Cond := .code yX5_othersByNearness cX5_othersByNearness 5 (some (.object "java/util/ArrayList")) :: ((wsX5_othersByNearness_r1 ++ (wsX5_othersByNearness_r2 ++ (wsX5_othersByNearness_r3 ++ (wsX5_othersByNearness_r4 ++ wsX5_othersByNearness_r5)))) ++ wsX50 ++ wsJx4a65c0 ++ wsX00)
def wsX6_init : List Cond := .code yX6_init cX6_init 1 none :: ([.methodLink RX6 3 objectInit, .instanceMethod objectInit, .code objectInit ⟨#[0xb1]⟩ 1 none, .constant RX6 9 (50000), .arrayClass .byte, .fieldLink RX6 10 "TwinFinder$Store" "letters" "[B", .arrayClass .int, .fieldLink RX6 16 "TwinFinder$Store" "begin" "[I", .fieldLink RX6 20 "TwinFinder$Store" "seatOf" "[I", .fieldLink RX6 23 "TwinFinder$Store" "seats" "[I"] ++ wsX60)
def wsX6_bytesUsed : List Cond := .code yX6_bytesUsed cX6_bytesUsed 1 (some .int) :: ([.fieldLink RX6 16 "TwinFinder$Store" "begin" "[I", .fieldLink RX6 26 "TwinFinder$Store" "given" "I"] ++ wsX60)
def wsX6_byteOf : List Cond := .code yX6_byteOf cX6_byteOf 3 (some .int) :: ([.fieldLink RX6 26 "TwinFinder$Store" "given" "I", .fieldLink RX6 16 "TwinFinder$Store" "begin" "[I", .fieldLink RX6 10 "TwinFinder$Store" "letters" "[B"] ++ wsX60)
def wsX6_firstSeat : List Cond := .code yX6_firstSeat cX6_firstSeat 5 (some .int) :: ([])
def wsX6_enter : List Cond := .code yX6_enter cX6_enter 7 (some .int) :: ([.fieldLink RX6 16 "TwinFinder$Store" "begin" "[I", .fieldLink RX6 26 "TwinFinder$Store" "given" "I", .constant RX6 9 (50000), .fieldLink RX6 10 "TwinFinder$Store" "letters" "[B", .fieldLink RX6 23 "TwinFinder$Store" "seats" "[I", .fieldLink RX6 20 "TwinFinder$Store" "seatOf" "[I"] ++ wsX60)
def wsX6_isThere : List Cond := .code yX6_isThere cX6_isThere 7 (some .boolean) :: ([.fieldLink RX6 16 "TwinFinder$Store" "begin" "[I", .fieldLink RX6 10 "TwinFinder$Store" "letters" "[B"] ++ wsX60)
def wsX6_numberOf : List Cond := .code yX6_numberOf cX6_numberOf 7 (some .int) :: ([.fieldLink RX6 23 "TwinFinder$Store" "seats" "[I", .methodLink RX6 30 yX6_firstSeat, .static yX6_firstSeat, .initialized RX6, .code yX6_firstSeat cX6_firstSeat 5 (some .int), .methodLink RX6 34 yX6_enter, .instanceMethod yX6_enter, .selects RX6 yX6_enter yX6_enter, .code yX6_enter cX6_enter 7 (some .int), .fieldLink RX6 16 "TwinFinder$Store" "begin" "[I", .fieldLink RX6 26 "TwinFinder$Store" "given" "I", .constant RX6 9 (50000), .fieldLink RX6 10 "TwinFinder$Store" "letters" "[B", .fieldLink RX6 20 "TwinFinder$Store" "seatOf" "[I", .methodLink RX6 38 yX6_isThere, .instanceMethod yX6_isThere, .selects RX6 yX6_isThere yX6_isThere, .code yX6_isThere cX6_isThere 7 (some .boolean)] ++ wsX60)
def wsX6_forgetFrom : List Cond := .code yX6_forgetFrom cX6_forgetFrom 3 none :: ([.fieldLink RX6 26 "TwinFinder$Store" "given" "I", .fieldLink RX6 23 "TwinFinder$Store" "seats" "[I", .fieldLink RX6 20 "TwinFinder$Store" "seatOf" "[I"] ++ wsX60)
def wsX7_init : List Cond := .code yX7_init cX7_init 1 none :: ([.methodLink RX7 3 objectInit, .instanceMethod objectInit, .code objectInit ⟨#[0xb1]⟩ 1 none, .arrayClass .byte, .fieldLink RX7 9 "TwinFinder$Tape" "bytes" "[B", .fieldLink RX7 15 "TwinFinder$Tape" "plain" "[B", .arrayClass .int, .fieldLink RX7 18 "TwinFinder$Tape" "start" "[I"] ++ wsX70)
def wsX7_putFour : List Cond := .code yX7_putFour cX7_putFour 3 none :: ([.fieldLink RX7 22 "TwinFinder$Tape" "length" "I", .fieldLink RX7 9 "TwinFinder$Tape" "bytes" "[B"] ++ wsX70)
def wsX7_cutTo : List Cond := .code yX7_cutTo cX7_cutTo 2 (some .boolean) :: ([.fieldLink RX7 22 "TwinFinder$Tape" "length" "I"] ++ wsX70)
def wsX7_plainSign : List Cond := .code yX7_plainSign cX7_plainSign 2 (some .int) :: ([])
def wsX7_putPlain : List Cond := .code yX7_putPlain cX7_putPlain 2 none :: ([.fieldLink RX7 26 "TwinFinder$Tape" "plainLength" "I", .fieldLink RX7 15 "TwinFinder$Tape" "plain" "[B"] ++ wsX70)
def wsX7_makePlain : List Cond := .code yX7_makePlain cX7_makePlain 4 (some .int) :: ([.fieldLink RX7 26 "TwinFinder$Tape" "plainLength" "I", .fieldLink RX7 22 "TwinFinder$Tape" "length" "I", .fieldLink RX7 9 "TwinFinder$Tape" "bytes" "[B", .methodLink RX7 29 yX7_plainSign, .static yX7_plainSign, .initialized RX7, .code yX7_plainSign cX7_plainSign 2 (some .int), .methodLink RX7 33 yX7_putPlain, .instanceMethod yX7_putPlain, .selects RX7 yX7_putPlain yX7_putPlain, .code yX7_putPlain cX7_putPlain 2 none, .fieldLink RX7 15 "TwinFinder$Tape" "plain" "[B"] ++ wsX70)
def wsX7_markPieces : List Cond := .code yX7_markPieces cX7_markPieces 3 none :: ([.fieldLink RX7 37 "TwinFinder$Tape" "gap" "I", .fieldLink RX7 40 "TwinFinder$Tape" "pieces" "I", .fieldLink RX7 26 "TwinFinder$Tape" "plainLength" "I", .fieldLink RX7 15 "TwinFinder$Tape" "plain" "[B", .fieldLink RX7 18 "TwinFinder$Tape" "start" "[I"] ++ wsX70)
def wsX8_init_r1 : List Cond := [Cond.methodLink RX8 3 objectInit, Cond.instanceMethod objectInit, Cond.code objectInit ⟨#[0xb1]⟩ 1 none, Cond.classLink RX8 9 RX7, Cond.instantiable RX7 7, Cond.initialized RX7, Cond.fieldLink RX8 12 "TwinFinder" "tape" "LTwinFinder$Tape;", Cond.classLink RX8 16 RX6, Cond.instantiable RX6 5, Cond.initialized RX6, Cond.fieldLink RX8 19 "TwinFinder" "store" "LTwinFinder$Store;", Cond.classLink RX8 23 RX4, Cond.instantiable RX4 7, Cond.initialized RX4, Cond.fieldLink RX8 26 "TwinFinder" "permutations" "LTwinFinder$Permutations;", Cond.classLink RX8 30 RX5, Cond.instantiable RX5 4, Cond.initialized RX5, Cond.fieldLink RX8 33 "TwinFinder" "shelf" "LTwinFinder$Shelf;", Cond.classLink RX8 37 RX2, Cond.instantiable RX2 4, Cond.initialized RX2, Cond.fieldLink RX8 40 "TwinFinder" "measure" "LTwinFinder$Measure;", Cond.classLink RX8 44 RX1]
def wsX8_init_r2 : List Cond := [Cond.instantiable RX1 8, Cond.initialized RX1, Cond.fieldLink RX8 47 "TwinFinder" "kin" "LTwinFinder$Kin;", Cond.arrayClass .int, Cond.fieldLink RX8 51 "TwinFinder" "along" "[I", Cond.fieldLink RX8 55 "TwinFinder" "sortAtHand" "I", Cond.fieldLink RX8 59 "TwinFinder" "rowAtHand" "I", Cond.instanceMethod yX7_init, Cond.code yX7_init cX7_init 1 none, Cond.methodLink RX7 3 objectInit, Cond.arrayClass .byte, Cond.fieldLink RX7 9 "TwinFinder$Tape" "bytes" "[B", Cond.fieldLink RX7 15 "TwinFinder$Tape" "plain" "[B", Cond.fieldLink RX7 18 "TwinFinder$Tape" "start" "[I", Cond.instanceMethod yX6_init, Cond.code yX6_init cX6_init 1 none, Cond.methodLink RX6 3 objectInit, Cond.constant RX6 9 (50000), Cond.fieldLink RX6 10 "TwinFinder$Store" "letters" "[B", Cond.fieldLink RX6 16 "TwinFinder$Store" "begin" "[I", Cond.fieldLink RX6 20 "TwinFinder$Store" "seatOf" "[I", Cond.fieldLink RX6 23 "TwinFinder$Store" "seats" "[I", Cond.methodLink RX8 25 yX4_init, Cond.instanceMethod yX4_init]
def wsX8_init_r3 : List Cond := [Cond.code yX4_init cX4_init 2 none, Cond.methodLink RX4 3 objectInit, Cond.fieldLink RX4 9 "TwinFinder$Permutations" "factor" "[I", Cond.fieldLink RX4 15 "TwinFinder$Permutations" "summand" "[I", Cond.fieldLink RX4 18 "TwinFinder$Permutations" "exchanges" "[I", Cond.fieldLink RX4 21 "TwinFinder$Permutations" "movedKey" "[I", Cond.fieldLink RX4 24 "TwinFinder$Permutations" "movedImage" "[I", Cond.instanceMethod yX5_init, Cond.code yX5_init cX5_init 1 none, Cond.methodLink RX5 3 objectInit, Cond.classLink RX5 9 RJx4a65c, Cond.instantiable RJx4a65c 3, Cond.initialized RJx4a65c, Cond.fieldLink RX5 12 "TwinFinder$Shelf" "here" "Ljava/util/ArrayList;", Cond.fieldLink RX5 18 "TwinFinder$Shelf" "spare" "Ljava/util/ArrayList;", Cond.fieldLink RX5 21 "TwinFinder$Shelf" "ranked" "Ljava/util/ArrayList;", Cond.methodLink RX5 11 yJx4a65c_init_da8c8, Cond.instanceMethod yJx4a65c_init_da8c8, Cond.code yJx4a65c_init_da8c8 cJx4a65c_init_da8c8 1 none, Cond.fieldLink RJx4a65c 39 "java/util/ArrayList" "DEFAULTCAPACITY_EMPTY_ELEMENTDATA" "[Ljava/lang/Object;", Cond.fieldLink RJx4a65c 9 "java/util/ArrayList" "elementData" "[Ljava/lang/Object;", Cond.methodLink RJx4a65c 1 yJxc12de_init_da8c8, Cond.instanceMethod yJxc12de_init_da8c8, Cond.initialized RJxc12de]
def wsX8_init_r4 : List Cond := [Cond.code yJxc12de_init_da8c8 cJxc12de_init_da8c8 1 none, Cond.fieldLink RJxc12de 7 "java/util/AbstractList" "modCount" "I", Cond.methodLink RJxc12de 1 yJxa1e45_init_da8c8, Cond.instanceMethod yJxa1e45_init_da8c8, Cond.initialized RJxa1e45, Cond.code yJxa1e45_init_da8c8 cJxa1e45_init_da8c8 1 none, Cond.methodLink RJxa1e45 1 objectInit, Cond.instanceMethod yX2_init, Cond.code yX2_init cX2_init 1 none, Cond.methodLink RX2 3 objectInit, Cond.fieldLink RX2 9 "TwinFinder$Measure" "bandCount" "I", Cond.fieldLink RX2 15 "TwinFinder$Measure" "rowCount" "I", Cond.fieldLink RX2 18 "TwinFinder$Measure" "p" "I", Cond.fieldLink RX2 21 "TwinFinder$Measure" "q" "I", Cond.instanceMethod yX1_init, Cond.code yX1_init cX1_init 1 none, Cond.methodLink RX1 3 objectInit, Cond.classLink RX1 9 RX3, Cond.instantiable RX3 3, Cond.initialized RX3, Cond.fieldLink RX1 12 "TwinFinder$Kin" "candidates" "LTwinFinder$PairRow;", Cond.fieldLink RX1 18 "TwinFinder$Kin" "twins" "LTwinFinder$PairRow;", Cond.fieldLink RX1 21 "TwinFinder$Kin" "number" "[I", Cond.fieldLink RX1 25 "TwinFinder$Kin" "twinCount" "[I"]
def wsX8_init_r5 : List Cond := [Cond.fieldLink RX1 28 "TwinFinder$Kin" "leader" "[I", Cond.fieldLink RX1 31 "TwinFinder$Kin" "members" "[I", Cond.instanceMethod yX3_init, Cond.code yX3_init cX3_init 1 none, Cond.methodLink RX3 3 objectInit, Cond.fieldLink RX3 9 "TwinFinder$PairRow" "first" "[I", Cond.fieldLink RX3 15 "TwinFinder$PairRow" "second" "[I"]
def wsX8_init : List Cond := .code yX8_init cX8_init 1 none :: ((wsX8_init_r1 ++ (wsX8_init_r2 ++ (wsX8_init_r3 ++ (wsX8_init_r4 ++ wsX8_init_r5)))) ++ wsX70 ++ wsX80 ++ wsX60 ++ wsX40 ++ wsX50 ++ wsX20 ++ wsX10 ++ wsJx4a65c0 ++ wsX30)
def wsX8_feed : List Cond := .code yX8_feed cX8_feed 6 (some .int) :: ([.fieldLink RX8 12 "TwinFinder" "tape" "LTwinFinder$Tape;", .fieldLink RX8 62 "TwinFinder$Tape" "length" "I", .methodLink RX8 65 yX7_putFour, .instanceMethod yX7_putFour, .selects RX7 yX7_putFour yX7_putFour, .initialized RX7, .code yX7_putFour cX7_putFour 3 none, .fieldLink RX7 22 "TwinFinder$Tape" "length" "I", .fieldLink RX7 9 "TwinFinder$Tape" "bytes" "[B"] ++ wsX80 ++ wsX70)
def wsX8_end : List Cond := .code yX8_end cX8_end 2 (some .boolean) :: ([.fieldLink RX8 12 "TwinFinder" "tape" "LTwinFinder$Tape;", .methodLink RX8 69 yX7_cutTo, .instanceMethod yX7_cutTo, .selects RX7 yX7_cutTo yX7_cutTo, .initialized RX7, .code yX7_cutTo cX7_cutTo 2 (some .boolean), .fieldLink RX7 22 "TwinFinder$Tape" "length" "I"] ++ wsX80 ++ wsX70)
def wsX8_numberAlongText_r1 : List Cond := [Cond.fieldLink RX8 12 "TwinFinder" "tape" "LTwinFinder$Tape;", Cond.fieldLink RX8 270 "TwinFinder$Tape" "pieces" "I", Cond.fieldLink RX8 59 "TwinFinder" "rowAtHand" "I", Cond.methodLink RX8 273 Lib.Math.max.name, Cond.static Lib.Math.max.name, Cond.initialized "java/lang/Math", Cond.code Lib.Math.max.name Lib.Math.max.code 2 (some .int), Cond.fieldLink RX8 19 "TwinFinder" "store" "LTwinFinder$Store;", Cond.fieldLink RX8 278 "TwinFinder$Tape" "plain" "[B", Cond.fieldLink RX8 282 "TwinFinder$Tape" "start" "[I", Cond.fieldLink RX8 285 "TwinFinder$Tape" "gap" "I", Cond.fieldLink RX8 51 "TwinFinder" "along" "[I", Cond.methodLink RX8 288 yX6_numberOf, Cond.instanceMethod yX6_numberOf, Cond.selects RX6 yX6_numberOf yX6_numberOf, Cond.initialized RX6, Cond.code yX6_numberOf cX6_numberOf 7 (some .int), Cond.fieldLink RX6 23 "TwinFinder$Store" "seats" "[I", Cond.methodLink RX6 30 yX6_firstSeat, Cond.static yX6_firstSeat, Cond.code yX6_firstSeat cX6_firstSeat 5 (some .int), Cond.methodLink RX6 34 yX6_enter, Cond.instanceMethod yX6_enter, Cond.selects RX6 yX6_enter yX6_enter]
def wsX8_numberAlongText_r2 : List Cond := [Cond.code yX6_enter cX6_enter 7 (some .int), Cond.fieldLink RX6 16 "TwinFinder$Store" "begin" "[I", Cond.fieldLink RX6 26 "TwinFinder$Store" "given" "I", Cond.constant RX6 9 (50000), Cond.fieldLink RX6 10 "TwinFinder$Store" "letters" "[B", Cond.fieldLink RX6 20 "TwinFinder$Store" "seatOf" "[I", Cond.methodLink RX6 38 yX6_isThere, Cond.instanceMethod yX6_isThere, Cond.selects RX6 yX6_isThere yX6_isThere, Cond.code yX6_isThere cX6_isThere 7 (some .boolean)]
def wsX8_numberAlongText : List Cond := .code yX8_numberAlongText cX8_numberAlongText 4 (some .int) :: ((wsX8_numberAlongText_r1 ++ wsX8_numberAlongText_r2) ++ wsX80 ++ wsX70 ++ wsX60)
def wsX8_add_r1 : List Cond := [Cond.fieldLink RX8 12 "TwinFinder" "tape" "LTwinFinder$Tape;", Cond.fieldLink RX8 33 "TwinFinder" "shelf" "LTwinFinder$Shelf;", Cond.fieldLink RX8 55 "TwinFinder" "sortAtHand" "I", Cond.fieldLink RX8 19 "TwinFinder" "store" "LTwinFinder$Store;", Cond.fieldLink RX8 85 "TwinFinder$Store" "given" "I", Cond.fieldLink RX8 51 "TwinFinder" "along" "[I", Cond.fieldLink RX8 104 "TwinFinder$Document" "least" "[I", Cond.fieldLink RX8 26 "TwinFinder" "permutations" "LTwinFinder$Permutations;", Cond.fieldLink RX8 47 "TwinFinder" "kin" "LTwinFinder$Kin;", Cond.fieldLink RX8 115 "TwinFinder$Kin" "known" "Z", Cond.fieldLink RX8 119 "TwinFinder$Document" "number" "I", Cond.methodLink RX8 73 yX7_makePlain, Cond.instanceMethod yX7_makePlain, Cond.selects RX7 yX7_makePlain yX7_makePlain, Cond.initialized RX7, Cond.code yX7_makePlain cX7_makePlain 4 (some .int), Cond.fieldLink RX7 26 "TwinFinder$Tape" "plainLength" "I", Cond.fieldLink RX7 22 "TwinFinder$Tape" "length" "I", Cond.fieldLink RX7 9 "TwinFinder$Tape" "bytes" "[B", Cond.methodLink RX7 29 yX7_plainSign, Cond.static yX7_plainSign, Cond.code yX7_plainSign cX7_plainSign 2 (some .int), Cond.methodLink RX7 33 yX7_putPlain, Cond.instanceMethod yX7_putPlain]
def wsX8_add_r2 : List Cond := [Cond.selects RX7 yX7_putPlain yX7_putPlain, Cond.code yX7_putPlain cX7_putPlain 2 none, Cond.fieldLink RX7 15 "TwinFinder$Tape" "plain" "[B", Cond.methodLink RX8 69 yX7_cutTo, Cond.instanceMethod yX7_cutTo, Cond.selects RX7 yX7_cutTo yX7_cutTo, Cond.code yX7_cutTo cX7_cutTo 2 (some .boolean), Cond.methodLink RX8 77 yX5_isFull, Cond.instanceMethod yX5_isFull, Cond.selects RX5 yX5_isFull yX5_isFull, Cond.initialized RX5, Cond.code yX5_isFull cX5_isFull 1 (some .boolean), Cond.fieldLink RX5 12 "TwinFinder$Shelf" "here" "Ljava/util/ArrayList;", Cond.fieldLink RX5 28 "TwinFinder$Shelf" "came" "I", Cond.methodLink RX5 24 yJx4a65c_size_8abf5, Cond.instanceMethod yJx4a65c_size_8abf5, Cond.selects RJx4a65c yJx4a65c_size_8abf5 yJx4a65c_size_8abf5, Cond.initialized RJx4a65c, Cond.code yJx4a65c_size_8abf5 cJx4a65c_size_8abf5 1 (some .int), Cond.fieldLink RJx4a65c 48 "java/util/ArrayList" "size" "I", Cond.methodLink RX8 81 yX7_markPieces, Cond.instanceMethod yX7_markPieces, Cond.selects RX7 yX7_markPieces yX7_markPieces, Cond.code yX7_markPieces cX7_markPieces 3 none]
def wsX8_add_r3 : List Cond := [Cond.fieldLink RX7 37 "TwinFinder$Tape" "gap" "I", Cond.fieldLink RX7 40 "TwinFinder$Tape" "pieces" "I", Cond.fieldLink RX7 18 "TwinFinder$Tape" "start" "[I", Cond.methodLink RX8 88 yX8_numberAlongText, Cond.instanceMethod yX8_numberAlongText, Cond.selects RX8 yX8_numberAlongText yX8_numberAlongText, Cond.initialized RX8, Cond.code yX8_numberAlongText cX8_numberAlongText 4 (some .int), Cond.fieldLink RX8 270 "TwinFinder$Tape" "pieces" "I", Cond.fieldLink RX8 59 "TwinFinder" "rowAtHand" "I", Cond.methodLink RX8 273 Lib.Math.max.name, Cond.static Lib.Math.max.name, Cond.initialized "java/lang/Math", Cond.code Lib.Math.max.name Lib.Math.max.code 2 (some .int), Cond.fieldLink RX8 278 "TwinFinder$Tape" "plain" "[B", Cond.fieldLink RX8 282 "TwinFinder$Tape" "start" "[I", Cond.fieldLink RX8 285 "TwinFinder$Tape" "gap" "I", Cond.methodLink RX8 288 yX6_numberOf, Cond.instanceMethod yX6_numberOf, Cond.selects RX6 yX6_numberOf yX6_numberOf, Cond.initialized RX6, Cond.code yX6_numberOf cX6_numberOf 7 (some .int), Cond.fieldLink RX6 23 "TwinFinder$Store" "seats" "[I", Cond.methodLink RX6 30 yX6_firstSeat]
def wsX8_add_r4 : List Cond := [Cond.static yX6_firstSeat, Cond.code yX6_firstSeat cX6_firstSeat 5 (some .int), Cond.methodLink RX6 34 yX6_enter, Cond.instanceMethod yX6_enter, Cond.selects RX6 yX6_enter yX6_enter, Cond.code yX6_enter cX6_enter 7 (some .int), Cond.fieldLink RX6 16 "TwinFinder$Store" "begin" "[I", Cond.fieldLink RX6 26 "TwinFinder$Store" "given" "I", Cond.constant RX6 9 (50000), Cond.fieldLink RX6 10 "TwinFinder$Store" "letters" "[B", Cond.fieldLink RX6 20 "TwinFinder$Store" "seatOf" "[I", Cond.methodLink RX6 38 yX6_isThere, Cond.instanceMethod yX6_isThere, Cond.selects RX6 yX6_isThere yX6_isThere, Cond.code yX6_isThere cX6_isThere 7 (some .boolean), Cond.methodLink RX8 91 yX6_forgetFrom, Cond.instanceMethod yX6_forgetFrom, Cond.selects RX6 yX6_forgetFrom yX6_forgetFrom, Cond.code yX6_forgetFrom cX6_forgetFrom 3 none, Cond.methodLink RX8 94 yX5_takeNext, Cond.instanceMethod yX5_takeNext, Cond.selects RX5 yX5_takeNext yX5_takeNext, Cond.code yX5_takeNext cX5_takeNext 2 (some (.object "TwinFinder$Document")), Cond.fieldLink RX5 18 "TwinFinder$Shelf" "spare" "Ljava/util/ArrayList;"]
def wsX8_add_r5 : List Cond := [Cond.classLink RX5 36 RX0, Cond.instantiable RX0 7, Cond.initialized RX0, Cond.classLink RX5 36 "TwinFinder$Document", Cond.fieldLink RX5 38 "TwinFinder$Document" "number" "I", Cond.methodLink RX5 41 yJx4a65c_isEmpty_aae02, Cond.instanceMethod yJx4a65c_isEmpty_aae02, Cond.selects RJx4a65c yJx4a65c_isEmpty_aae02 yJx4a65c_isEmpty_aae02, Cond.code yJx4a65c_isEmpty_aae02 cJx4a65c_isEmpty_aae02 1 (some .boolean), Cond.methodLink RX5 45 yX0_init, Cond.instanceMethod yX0_init, Cond.code yX0_init cX0_init 2 none, Cond.methodLink RX0 3 objectInit, Cond.instanceMethod objectInit, Cond.code objectInit ⟨#[0xb1]⟩ 1 none, Cond.arrayClass .long, Cond.fieldLink RX0 9 "TwinFinder$Document" "set" "[J", Cond.arrayClass .int, Cond.fieldLink RX0 15 "TwinFinder$Document" "numbers" "[I", Cond.fieldLink RX0 19 "TwinFinder$Document" "least" "[I", Cond.fieldLink RX0 22 "TwinFinder$Document" "shared" "[I", Cond.fieldLink RX0 25 "TwinFinder$Document" "slot" "I", Cond.methodLink RX5 48 yJx4a65c_remove_915e3, Cond.instanceMethod yJx4a65c_remove_915e3]
def wsX8_add_r6 : List Cond := [Cond.selects RJx4a65c yJx4a65c_remove_915e3 yJx4a65c_remove_915e3, Cond.code yJx4a65c_remove_915e3 cJx4a65c_remove_915e3 4 (some (.object "java/lang/Object")), Cond.fieldLink RJx4a65c 9 "java/util/ArrayList" "elementData" "[Ljava/lang/Object;", Cond.methodLink RJx4a65c 118 yJ15_checkIndex_7cf53, Cond.static yJ15_checkIndex_7cf53, Cond.initialized RJ15, Cond.code yJ15_checkIndex_7cf53 cJ15_checkIndex_7cf53 2 (some .int), Cond.methodLink RJ15 105 yJ3_checkIndex_8e157, Cond.static yJ3_checkIndex_8e157, Cond.initialized RJ3, Cond.code yJ3_checkIndex_8e157 cJ3_checkIndex_8e157 3 (some .int), Cond.methodLink RJx4a65c 144 yJx4a65c_fastRemove_b59b0, Cond.instanceMethod yJx4a65c_fastRemove_b59b0, Cond.selects RJx4a65c yJx4a65c_fastRemove_b59b0 yJx4a65c_fastRemove_b59b0, Cond.code yJx4a65c_fastRemove_b59b0 cJx4a65c_fastRemove_b59b0 4 none, Cond.fieldLink RJx4a65c 63 "java/util/ArrayList" "modCount" "I", Cond.sameField "java/util/ArrayList" "java/util/AbstractList" "modCount" "I", Cond.methodLink RJx4a65c 112 arraycopyName, Cond.native arraycopyName, Cond.static arraycopyName, Cond.initialized "java/lang/System", Cond.methodLink RX5 51 yJx4a65c_add_9ea2d, Cond.instanceMethod yJx4a65c_add_9ea2d, Cond.selects RJx4a65c yJx4a65c_add_9ea2d yJx4a65c_add_9ea2d]
def wsX8_add_r7 : List Cond := [Cond.code yJx4a65c_add_9ea2d cJx4a65c_add_9ea2d 2 (some .boolean), Cond.methodLink RJx4a65c 131 yJx4a65c_add_72be8, Cond.instanceMethod yJx4a65c_add_72be8, Cond.selects RJx4a65c yJx4a65c_add_72be8 yJx4a65c_add_72be8, Cond.code yJx4a65c_add_72be8 cJx4a65c_add_72be8 4 none, Cond.methodLink RJx4a65c 129 yJx4a65c_grow_d5877, Cond.instanceMethod yJx4a65c_grow_d5877, Cond.selects RJx4a65c yJx4a65c_grow_d5877 yJx4a65c_grow_d5877, Cond.code yJx4a65c_grow_d5877 cJx4a65c_grow_d5877 1 (some (.array (.object "java/lang/Object"))), Cond.methodLink RJx4a65c 69 yJx4a65c_grow_92f84, Cond.instanceMethod yJx4a65c_grow_92f84, Cond.selects RJx4a65c yJx4a65c_grow_92f84 yJx4a65c_grow_92f84, Cond.code yJx4a65c_grow_92f84 cJx4a65c_grow_92f84 4 (some (.array (.object "java/lang/Object"))), Cond.fieldLink RJx4a65c 39 "java/util/ArrayList" "DEFAULTCAPACITY_EMPTY_ELEMENTDATA" "[Ljava/lang/Object;", Cond.methodLink RJx4a65c 79 Lib.Math.max.name, Cond.classLink RJx4a65c 7 "java/lang/Object", Cond.methodLink RJx4a65c 73 yJ8_newLength_cabcc, Cond.static yJ8_newLength_cabcc, Cond.initialized RJ8, Cond.code yJ8_newLength_cabcc cJ8_newLength_cabcc 4 (some .int), Cond.methodLink RJ8 194 Lib.Math.max.name, Cond.constant RJ8 200 (2147483639), Cond.methodLink RJ8 201 yJ8_hugeLength_7cf53, Cond.static yJ8_hugeLength_7cf53]
def wsX8_add_r8 : List Cond := [Cond.code yJ8_hugeLength_7cf53 cJ8_hugeLength_7cf53 3 (some .int), Cond.methodLink RJx4a65c 66 yJ7_copyOf_1904c, Cond.static yJ7_copyOf_1904c, Cond.initialized RJ7, Cond.code yJ7_copyOf_1904c cJ7_copyOf_1904c 2 (some (.array (.object "java/lang/Object"))), Cond.methodLink RJ7 86 ⟨"java/lang/Object", "getClass", "()Ljava/lang/Class;"⟩, Cond.selects "[Ljava/lang/Object;" ⟨"java/lang/Object", "getClass", "()Ljava/lang/Class;"⟩ ⟨"java/lang/Object", "getClass", "()Ljava/lang/Class;"⟩, Cond.instanceMethod ⟨"java/lang/Object", "getClass", "()Ljava/lang/Class;"⟩, Cond.native ⟨"java/lang/Object", "getClass", "()Ljava/lang/Class;"⟩, Cond.methodLink RJ7 300 yJ7_copyOf_6403c, Cond.static yJ7_copyOf_6403c, Cond.code yJ7_copyOf_6403c cJ7_copyOf_6403c 4 (some (.array (.object "java/lang/Object"))), Cond.classLink RJ7 110 "[Ljava/lang/Object;", Cond.classLink RJ7 2 "java/lang/Object", Cond.methodLink RJ7 304 Lib.Math.min.name, Cond.static Lib.Math.min.name, Cond.code Lib.Math.min.name Lib.Math.min.code 2 (some .int), Cond.methodLink RJ7 150 arraycopyName, Cond.methodLink RX8 98 yX0_fillWith, Cond.instanceMethod yX0_fillWith, Cond.selects RX0 yX0_fillWith yX0_fillWith, Cond.code yX0_fillWith cX0_fillWith 5 none, Cond.fieldLink RX0 29 "TwinFinder$Document" "size" "I", Cond.methodLink RX8 107 yX4_leastOf]
def wsX8_add_r9 : List Cond := [Cond.instanceMethod yX4_leastOf, Cond.selects RX4 yX4_leastOf yX4_leastOf, Cond.initialized RX4, Cond.code yX4_leastOf cX4_leastOf 5 (some .int), Cond.constant RX4 27 (65521), Cond.fieldLink RX4 63 "TwinFinder$Document" "size" "I", Cond.fieldLink RX4 68 "TwinFinder$Document" "numbers" "[I", Cond.methodLink RX4 71 Lib.Math.min.name, Cond.methodLink RX4 43 yX4_imageOf, Cond.instanceMethod yX4_imageOf, Cond.selects RX4 yX4_imageOf yX4_imageOf, Cond.code yX4_imageOf cX4_imageOf 5 (some .int), Cond.fieldLink RX4 18 "TwinFinder$Permutations" "exchanges" "[I", Cond.fieldLink RX4 58 "TwinFinder$Permutations" "moved" "I", Cond.fieldLink RX4 21 "TwinFinder$Permutations" "movedKey" "[I", Cond.fieldLink RX4 24 "TwinFinder$Permutations" "movedImage" "[I", Cond.fieldLink RX4 9 "TwinFinder$Permutations" "factor" "[I", Cond.fieldLink RX4 15 "TwinFinder$Permutations" "summand" "[I", Cond.constantLong RX4 61 (65521), Cond.methodLink RX4 28 yX4_isOne, Cond.static yX4_isOne, Cond.code yX4_isOne cX4_isOne 1 (some .boolean), Cond.methodLink RX4 32 yX4_isNumber, Cond.static yX4_isNumber]
def wsX8_add_r10 : List Cond := [Cond.code yX4_isNumber cX4_isNumber 1 (some .boolean), Cond.methodLink RX4 47 yX4_keyOf, Cond.static yX4_keyOf, Cond.code yX4_keyOf cX4_keyOf 2 (some .int), Cond.methodLink RX4 54 yX4_placeFor, Cond.instanceMethod yX4_placeFor, Cond.selects RX4 yX4_placeFor yX4_placeFor, Cond.code yX4_placeFor cX4_placeFor 4 (some .int), Cond.methodLink RX8 111 yX5_shareWithAll, Cond.instanceMethod yX5_shareWithAll, Cond.selects RX5 yX5_shareWithAll yX5_shareWithAll, Cond.code yX5_shareWithAll cX5_shareWithAll 5 none, Cond.fieldLink RX5 59 "TwinFinder$Document" "shared" "[I", Cond.fieldLink RX5 63 "TwinFinder$Document" "slot" "I", Cond.methodLink RX5 32 yJx4a65c_get_915e3, Cond.instanceMethod yJx4a65c_get_915e3, Cond.selects RJx4a65c yJx4a65c_get_915e3 yJx4a65c_get_915e3, Cond.code yJx4a65c_get_915e3 cJx4a65c_get_915e3 2 (some (.object "java/lang/Object")), Cond.methodLink RJx4a65c 123 yJx4a65c_elementData_915e3, Cond.instanceMethod yJx4a65c_elementData_915e3, Cond.selects RJx4a65c yJx4a65c_elementData_915e3 yJx4a65c_elementData_915e3, Cond.code yJx4a65c_elementData_915e3 cJx4a65c_elementData_915e3 2 (some (.object "java/lang/Object")), Cond.methodLink RX5 55 yX0_countShared, Cond.instanceMethod yX0_countShared]
def wsX8_add_r11 : List Cond := [Cond.selects RX0 yX0_countShared yX0_countShared, Cond.code yX0_countShared cX0_countShared 4 (some .int), Cond.methodLink RX0 32 yJ13_bitCount_95d88, Cond.static yJ13_bitCount_95d88, Cond.initialized RJ13, Cond.code yJ13_bitCount_95d88 cJ13_bitCount_95d88 2 (some .int), Cond.constantLong RJ13 314 (6148914691236517205), Cond.constantLong RJ13 316 (3689348814741910323), Cond.constantLong RJ13 318 (1085102592571150095)]
def wsX8_add : List Cond := .code yX8_add cX8_add 5 (some .int) :: ((wsX8_add_r1 ++ (wsX8_add_r2 ++ (wsX8_add_r3 ++ (wsX8_add_r4 ++ (wsX8_add_r5 ++ (wsX8_add_r6 ++ (wsX8_add_r7 ++ (wsX8_add_r8 ++ (wsX8_add_r9 ++ (wsX8_add_r10 ++ wsX8_add_r11)))))))))) ++ wsX80 ++ wsX60 ++ wsX00 ++ wsX10 ++ wsX70 ++ wsX50 ++ wsJx4a65c0 ++ wsX40)
def wsX8_remove_r1 : List Cond := [Cond.fieldLink RX8 33 "TwinFinder" "shelf" "LTwinFinder$Shelf;", Cond.fieldLink RX8 47 "TwinFinder" "kin" "LTwinFinder$Kin;", Cond.fieldLink RX8 115 "TwinFinder$Kin" "known" "Z", Cond.methodLink RX8 122 yX5_putAway, Cond.instanceMethod yX5_putAway, Cond.selects RX5 yX5_putAway yX5_putAway, Cond.initialized RX5, Cond.code yX5_putAway cX5_putAway 3 (some .boolean), Cond.fieldLink RX5 18 "TwinFinder$Shelf" "spare" "Ljava/util/ArrayList;", Cond.fieldLink RX5 12 "TwinFinder$Shelf" "here" "Ljava/util/ArrayList;", Cond.classLink RX5 36 "TwinFinder$Document", Cond.methodLink RX5 66 yX5_placeOf, Cond.instanceMethod yX5_placeOf, Cond.selects RX5 yX5_placeOf yX5_placeOf, Cond.code yX5_placeOf cX5_placeOf 3 (some .int), Cond.fieldLink RX5 38 "TwinFinder$Document" "number" "I", Cond.methodLink RX5 24 yJx4a65c_size_8abf5, Cond.instanceMethod yJx4a65c_size_8abf5, Cond.selects RJx4a65c yJx4a65c_size_8abf5 yJx4a65c_size_8abf5, Cond.initialized RJx4a65c, Cond.code yJx4a65c_size_8abf5 cJx4a65c_size_8abf5 1 (some .int), Cond.fieldLink RJx4a65c 48 "java/util/ArrayList" "size" "I", Cond.methodLink RX5 32 yJx4a65c_get_915e3, Cond.instanceMethod yJx4a65c_get_915e3]
def wsX8_remove_r2 : List Cond := [Cond.selects RJx4a65c yJx4a65c_get_915e3 yJx4a65c_get_915e3, Cond.code yJx4a65c_get_915e3 cJx4a65c_get_915e3 2 (some (.object "java/lang/Object")), Cond.methodLink RJx4a65c 118 yJ15_checkIndex_7cf53, Cond.static yJ15_checkIndex_7cf53, Cond.initialized RJ15, Cond.code yJ15_checkIndex_7cf53 cJ15_checkIndex_7cf53 2 (some .int), Cond.methodLink RJ15 105 yJ3_checkIndex_8e157, Cond.static yJ3_checkIndex_8e157, Cond.initialized RJ3, Cond.code yJ3_checkIndex_8e157 cJ3_checkIndex_8e157 3 (some .int), Cond.methodLink RJx4a65c 123 yJx4a65c_elementData_915e3, Cond.instanceMethod yJx4a65c_elementData_915e3, Cond.selects RJx4a65c yJx4a65c_elementData_915e3 yJx4a65c_elementData_915e3, Cond.code yJx4a65c_elementData_915e3 cJx4a65c_elementData_915e3 2 (some (.object "java/lang/Object")), Cond.fieldLink RJx4a65c 9 "java/util/ArrayList" "elementData" "[Ljava/lang/Object;", Cond.methodLink RX5 48 yJx4a65c_remove_915e3, Cond.instanceMethod yJx4a65c_remove_915e3, Cond.selects RJx4a65c yJx4a65c_remove_915e3 yJx4a65c_remove_915e3, Cond.code yJx4a65c_remove_915e3 cJx4a65c_remove_915e3 4 (some (.object "java/lang/Object")), Cond.methodLink RJx4a65c 144 yJx4a65c_fastRemove_b59b0, Cond.instanceMethod yJx4a65c_fastRemove_b59b0, Cond.selects RJx4a65c yJx4a65c_fastRemove_b59b0 yJx4a65c_fastRemove_b59b0, Cond.code yJx4a65c_fastRemove_b59b0 cJx4a65c_fastRemove_b59b0 4 none, Cond.fieldLink RJx4a65c 63 "java/util/ArrayList" "modCount" "I"]
def wsX8_remove_r3 : List Cond := [Cond.sameField "java/util/ArrayList" "java/util/AbstractList" "modCount" "I", Cond.methodLink RJx4a65c 112 arraycopyName, Cond.native arraycopyName, Cond.static arraycopyName, Cond.initialized "java/lang/System", Cond.methodLink RX5 51 yJx4a65c_add_9ea2d, Cond.instanceMethod yJx4a65c_add_9ea2d, Cond.selects RJx4a65c yJx4a65c_add_9ea2d yJx4a65c_add_9ea2d, Cond.code yJx4a65c_add_9ea2d cJx4a65c_add_9ea2d 2 (some .boolean), Cond.methodLink RJx4a65c 131 yJx4a65c_add_72be8, Cond.instanceMethod yJx4a65c_add_72be8, Cond.selects RJx4a65c yJx4a65c_add_72be8 yJx4a65c_add_72be8, Cond.code yJx4a65c_add_72be8 cJx4a65c_add_72be8 4 none, Cond.methodLink RJx4a65c 129 yJx4a65c_grow_d5877, Cond.instanceMethod yJx4a65c_grow_d5877, Cond.selects RJx4a65c yJx4a65c_grow_d5877 yJx4a65c_grow_d5877, Cond.code yJx4a65c_grow_d5877 cJx4a65c_grow_d5877 1 (some (.array (.object "java/lang/Object"))), Cond.methodLink RJx4a65c 69 yJx4a65c_grow_92f84, Cond.instanceMethod yJx4a65c_grow_92f84, Cond.selects RJx4a65c yJx4a65c_grow_92f84 yJx4a65c_grow_92f84, Cond.code yJx4a65c_grow_92f84 cJx4a65c_grow_92f84 4 (some (.array (.object "java/lang/Object"))), Cond.fieldLink RJx4a65c 39 "java/util/ArrayList" "DEFAULTCAPACITY_EMPTY_ELEMENTDATA" "[Ljava/lang/Object;", Cond.methodLink RJx4a65c 79 Lib.Math.max.name, Cond.static Lib.Math.max.name]
def wsX8_remove_r4 : List Cond := [Cond.initialized "java/lang/Math", Cond.code Lib.Math.max.name Lib.Math.max.code 2 (some .int), Cond.classLink RJx4a65c 7 "java/lang/Object", Cond.methodLink RJx4a65c 73 yJ8_newLength_cabcc, Cond.static yJ8_newLength_cabcc, Cond.initialized RJ8, Cond.code yJ8_newLength_cabcc cJ8_newLength_cabcc 4 (some .int), Cond.methodLink RJ8 194 Lib.Math.max.name, Cond.constant RJ8 200 (2147483639), Cond.methodLink RJ8 201 yJ8_hugeLength_7cf53, Cond.static yJ8_hugeLength_7cf53, Cond.code yJ8_hugeLength_7cf53 cJ8_hugeLength_7cf53 3 (some .int), Cond.methodLink RJx4a65c 66 yJ7_copyOf_1904c, Cond.static yJ7_copyOf_1904c, Cond.initialized RJ7, Cond.code yJ7_copyOf_1904c cJ7_copyOf_1904c 2 (some (.array (.object "java/lang/Object"))), Cond.methodLink RJ7 86 ⟨"java/lang/Object", "getClass", "()Ljava/lang/Class;"⟩, Cond.selects "[Ljava/lang/Object;" ⟨"java/lang/Object", "getClass", "()Ljava/lang/Class;"⟩ ⟨"java/lang/Object", "getClass", "()Ljava/lang/Class;"⟩, Cond.instanceMethod ⟨"java/lang/Object", "getClass", "()Ljava/lang/Class;"⟩, Cond.native ⟨"java/lang/Object", "getClass", "()Ljava/lang/Class;"⟩, Cond.methodLink RJ7 300 yJ7_copyOf_6403c, Cond.static yJ7_copyOf_6403c, Cond.code yJ7_copyOf_6403c cJ7_copyOf_6403c 4 (some (.array (.object "java/lang/Object"))), Cond.classLink RJ7 110 "[Ljava/lang/Object;"]
def wsX8_remove_r5 : List Cond := [Cond.classLink RJ7 2 "java/lang/Object", Cond.methodLink RJ7 304 Lib.Math.min.name, Cond.static Lib.Math.min.name, Cond.code Lib.Math.min.name Lib.Math.min.code 2 (some .int), Cond.methodLink RJ7 150 arraycopyName]
def wsX8_remove : List Cond := .code yX8_remove cX8_remove 3 (some .boolean) :: ((wsX8_remove_r1 ++ (wsX8_remove_r2 ++ (wsX8_remove_r3 ++ (wsX8_remove_r4 ++ wsX8_remove_r5)))) ++ wsX80 ++ wsX10 ++ wsX50 ++ wsX00 ++ wsJx4a65c0)
def wsX8_mode_r1 : List Cond := [Cond.classLink RX8 125 "java/lang/IllegalArgumentException", Cond.initialized "java/lang/IllegalArgumentException", Cond.fieldLink RX8 55 "TwinFinder" "sortAtHand" "I", Cond.fieldLink RX8 59 "TwinFinder" "rowAtHand" "I", Cond.fieldLink RX8 19 "TwinFinder" "store" "LTwinFinder$Store;", Cond.fieldLink RX8 47 "TwinFinder" "kin" "LTwinFinder$Kin;", Cond.fieldLink RX8 115 "TwinFinder$Kin" "known" "Z", Cond.fieldLink RX8 33 "TwinFinder" "shelf" "LTwinFinder$Shelf;", Cond.methodLink RX8 91 yX6_forgetFrom, Cond.instanceMethod yX6_forgetFrom, Cond.selects RX6 yX6_forgetFrom yX6_forgetFrom, Cond.initialized RX6, Cond.code yX6_forgetFrom cX6_forgetFrom 3 none, Cond.fieldLink RX6 26 "TwinFinder$Store" "given" "I", Cond.fieldLink RX6 23 "TwinFinder$Store" "seats" "[I", Cond.fieldLink RX6 20 "TwinFinder$Store" "seatOf" "[I", Cond.methodLink RX8 132 yX5_putAllAway, Cond.instanceMethod yX5_putAllAway, Cond.selects RX5 yX5_putAllAway yX5_putAllAway, Cond.initialized RX5, Cond.code yX5_putAllAway cX5_putAllAway 3 (some .int), Cond.fieldLink RX5 12 "TwinFinder$Shelf" "here" "Ljava/util/ArrayList;", Cond.fieldLink RX5 18 "TwinFinder$Shelf" "spare" "Ljava/util/ArrayList;", Cond.classLink RX5 36 "TwinFinder$Document"]
def wsX8_mode_r2 : List Cond := [Cond.fieldLink RX5 28 "TwinFinder$Shelf" "came" "I", Cond.methodLink RX5 24 yJx4a65c_size_8abf5, Cond.instanceMethod yJx4a65c_size_8abf5, Cond.selects RJx4a65c yJx4a65c_size_8abf5 yJx4a65c_size_8abf5, Cond.initialized RJx4a65c, Cond.code yJx4a65c_size_8abf5 cJx4a65c_size_8abf5 1 (some .int), Cond.fieldLink RJx4a65c 48 "java/util/ArrayList" "size" "I", Cond.methodLink RX5 32 yJx4a65c_get_915e3, Cond.instanceMethod yJx4a65c_get_915e3, Cond.selects RJx4a65c yJx4a65c_get_915e3 yJx4a65c_get_915e3, Cond.code yJx4a65c_get_915e3 cJx4a65c_get_915e3 2 (some (.object "java/lang/Object")), Cond.methodLink RJx4a65c 118 yJ15_checkIndex_7cf53, Cond.static yJ15_checkIndex_7cf53, Cond.initialized RJ15, Cond.code yJ15_checkIndex_7cf53 cJ15_checkIndex_7cf53 2 (some .int), Cond.methodLink RJ15 105 yJ3_checkIndex_8e157, Cond.static yJ3_checkIndex_8e157, Cond.initialized RJ3, Cond.code yJ3_checkIndex_8e157 cJ3_checkIndex_8e157 3 (some .int), Cond.methodLink RJx4a65c 123 yJx4a65c_elementData_915e3, Cond.instanceMethod yJx4a65c_elementData_915e3, Cond.selects RJx4a65c yJx4a65c_elementData_915e3 yJx4a65c_elementData_915e3, Cond.code yJx4a65c_elementData_915e3 cJx4a65c_elementData_915e3 2 (some (.object "java/lang/Object")), Cond.fieldLink RJx4a65c 9 "java/util/ArrayList" "elementData" "[Ljava/lang/Object;"]
def wsX8_mode_r3 : List Cond := [Cond.methodLink RX5 51 yJx4a65c_add_9ea2d, Cond.instanceMethod yJx4a65c_add_9ea2d, Cond.selects RJx4a65c yJx4a65c_add_9ea2d yJx4a65c_add_9ea2d, Cond.code yJx4a65c_add_9ea2d cJx4a65c_add_9ea2d 2 (some .boolean), Cond.fieldLink RJx4a65c 63 "java/util/ArrayList" "modCount" "I", Cond.sameField "java/util/ArrayList" "java/util/AbstractList" "modCount" "I", Cond.methodLink RJx4a65c 131 yJx4a65c_add_72be8, Cond.instanceMethod yJx4a65c_add_72be8, Cond.selects RJx4a65c yJx4a65c_add_72be8 yJx4a65c_add_72be8, Cond.code yJx4a65c_add_72be8 cJx4a65c_add_72be8 4 none, Cond.methodLink RJx4a65c 129 yJx4a65c_grow_d5877, Cond.instanceMethod yJx4a65c_grow_d5877, Cond.selects RJx4a65c yJx4a65c_grow_d5877 yJx4a65c_grow_d5877, Cond.code yJx4a65c_grow_d5877 cJx4a65c_grow_d5877 1 (some (.array (.object "java/lang/Object"))), Cond.methodLink RJx4a65c 69 yJx4a65c_grow_92f84, Cond.instanceMethod yJx4a65c_grow_92f84, Cond.selects RJx4a65c yJx4a65c_grow_92f84 yJx4a65c_grow_92f84, Cond.code yJx4a65c_grow_92f84 cJx4a65c_grow_92f84 4 (some (.array (.object "java/lang/Object"))), Cond.fieldLink RJx4a65c 39 "java/util/ArrayList" "DEFAULTCAPACITY_EMPTY_ELEMENTDATA" "[Ljava/lang/Object;", Cond.methodLink RJx4a65c 79 Lib.Math.max.name, Cond.static Lib.Math.max.name, Cond.initialized "java/lang/Math", Cond.code Lib.Math.max.name Lib.Math.max.code 2 (some .int), Cond.classLink RJx4a65c 7 "java/lang/Object"]
def wsX8_mode_r4 : List Cond := [Cond.methodLink RJx4a65c 73 yJ8_newLength_cabcc, Cond.static yJ8_newLength_cabcc, Cond.initialized RJ8, Cond.code yJ8_newLength_cabcc cJ8_newLength_cabcc 4 (some .int), Cond.methodLink RJ8 194 Lib.Math.max.name, Cond.constant RJ8 200 (2147483639), Cond.methodLink RJ8 201 yJ8_hugeLength_7cf53, Cond.static yJ8_hugeLength_7cf53, Cond.code yJ8_hugeLength_7cf53 cJ8_hugeLength_7cf53 3 (some .int), Cond.methodLink RJx4a65c 66 yJ7_copyOf_1904c, Cond.static yJ7_copyOf_1904c, Cond.initialized RJ7, Cond.code yJ7_copyOf_1904c cJ7_copyOf_1904c 2 (some (.array (.object "java/lang/Object"))), Cond.methodLink RJ7 86 ⟨"java/lang/Object", "getClass", "()Ljava/lang/Class;"⟩, Cond.selects "[Ljava/lang/Object;" ⟨"java/lang/Object", "getClass", "()Ljava/lang/Class;"⟩ ⟨"java/lang/Object", "getClass", "()Ljava/lang/Class;"⟩, Cond.instanceMethod ⟨"java/lang/Object", "getClass", "()Ljava/lang/Class;"⟩, Cond.native ⟨"java/lang/Object", "getClass", "()Ljava/lang/Class;"⟩, Cond.methodLink RJ7 300 yJ7_copyOf_6403c, Cond.static yJ7_copyOf_6403c, Cond.code yJ7_copyOf_6403c cJ7_copyOf_6403c 4 (some (.array (.object "java/lang/Object"))), Cond.classLink RJ7 110 "[Ljava/lang/Object;", Cond.classLink RJ7 2 "java/lang/Object", Cond.methodLink RJ7 304 Lib.Math.min.name, Cond.static Lib.Math.min.name]
def wsX8_mode_r5 : List Cond := [Cond.code Lib.Math.min.name Lib.Math.min.code 2 (some .int), Cond.methodLink RJ7 150 arraycopyName, Cond.native arraycopyName, Cond.static arraycopyName, Cond.initialized "java/lang/System", Cond.methodLink RX5 70 yJx4a65c_clear_da8c8, Cond.instanceMethod yJx4a65c_clear_da8c8, Cond.selects RJx4a65c yJx4a65c_clear_da8c8 yJx4a65c_clear_da8c8, Cond.code yJx4a65c_clear_da8c8 cJx4a65c_clear_da8c8 4 none]
def wsX8_mode : List Cond := .code yX8_mode cX8_mode 3 (some .int) :: ((wsX8_mode_r1 ++ (wsX8_mode_r2 ++ (wsX8_mode_r3 ++ (wsX8_mode_r4 ++ wsX8_mode_r5)))) ++ wsX80 ++ wsX10 ++ wsX60 ++ wsX50 ++ wsJx4a65c0 ++ (vx_atS RX8 129 "java/lang/IllegalArgumentException" ["java/lang/RuntimeException", "java/lang/Exception"]).filter goodWord)
def wsX8_renewImages_r1 : List Cond := [Cond.fieldLink RX8 33 "TwinFinder" "shelf" "LTwinFinder$Shelf;", Cond.fieldLink RX8 168 "TwinFinder$Shelf" "here" "Ljava/util/ArrayList;", Cond.classLink RX8 99 "TwinFinder$Document", Cond.fieldLink RX8 104 "TwinFinder$Document" "least" "[I", Cond.fieldLink RX8 26 "TwinFinder" "permutations" "LTwinFinder$Permutations;", Cond.fieldLink RX8 47 "TwinFinder" "kin" "LTwinFinder$Kin;", Cond.fieldLink RX8 115 "TwinFinder$Kin" "known" "Z", Cond.methodLink RX8 248 yJx4a65c_size_8abf5, Cond.instanceMethod yJx4a65c_size_8abf5, Cond.selects RJx4a65c yJx4a65c_size_8abf5 yJx4a65c_size_8abf5, Cond.initialized RJx4a65c, Cond.code yJx4a65c_size_8abf5 cJx4a65c_size_8abf5 1 (some .int), Cond.fieldLink RJx4a65c 48 "java/util/ArrayList" "size" "I", Cond.methodLink RX8 172 yJx4a65c_get_915e3, Cond.instanceMethod yJx4a65c_get_915e3, Cond.selects RJx4a65c yJx4a65c_get_915e3 yJx4a65c_get_915e3, Cond.code yJx4a65c_get_915e3 cJx4a65c_get_915e3 2 (some (.object "java/lang/Object")), Cond.methodLink RJx4a65c 118 yJ15_checkIndex_7cf53, Cond.static yJ15_checkIndex_7cf53, Cond.initialized RJ15, Cond.code yJ15_checkIndex_7cf53 cJ15_checkIndex_7cf53 2 (some .int), Cond.methodLink RJ15 105 yJ3_checkIndex_8e157, Cond.static yJ3_checkIndex_8e157, Cond.initialized RJ3]
def wsX8_renewImages_r2 : List Cond := [Cond.code yJ3_checkIndex_8e157 cJ3_checkIndex_8e157 3 (some .int), Cond.methodLink RJx4a65c 123 yJx4a65c_elementData_915e3, Cond.instanceMethod yJx4a65c_elementData_915e3, Cond.selects RJx4a65c yJx4a65c_elementData_915e3 yJx4a65c_elementData_915e3, Cond.code yJx4a65c_elementData_915e3 cJx4a65c_elementData_915e3 2 (some (.object "java/lang/Object")), Cond.fieldLink RJx4a65c 9 "java/util/ArrayList" "elementData" "[Ljava/lang/Object;", Cond.methodLink RX8 107 yX4_leastOf, Cond.instanceMethod yX4_leastOf, Cond.selects RX4 yX4_leastOf yX4_leastOf, Cond.initialized RX4, Cond.code yX4_leastOf cX4_leastOf 5 (some .int), Cond.constant RX4 27 (65521), Cond.fieldLink RX4 63 "TwinFinder$Document" "size" "I", Cond.fieldLink RX4 68 "TwinFinder$Document" "numbers" "[I", Cond.methodLink RX4 71 Lib.Math.min.name, Cond.static Lib.Math.min.name, Cond.initialized "java/lang/Math", Cond.code Lib.Math.min.name Lib.Math.min.code 2 (some .int), Cond.methodLink RX4 43 yX4_imageOf, Cond.instanceMethod yX4_imageOf, Cond.selects RX4 yX4_imageOf yX4_imageOf, Cond.code yX4_imageOf cX4_imageOf 5 (some .int), Cond.fieldLink RX4 18 "TwinFinder$Permutations" "exchanges" "[I", Cond.fieldLink RX4 58 "TwinFinder$Permutations" "moved" "I"]
def wsX8_renewImages_r3 : List Cond := [Cond.fieldLink RX4 21 "TwinFinder$Permutations" "movedKey" "[I", Cond.fieldLink RX4 24 "TwinFinder$Permutations" "movedImage" "[I", Cond.fieldLink RX4 9 "TwinFinder$Permutations" "factor" "[I", Cond.fieldLink RX4 15 "TwinFinder$Permutations" "summand" "[I", Cond.constantLong RX4 61 (65521), Cond.methodLink RX4 28 yX4_isOne, Cond.static yX4_isOne, Cond.code yX4_isOne cX4_isOne 1 (some .boolean), Cond.methodLink RX4 32 yX4_isNumber, Cond.static yX4_isNumber, Cond.code yX4_isNumber cX4_isNumber 1 (some .boolean), Cond.methodLink RX4 47 yX4_keyOf, Cond.static yX4_keyOf, Cond.code yX4_keyOf cX4_keyOf 2 (some .int), Cond.methodLink RX4 54 yX4_placeFor, Cond.instanceMethod yX4_placeFor, Cond.selects RX4 yX4_placeFor yX4_placeFor, Cond.code yX4_placeFor cX4_placeFor 4 (some .int)]
def wsX8_renewImages : List Cond := .code yX8_renewImages cX8_renewImages 4 none :: ((wsX8_renewImages_r1 ++ (wsX8_renewImages_r2 ++ wsX8_renewImages_r3)) ++ wsX80 ++ wsX50 ++ wsX00 ++ wsX10 ++ wsJx4a65c0 ++ wsX40)
def wsX8_tell_r1 : List Cond := [Cond.fieldLink RX8 26 "TwinFinder" "permutations" "LTwinFinder$Permutations;", Cond.methodLink RX8 135 yX4_become, Cond.instanceMethod yX4_become, Cond.selects RX4 yX4_become yX4_become, Cond.initialized RX4, Cond.code yX4_become cX4_become 4 (some .boolean), Cond.fieldLink RX4 9 "TwinFinder$Permutations" "factor" "[I", Cond.fieldLink RX4 15 "TwinFinder$Permutations" "summand" "[I", Cond.fieldLink RX4 35 "TwinFinder$Permutations" "kept" "I", Cond.fieldLink RX4 18 "TwinFinder$Permutations" "exchanges" "[I", Cond.methodLink RX4 28 yX4_isOne, Cond.static yX4_isOne, Cond.code yX4_isOne cX4_isOne 1 (some .boolean), Cond.methodLink RX4 32 yX4_isNumber, Cond.static yX4_isNumber, Cond.code yX4_isNumber cX4_isNumber 1 (some .boolean), Cond.constant RX4 27 (65521), Cond.methodLink RX4 39 yX4_dropMoved, Cond.instanceMethod yX4_dropMoved, Cond.selects RX4 yX4_dropMoved yX4_dropMoved, Cond.code yX4_dropMoved cX4_dropMoved 4 none, Cond.fieldLink RX4 58 "TwinFinder$Permutations" "moved" "I", Cond.fieldLink RX4 21 "TwinFinder$Permutations" "movedKey" "[I", Cond.fieldLink RX4 24 "TwinFinder$Permutations" "movedImage" "[I"]
def wsX8_tell_r2 : List Cond := [Cond.methodLink RX8 139 yX8_renewImages, Cond.instanceMethod yX8_renewImages, Cond.selects RX8 yX8_renewImages yX8_renewImages, Cond.initialized RX8, Cond.code yX8_renewImages cX8_renewImages 4 none, Cond.fieldLink RX8 33 "TwinFinder" "shelf" "LTwinFinder$Shelf;", Cond.fieldLink RX8 168 "TwinFinder$Shelf" "here" "Ljava/util/ArrayList;", Cond.classLink RX8 99 "TwinFinder$Document", Cond.fieldLink RX8 104 "TwinFinder$Document" "least" "[I", Cond.fieldLink RX8 47 "TwinFinder" "kin" "LTwinFinder$Kin;", Cond.fieldLink RX8 115 "TwinFinder$Kin" "known" "Z", Cond.methodLink RX8 248 yJx4a65c_size_8abf5, Cond.instanceMethod yJx4a65c_size_8abf5, Cond.selects RJx4a65c yJx4a65c_size_8abf5 yJx4a65c_size_8abf5, Cond.initialized RJx4a65c, Cond.code yJx4a65c_size_8abf5 cJx4a65c_size_8abf5 1 (some .int), Cond.fieldLink RJx4a65c 48 "java/util/ArrayList" "size" "I", Cond.methodLink RX8 172 yJx4a65c_get_915e3, Cond.instanceMethod yJx4a65c_get_915e3, Cond.selects RJx4a65c yJx4a65c_get_915e3 yJx4a65c_get_915e3, Cond.code yJx4a65c_get_915e3 cJx4a65c_get_915e3 2 (some (.object "java/lang/Object")), Cond.methodLink RJx4a65c 118 yJ15_checkIndex_7cf53, Cond.static yJ15_checkIndex_7cf53, Cond.initialized RJ15]
def wsX8_tell_r3 : List Cond := [Cond.code yJ15_checkIndex_7cf53 cJ15_checkIndex_7cf53 2 (some .int), Cond.methodLink RJ15 105 yJ3_checkIndex_8e157, Cond.static yJ3_checkIndex_8e157, Cond.initialized RJ3, Cond.code yJ3_checkIndex_8e157 cJ3_checkIndex_8e157 3 (some .int), Cond.methodLink RJx4a65c 123 yJx4a65c_elementData_915e3, Cond.instanceMethod yJx4a65c_elementData_915e3, Cond.selects RJx4a65c yJx4a65c_elementData_915e3 yJx4a65c_elementData_915e3, Cond.code yJx4a65c_elementData_915e3 cJx4a65c_elementData_915e3 2 (some (.object "java/lang/Object")), Cond.fieldLink RJx4a65c 9 "java/util/ArrayList" "elementData" "[Ljava/lang/Object;", Cond.methodLink RX8 107 yX4_leastOf, Cond.instanceMethod yX4_leastOf, Cond.selects RX4 yX4_leastOf yX4_leastOf, Cond.code yX4_leastOf cX4_leastOf 5 (some .int), Cond.fieldLink RX4 63 "TwinFinder$Document" "size" "I", Cond.fieldLink RX4 68 "TwinFinder$Document" "numbers" "[I", Cond.methodLink RX4 71 Lib.Math.min.name, Cond.static Lib.Math.min.name, Cond.initialized "java/lang/Math", Cond.code Lib.Math.min.name Lib.Math.min.code 2 (some .int), Cond.methodLink RX4 43 yX4_imageOf, Cond.instanceMethod yX4_imageOf, Cond.selects RX4 yX4_imageOf yX4_imageOf, Cond.code yX4_imageOf cX4_imageOf 5 (some .int)]
def wsX8_tell_r4 : List Cond := [Cond.constantLong RX4 61 (65521), Cond.methodLink RX4 47 yX4_keyOf, Cond.static yX4_keyOf, Cond.code yX4_keyOf cX4_keyOf 2 (some .int), Cond.methodLink RX4 54 yX4_placeFor, Cond.instanceMethod yX4_placeFor, Cond.selects RX4 yX4_placeFor yX4_placeFor, Cond.code yX4_placeFor cX4_placeFor 4 (some .int)]
def wsX8_tell : List Cond := .code yX8_tell cX8_tell 4 (some .boolean) :: ((wsX8_tell_r1 ++ (wsX8_tell_r2 ++ (wsX8_tell_r3 ++ wsX8_tell_r4))) ++ wsX80 ++ wsX40 ++ wsX50 ++ wsX00 ++ wsX10 ++ wsJx4a65c0)
def wsX8_exchange_r1 : List Cond := [Cond.fieldLink RX8 26 "TwinFinder" "permutations" "LTwinFinder$Permutations;", Cond.fieldLink RX8 145 "TwinFinder$Permutations" "kept" "I", Cond.methodLink RX8 142 yX4_swap, Cond.instanceMethod yX4_swap, Cond.selects RX4 yX4_swap yX4_swap, Cond.initialized RX4, Cond.code yX4_swap cX4_swap 6 (some .boolean), Cond.fieldLink RX4 35 "TwinFinder$Permutations" "kept" "I", Cond.fieldLink RX4 18 "TwinFinder$Permutations" "exchanges" "[I", Cond.methodLink RX4 28 yX4_isOne, Cond.static yX4_isOne, Cond.code yX4_isOne cX4_isOne 1 (some .boolean), Cond.methodLink RX4 32 yX4_isNumber, Cond.static yX4_isNumber, Cond.code yX4_isNumber cX4_isNumber 1 (some .boolean), Cond.constant RX4 27 (65521), Cond.methodLink RX4 43 yX4_imageOf, Cond.instanceMethod yX4_imageOf, Cond.selects RX4 yX4_imageOf yX4_imageOf, Cond.code yX4_imageOf cX4_imageOf 5 (some .int), Cond.fieldLink RX4 58 "TwinFinder$Permutations" "moved" "I", Cond.fieldLink RX4 21 "TwinFinder$Permutations" "movedKey" "[I", Cond.fieldLink RX4 24 "TwinFinder$Permutations" "movedImage" "[I", Cond.fieldLink RX4 9 "TwinFinder$Permutations" "factor" "[I"]
def wsX8_exchange_r2 : List Cond := [Cond.fieldLink RX4 15 "TwinFinder$Permutations" "summand" "[I", Cond.constantLong RX4 61 (65521), Cond.methodLink RX4 47 yX4_keyOf, Cond.static yX4_keyOf, Cond.code yX4_keyOf cX4_keyOf 2 (some .int), Cond.methodLink RX4 54 yX4_placeFor, Cond.instanceMethod yX4_placeFor, Cond.selects RX4 yX4_placeFor yX4_placeFor, Cond.code yX4_placeFor cX4_placeFor 4 (some .int), Cond.methodLink RX4 50 yX4_move, Cond.instanceMethod yX4_move, Cond.selects RX4 yX4_move yX4_move, Cond.code yX4_move cX4_move 5 none, Cond.methodLink RX8 139 yX8_renewImages, Cond.instanceMethod yX8_renewImages, Cond.selects RX8 yX8_renewImages yX8_renewImages, Cond.initialized RX8, Cond.code yX8_renewImages cX8_renewImages 4 none, Cond.fieldLink RX8 33 "TwinFinder" "shelf" "LTwinFinder$Shelf;", Cond.fieldLink RX8 168 "TwinFinder$Shelf" "here" "Ljava/util/ArrayList;", Cond.classLink RX8 99 "TwinFinder$Document", Cond.fieldLink RX8 104 "TwinFinder$Document" "least" "[I", Cond.fieldLink RX8 47 "TwinFinder" "kin" "LTwinFinder$Kin;", Cond.fieldLink RX8 115 "TwinFinder$Kin" "known" "Z"]
def wsX8_exchange_r3 : List Cond := [Cond.methodLink RX8 248 yJx4a65c_size_8abf5, Cond.instanceMethod yJx4a65c_size_8abf5, Cond.selects RJx4a65c yJx4a65c_size_8abf5 yJx4a65c_size_8abf5, Cond.initialized RJx4a65c, Cond.code yJx4a65c_size_8abf5 cJx4a65c_size_8abf5 1 (some .int), Cond.fieldLink RJx4a65c 48 "java/util/ArrayList" "size" "I", Cond.methodLink RX8 172 yJx4a65c_get_915e3, Cond.instanceMethod yJx4a65c_get_915e3, Cond.selects RJx4a65c yJx4a65c_get_915e3 yJx4a65c_get_915e3, Cond.code yJx4a65c_get_915e3 cJx4a65c_get_915e3 2 (some (.object "java/lang/Object")), Cond.methodLink RJx4a65c 118 yJ15_checkIndex_7cf53, Cond.static yJ15_checkIndex_7cf53, Cond.initialized RJ15, Cond.code yJ15_checkIndex_7cf53 cJ15_checkIndex_7cf53 2 (some .int), Cond.methodLink RJ15 105 yJ3_checkIndex_8e157, Cond.static yJ3_checkIndex_8e157, Cond.initialized RJ3, Cond.code yJ3_checkIndex_8e157 cJ3_checkIndex_8e157 3 (some .int), Cond.methodLink RJx4a65c 123 yJx4a65c_elementData_915e3, Cond.instanceMethod yJx4a65c_elementData_915e3, Cond.selects RJx4a65c yJx4a65c_elementData_915e3 yJx4a65c_elementData_915e3, Cond.code yJx4a65c_elementData_915e3 cJx4a65c_elementData_915e3 2 (some (.object "java/lang/Object")), Cond.fieldLink RJx4a65c 9 "java/util/ArrayList" "elementData" "[Ljava/lang/Object;", Cond.methodLink RX8 107 yX4_leastOf]
def wsX8_exchange_r4 : List Cond := [Cond.instanceMethod yX4_leastOf, Cond.selects RX4 yX4_leastOf yX4_leastOf, Cond.code yX4_leastOf cX4_leastOf 5 (some .int), Cond.fieldLink RX4 63 "TwinFinder$Document" "size" "I", Cond.fieldLink RX4 68 "TwinFinder$Document" "numbers" "[I", Cond.methodLink RX4 71 Lib.Math.min.name, Cond.static Lib.Math.min.name, Cond.initialized "java/lang/Math", Cond.code Lib.Math.min.name Lib.Math.min.code 2 (some .int)]
def wsX8_exchange : List Cond := .code yX8_exchange cX8_exchange 4 (some .int) :: ((wsX8_exchange_r1 ++ (wsX8_exchange_r2 ++ (wsX8_exchange_r3 ++ wsX8_exchange_r4))) ++ wsX80 ++ wsX40 ++ wsX50 ++ wsX00 ++ wsX10 ++ wsJx4a65c0)
def wsX8_image_r1 : List Cond := [Cond.fieldLink RX8 26 "TwinFinder" "permutations" "LTwinFinder$Permutations;", Cond.methodLink RX8 148 yX4_imageOf, Cond.instanceMethod yX4_imageOf, Cond.selects RX4 yX4_imageOf yX4_imageOf, Cond.initialized RX4, Cond.code yX4_imageOf cX4_imageOf 5 (some .int), Cond.fieldLink RX4 18 "TwinFinder$Permutations" "exchanges" "[I", Cond.fieldLink RX4 58 "TwinFinder$Permutations" "moved" "I", Cond.fieldLink RX4 21 "TwinFinder$Permutations" "movedKey" "[I", Cond.fieldLink RX4 24 "TwinFinder$Permutations" "movedImage" "[I", Cond.fieldLink RX4 9 "TwinFinder$Permutations" "factor" "[I", Cond.fieldLink RX4 15 "TwinFinder$Permutations" "summand" "[I", Cond.constantLong RX4 61 (65521), Cond.methodLink RX4 28 yX4_isOne, Cond.static yX4_isOne, Cond.code yX4_isOne cX4_isOne 1 (some .boolean), Cond.methodLink RX4 32 yX4_isNumber, Cond.static yX4_isNumber, Cond.code yX4_isNumber cX4_isNumber 1 (some .boolean), Cond.constant RX4 27 (65521), Cond.methodLink RX4 47 yX4_keyOf, Cond.static yX4_keyOf, Cond.code yX4_keyOf cX4_keyOf 2 (some .int), Cond.methodLink RX4 54 yX4_placeFor]
def wsX8_image_r2 : List Cond := [Cond.instanceMethod yX4_placeFor, Cond.selects RX4 yX4_placeFor yX4_placeFor, Cond.code yX4_placeFor cX4_placeFor 4 (some .int)]
def wsX8_image : List Cond := .code yX8_image cX8_image 3 (some .int) :: ((wsX8_image_r1 ++ wsX8_image_r2) ++ wsX80 ++ wsX40)
def wsX8_bands : List Cond := .code yX8_bands cX8_bands 4 (some .boolean) :: ([.fieldLink RX8 40 "TwinFinder" "measure" "LTwinFinder$Measure;", .fieldLink RX8 47 "TwinFinder" "kin" "LTwinFinder$Kin;", .fieldLink RX8 115 "TwinFinder$Kin" "known" "Z", .methodLink RX8 152 yX2_takeBands, .instanceMethod yX2_takeBands, .selects RX2 yX2_takeBands yX2_takeBands, .initialized RX2, .code yX2_takeBands cX2_takeBands 3 (some .boolean), .fieldLink RX2 9 "TwinFinder$Measure" "bandCount" "I", .fieldLink RX2 15 "TwinFinder$Measure" "rowCount" "I"] ++ wsX80 ++ wsX10 ++ wsX20)
def wsX8_threshold : List Cond := .code yX8_threshold cX8_threshold 4 (some .boolean) :: ([.fieldLink RX8 40 "TwinFinder" "measure" "LTwinFinder$Measure;", .fieldLink RX8 47 "TwinFinder" "kin" "LTwinFinder$Kin;", .fieldLink RX8 115 "TwinFinder$Kin" "known" "Z", .methodLink RX8 156 yX2_takeThreshold, .instanceMethod yX2_takeThreshold, .selects RX2 yX2_takeThreshold yX2_takeThreshold, .initialized RX2, .code yX2_takeThreshold cX2_takeThreshold 3 (some .boolean), .fieldLink RX2 18 "TwinFinder$Measure" "p" "I", .fieldLink RX2 21 "TwinFinder$Measure" "q" "I"] ++ wsX80 ++ wsX10 ++ wsX20)
def wsX8_document_r1 : List Cond := [Cond.classLink RX8 163 "java/util/NoSuchElementException", Cond.initialized "java/util/NoSuchElementException", Cond.fieldLink RX8 33 "TwinFinder" "shelf" "LTwinFinder$Shelf;", Cond.fieldLink RX8 168 "TwinFinder$Shelf" "here" "Ljava/util/ArrayList;", Cond.classLink RX8 99 "TwinFinder$Document", Cond.fieldLink RX8 178 "TwinFinder$Document" "size" "I", Cond.fieldLink RX8 47 "TwinFinder" "kin" "LTwinFinder$Kin;", Cond.fieldLink RX8 40 "TwinFinder" "measure" "LTwinFinder$Measure;", Cond.methodLink RX8 159 yX5_placeOf, Cond.instanceMethod yX5_placeOf, Cond.selects RX5 yX5_placeOf yX5_placeOf, Cond.initialized RX5, Cond.code yX5_placeOf cX5_placeOf 3 (some .int), Cond.fieldLink RX5 12 "TwinFinder$Shelf" "here" "Ljava/util/ArrayList;", Cond.classLink RX5 36 "TwinFinder$Document", Cond.fieldLink RX5 38 "TwinFinder$Document" "number" "I", Cond.methodLink RX5 24 yJx4a65c_size_8abf5, Cond.instanceMethod yJx4a65c_size_8abf5, Cond.selects RJx4a65c yJx4a65c_size_8abf5 yJx4a65c_size_8abf5, Cond.initialized RJx4a65c, Cond.code yJx4a65c_size_8abf5 cJx4a65c_size_8abf5 1 (some .int), Cond.fieldLink RJx4a65c 48 "java/util/ArrayList" "size" "I", Cond.methodLink RX5 32 yJx4a65c_get_915e3, Cond.instanceMethod yJx4a65c_get_915e3]
def wsX8_document_r2 : List Cond := [Cond.selects RJx4a65c yJx4a65c_get_915e3 yJx4a65c_get_915e3, Cond.code yJx4a65c_get_915e3 cJx4a65c_get_915e3 2 (some (.object "java/lang/Object")), Cond.methodLink RJx4a65c 118 yJ15_checkIndex_7cf53, Cond.static yJ15_checkIndex_7cf53, Cond.initialized RJ15, Cond.code yJ15_checkIndex_7cf53 cJ15_checkIndex_7cf53 2 (some .int), Cond.methodLink RJ15 105 yJ3_checkIndex_8e157, Cond.static yJ3_checkIndex_8e157, Cond.initialized RJ3, Cond.code yJ3_checkIndex_8e157 cJ3_checkIndex_8e157 3 (some .int), Cond.methodLink RJx4a65c 123 yJx4a65c_elementData_915e3, Cond.instanceMethod yJx4a65c_elementData_915e3, Cond.selects RJx4a65c yJx4a65c_elementData_915e3 yJx4a65c_elementData_915e3, Cond.code yJx4a65c_elementData_915e3 cJx4a65c_elementData_915e3 2 (some (.object "java/lang/Object")), Cond.fieldLink RJx4a65c 9 "java/util/ArrayList" "elementData" "[Ljava/lang/Object;", Cond.methodLink RX8 172 yJx4a65c_get_915e3, Cond.methodLink RX8 181 yX1_learn, Cond.instanceMethod yX1_learn, Cond.selects RX1 yX1_learn yX1_learn, Cond.initialized RX1, Cond.code yX1_learn cX1_learn 5 none, Cond.fieldLink RX1 34 "TwinFinder$Kin" "known" "Z", Cond.fieldLink RX1 42 "TwinFinder$Kin" "places" "I", Cond.classLink RX1 52 "TwinFinder$Document"]
def wsX8_document_r3 : List Cond := [Cond.fieldLink RX1 31 "TwinFinder$Kin" "members" "[I", Cond.fieldLink RX1 28 "TwinFinder$Kin" "leader" "[I", Cond.methodLink RX1 38 yX1_begin, Cond.instanceMethod yX1_begin, Cond.selects RX1 yX1_begin yX1_begin, Cond.code yX1_begin cX1_begin 3 none, Cond.methodLink RX1 62 Lib.Math.min.name, Cond.static Lib.Math.min.name, Cond.initialized "java/lang/Math", Cond.code Lib.Math.min.name Lib.Math.min.code 2 (some .int), Cond.fieldLink RX1 12 "TwinFinder$Kin" "candidates" "LTwinFinder$PairRow;", Cond.fieldLink RX1 68 "TwinFinder$PairRow" "size" "I", Cond.fieldLink RX1 18 "TwinFinder$Kin" "twins" "LTwinFinder$PairRow;", Cond.fieldLink RX1 21 "TwinFinder$Kin" "number" "[I", Cond.fieldLink RX1 70 "TwinFinder$Document" "number" "I", Cond.fieldLink RX1 25 "TwinFinder$Kin" "twinCount" "[I", Cond.methodLink RX1 58 yJx4a65c_size_8abf5, Cond.methodLink RX1 46 yJx4a65c_get_915e3, Cond.methodLink RX1 54 yX1_compare, Cond.instanceMethod yX1_compare, Cond.selects RX1 yX1_compare yX1_compare, Cond.code yX1_compare cX1_compare 6 none, Cond.methodLink RX1 72 yX2_firstBand, Cond.instanceMethod yX2_firstBand]
def wsX8_document_r4 : List Cond := [Cond.selects RX2 yX2_firstBand yX2_firstBand, Cond.initialized RX2, Cond.code yX2_firstBand cX2_firstBand 4 (some .int), Cond.fieldLink RX2 33 "TwinFinder$Document" "size" "I", Cond.fieldLink RX2 9 "TwinFinder$Measure" "bandCount" "I", Cond.fieldLink RX2 15 "TwinFinder$Measure" "rowCount" "I", Cond.methodLink RX2 43 yX2_agree, Cond.instanceMethod yX2_agree, Cond.selects RX2 yX2_agree yX2_agree, Cond.code yX2_agree cX2_agree 5 (some .boolean), Cond.fieldLink RX2 40 "TwinFinder$Document" "least" "[I", Cond.methodLink RX1 78 yX3_put, Cond.instanceMethod yX3_put, Cond.selects RX3 yX3_put yX3_put, Cond.initialized RX3, Cond.code yX3_put cX3_put 3 none, Cond.fieldLink RX3 18 "TwinFinder$PairRow" "size" "I", Cond.fieldLink RX3 9 "TwinFinder$PairRow" "first" "[I", Cond.fieldLink RX3 15 "TwinFinder$PairRow" "second" "[I", Cond.methodLink RX1 82 yX2_areNear, Cond.instanceMethod yX2_areNear, Cond.selects RX2 yX2_areNear yX2_areNear, Cond.code yX2_areNear cX2_areNear 3 (some .boolean), Cond.fieldLink RX2 21 "TwinFinder$Measure" "q" "I"]
def wsX8_document_r5 : List Cond := [Cond.fieldLink RX2 18 "TwinFinder$Measure" "p" "I", Cond.methodLink RX2 36 yX2_common, Cond.instanceMethod yX2_common, Cond.selects RX2 yX2_common yX2_common, Cond.code yX2_common cX2_common 3 (some .int), Cond.fieldLink RX2 24 "TwinFinder$Document" "shared" "[I", Cond.fieldLink RX2 30 "TwinFinder$Document" "slot" "I", Cond.methodLink RX2 54 yX2_all, Cond.instanceMethod yX2_all, Cond.selects RX2 yX2_all yX2_all, Cond.code yX2_all cX2_all 3 (some .int), Cond.methodLink RX1 86 yX1_join, Cond.instanceMethod yX1_join, Cond.selects RX1 yX1_join yX1_join, Cond.code yX1_join cX1_join 6 none, Cond.methodLink RX1 89 Lib.Math.max.name, Cond.static Lib.Math.max.name, Cond.code Lib.Math.max.name Lib.Math.max.code 2 (some .int), Cond.methodLink RX8 185 yX1_familyOf, Cond.instanceMethod yX1_familyOf, Cond.selects RX1 yX1_familyOf yX1_familyOf, Cond.code yX1_familyOf cX1_familyOf 2 (some .int), Cond.methodLink RX8 188 yX1_membersWith, Cond.instanceMethod yX1_membersWith]
def wsX8_document_r6 : List Cond := [Cond.selects RX1 yX1_membersWith yX1_membersWith, Cond.code yX1_membersWith cX1_membersWith 2 (some .int), Cond.methodLink RX8 191 yX1_twinsOf, Cond.instanceMethod yX1_twinsOf, Cond.selects RX1 yX1_twinsOf yX1_twinsOf, Cond.code yX1_twinsOf cX1_twinsOf 2 (some .int)]
def wsX8_document : List Cond := .code yX8_document cX8_document 4 (some .int) :: ((wsX8_document_r1 ++ (wsX8_document_r2 ++ (wsX8_document_r3 ++ (wsX8_document_r4 ++ (wsX8_document_r5 ++ wsX8_document_r6))))) ++ wsX80 ++ wsX50 ++ wsX00 ++ wsJx4a65c0 ++ wsX10 ++ wsX30 ++ wsX20 ++ (vx_atS RX8 167 "java/util/NoSuchElementException" ["java/lang/RuntimeException", "java/lang/Exception"]).filter goodWord)
def wsX8_documentThere_r1 : List Cond := [Cond.classLink RX8 163 "java/util/NoSuchElementException", Cond.initialized "java/util/NoSuchElementException", Cond.fieldLink RX8 33 "TwinFinder" "shelf" "LTwinFinder$Shelf;", Cond.fieldLink RX8 168 "TwinFinder$Shelf" "here" "Ljava/util/ArrayList;", Cond.classLink RX8 99 "TwinFinder$Document", Cond.methodLink RX8 159 yX5_placeOf, Cond.instanceMethod yX5_placeOf, Cond.selects RX5 yX5_placeOf yX5_placeOf, Cond.initialized RX5, Cond.code yX5_placeOf cX5_placeOf 3 (some .int), Cond.fieldLink RX5 12 "TwinFinder$Shelf" "here" "Ljava/util/ArrayList;", Cond.classLink RX5 36 "TwinFinder$Document", Cond.fieldLink RX5 38 "TwinFinder$Document" "number" "I", Cond.methodLink RX5 24 yJx4a65c_size_8abf5, Cond.instanceMethod yJx4a65c_size_8abf5, Cond.selects RJx4a65c yJx4a65c_size_8abf5 yJx4a65c_size_8abf5, Cond.initialized RJx4a65c, Cond.code yJx4a65c_size_8abf5 cJx4a65c_size_8abf5 1 (some .int), Cond.fieldLink RJx4a65c 48 "java/util/ArrayList" "size" "I", Cond.methodLink RX5 32 yJx4a65c_get_915e3, Cond.instanceMethod yJx4a65c_get_915e3, Cond.selects RJx4a65c yJx4a65c_get_915e3 yJx4a65c_get_915e3, Cond.code yJx4a65c_get_915e3 cJx4a65c_get_915e3 2 (some (.object "java/lang/Object")), Cond.methodLink RJx4a65c 118 yJ15_checkIndex_7cf53]
def wsX8_documentThere_r2 : List Cond := [Cond.static yJ15_checkIndex_7cf53, Cond.initialized RJ15, Cond.code yJ15_checkIndex_7cf53 cJ15_checkIndex_7cf53 2 (some .int), Cond.methodLink RJ15 105 yJ3_checkIndex_8e157, Cond.static yJ3_checkIndex_8e157, Cond.initialized RJ3, Cond.code yJ3_checkIndex_8e157 cJ3_checkIndex_8e157 3 (some .int), Cond.methodLink RJx4a65c 123 yJx4a65c_elementData_915e3, Cond.instanceMethod yJx4a65c_elementData_915e3, Cond.selects RJx4a65c yJx4a65c_elementData_915e3 yJx4a65c_elementData_915e3, Cond.code yJx4a65c_elementData_915e3 cJx4a65c_elementData_915e3 2 (some (.object "java/lang/Object")), Cond.fieldLink RJx4a65c 9 "java/util/ArrayList" "elementData" "[Ljava/lang/Object;", Cond.methodLink RX8 172 yJx4a65c_get_915e3]
def wsX8_documentThere : List Cond := .code yX8_documentThere cX8_documentThere 3 (some (.object "TwinFinder$Document")) :: ((wsX8_documentThere_r1 ++ wsX8_documentThere_r2) ++ wsX80 ++ wsX50 ++ wsX00 ++ wsJx4a65c0 ++ (vx_atS RX8 167 "java/util/NoSuchElementException" ["java/lang/RuntimeException", "java/lang/Exception"]).filter goodWord)
def wsX8_shingle_r1 : List Cond := [Cond.fieldLink RX8 178 "TwinFinder$Document" "size" "I", Cond.fieldLink RX8 198 "TwinFinder$Document" "numbers" "[I", Cond.methodLink RX8 194 yX8_documentThere, Cond.instanceMethod yX8_documentThere, Cond.selects RX8 yX8_documentThere yX8_documentThere, Cond.initialized RX8, Cond.code yX8_documentThere cX8_documentThere 3 (some (.object "TwinFinder$Document")), Cond.classLink RX8 163 "java/util/NoSuchElementException", Cond.initialized "java/util/NoSuchElementException", Cond.fieldLink RX8 33 "TwinFinder" "shelf" "LTwinFinder$Shelf;", Cond.fieldLink RX8 168 "TwinFinder$Shelf" "here" "Ljava/util/ArrayList;", Cond.classLink RX8 99 "TwinFinder$Document", Cond.methodLink RX8 159 yX5_placeOf, Cond.instanceMethod yX5_placeOf, Cond.selects RX5 yX5_placeOf yX5_placeOf, Cond.initialized RX5, Cond.code yX5_placeOf cX5_placeOf 3 (some .int), Cond.fieldLink RX5 12 "TwinFinder$Shelf" "here" "Ljava/util/ArrayList;", Cond.classLink RX5 36 "TwinFinder$Document", Cond.fieldLink RX5 38 "TwinFinder$Document" "number" "I", Cond.methodLink RX5 24 yJx4a65c_size_8abf5, Cond.instanceMethod yJx4a65c_size_8abf5, Cond.selects RJx4a65c yJx4a65c_size_8abf5 yJx4a65c_size_8abf5, Cond.initialized RJx4a65c]
def wsX8_shingle_r2 : List Cond := [Cond.code yJx4a65c_size_8abf5 cJx4a65c_size_8abf5 1 (some .int), Cond.fieldLink RJx4a65c 48 "java/util/ArrayList" "size" "I", Cond.methodLink RX5 32 yJx4a65c_get_915e3, Cond.instanceMethod yJx4a65c_get_915e3, Cond.selects RJx4a65c yJx4a65c_get_915e3 yJx4a65c_get_915e3, Cond.code yJx4a65c_get_915e3 cJx4a65c_get_915e3 2 (some (.object "java/lang/Object")), Cond.methodLink RJx4a65c 118 yJ15_checkIndex_7cf53, Cond.static yJ15_checkIndex_7cf53, Cond.initialized RJ15, Cond.code yJ15_checkIndex_7cf53 cJ15_checkIndex_7cf53 2 (some .int), Cond.methodLink RJ15 105 yJ3_checkIndex_8e157, Cond.static yJ3_checkIndex_8e157, Cond.initialized RJ3, Cond.code yJ3_checkIndex_8e157 cJ3_checkIndex_8e157 3 (some .int), Cond.methodLink RJx4a65c 123 yJx4a65c_elementData_915e3, Cond.instanceMethod yJx4a65c_elementData_915e3, Cond.selects RJx4a65c yJx4a65c_elementData_915e3 yJx4a65c_elementData_915e3, Cond.code yJx4a65c_elementData_915e3 cJx4a65c_elementData_915e3 2 (some (.object "java/lang/Object")), Cond.fieldLink RJx4a65c 9 "java/util/ArrayList" "elementData" "[Ljava/lang/Object;", Cond.methodLink RX8 172 yJx4a65c_get_915e3]
def wsX8_shingle : List Cond := .code yX8_shingle cX8_shingle 4 (some .int) :: ((wsX8_shingle_r1 ++ wsX8_shingle_r2) ++ wsX00 ++ wsX80 ++ wsX50 ++ wsJx4a65c0 ++ (vx_atS RX8 167 "java/util/NoSuchElementException" ["java/lang/RuntimeException", "java/lang/Exception"]).filter goodWord)
def wsX8_letter : List Cond := .code yX8_letter cX8_letter 3 (some .int) :: ([.fieldLink RX8 19 "TwinFinder" "store" "LTwinFinder$Store;", .methodLink RX8 201 yX6_byteOf, .instanceMethod yX6_byteOf, .selects RX6 yX6_byteOf yX6_byteOf, .initialized RX6, .code yX6_byteOf cX6_byteOf 3 (some .int), .fieldLink RX6 26 "TwinFinder$Store" "given" "I", .fieldLink RX6 16 "TwinFinder$Store" "begin" "[I", .fieldLink RX6 10 "TwinFinder$Store" "letters" "[B"] ++ wsX80 ++ wsX60)
def wsX8_signature_r1 : List Cond := [Cond.classLink RX8 163 "java/util/NoSuchElementException", Cond.initialized "java/util/NoSuchElementException", Cond.fieldLink RX8 104 "TwinFinder$Document" "least" "[I", Cond.methodLink RX8 194 yX8_documentThere, Cond.instanceMethod yX8_documentThere, Cond.selects RX8 yX8_documentThere yX8_documentThere, Cond.initialized RX8, Cond.code yX8_documentThere cX8_documentThere 3 (some (.object "TwinFinder$Document")), Cond.fieldLink RX8 33 "TwinFinder" "shelf" "LTwinFinder$Shelf;", Cond.fieldLink RX8 168 "TwinFinder$Shelf" "here" "Ljava/util/ArrayList;", Cond.classLink RX8 99 "TwinFinder$Document", Cond.methodLink RX8 159 yX5_placeOf, Cond.instanceMethod yX5_placeOf, Cond.selects RX5 yX5_placeOf yX5_placeOf, Cond.initialized RX5, Cond.code yX5_placeOf cX5_placeOf 3 (some .int), Cond.fieldLink RX5 12 "TwinFinder$Shelf" "here" "Ljava/util/ArrayList;", Cond.classLink RX5 36 "TwinFinder$Document", Cond.fieldLink RX5 38 "TwinFinder$Document" "number" "I", Cond.methodLink RX5 24 yJx4a65c_size_8abf5, Cond.instanceMethod yJx4a65c_size_8abf5, Cond.selects RJx4a65c yJx4a65c_size_8abf5 yJx4a65c_size_8abf5, Cond.initialized RJx4a65c, Cond.code yJx4a65c_size_8abf5 cJx4a65c_size_8abf5 1 (some .int)]
def wsX8_signature_r2 : List Cond := [Cond.fieldLink RJx4a65c 48 "java/util/ArrayList" "size" "I", Cond.methodLink RX5 32 yJx4a65c_get_915e3, Cond.instanceMethod yJx4a65c_get_915e3, Cond.selects RJx4a65c yJx4a65c_get_915e3 yJx4a65c_get_915e3, Cond.code yJx4a65c_get_915e3 cJx4a65c_get_915e3 2 (some (.object "java/lang/Object")), Cond.methodLink RJx4a65c 118 yJ15_checkIndex_7cf53, Cond.static yJ15_checkIndex_7cf53, Cond.initialized RJ15, Cond.code yJ15_checkIndex_7cf53 cJ15_checkIndex_7cf53 2 (some .int), Cond.methodLink RJ15 105 yJ3_checkIndex_8e157, Cond.static yJ3_checkIndex_8e157, Cond.initialized RJ3, Cond.code yJ3_checkIndex_8e157 cJ3_checkIndex_8e157 3 (some .int), Cond.methodLink RJx4a65c 123 yJx4a65c_elementData_915e3, Cond.instanceMethod yJx4a65c_elementData_915e3, Cond.selects RJx4a65c yJx4a65c_elementData_915e3 yJx4a65c_elementData_915e3, Cond.code yJx4a65c_elementData_915e3 cJx4a65c_elementData_915e3 2 (some (.object "java/lang/Object")), Cond.fieldLink RJx4a65c 9 "java/util/ArrayList" "elementData" "[Ljava/lang/Object;", Cond.methodLink RX8 172 yJx4a65c_get_915e3]
def wsX8_signature : List Cond := .code yX8_signature cX8_signature 4 (some .int) :: ((wsX8_signature_r1 ++ wsX8_signature_r2) ++ wsX00 ++ wsX80 ++ wsX50 ++ wsJx4a65c0 ++ (vx_atS RX8 167 "java/util/NoSuchElementException" ["java/lang/RuntimeException", "java/lang/Exception"]).filter goodWord)
def wsX8_both_r1 : List Cond := [Cond.classLink RX8 163 "java/util/NoSuchElementException", Cond.initialized "java/util/NoSuchElementException", Cond.fieldLink RX8 40 "TwinFinder" "measure" "LTwinFinder$Measure;", Cond.methodLink RX8 194 yX8_documentThere, Cond.instanceMethod yX8_documentThere, Cond.selects RX8 yX8_documentThere yX8_documentThere, Cond.initialized RX8, Cond.code yX8_documentThere cX8_documentThere 3 (some (.object "TwinFinder$Document")), Cond.fieldLink RX8 33 "TwinFinder" "shelf" "LTwinFinder$Shelf;", Cond.fieldLink RX8 168 "TwinFinder$Shelf" "here" "Ljava/util/ArrayList;", Cond.classLink RX8 99 "TwinFinder$Document", Cond.methodLink RX8 159 yX5_placeOf, Cond.instanceMethod yX5_placeOf, Cond.selects RX5 yX5_placeOf yX5_placeOf, Cond.initialized RX5, Cond.code yX5_placeOf cX5_placeOf 3 (some .int), Cond.fieldLink RX5 12 "TwinFinder$Shelf" "here" "Ljava/util/ArrayList;", Cond.classLink RX5 36 "TwinFinder$Document", Cond.fieldLink RX5 38 "TwinFinder$Document" "number" "I", Cond.methodLink RX5 24 yJx4a65c_size_8abf5, Cond.instanceMethod yJx4a65c_size_8abf5, Cond.selects RJx4a65c yJx4a65c_size_8abf5 yJx4a65c_size_8abf5, Cond.initialized RJx4a65c, Cond.code yJx4a65c_size_8abf5 cJx4a65c_size_8abf5 1 (some .int)]
def wsX8_both_r2 : List Cond := [Cond.fieldLink RJx4a65c 48 "java/util/ArrayList" "size" "I", Cond.methodLink RX5 32 yJx4a65c_get_915e3, Cond.instanceMethod yJx4a65c_get_915e3, Cond.selects RJx4a65c yJx4a65c_get_915e3 yJx4a65c_get_915e3, Cond.code yJx4a65c_get_915e3 cJx4a65c_get_915e3 2 (some (.object "java/lang/Object")), Cond.methodLink RJx4a65c 118 yJ15_checkIndex_7cf53, Cond.static yJ15_checkIndex_7cf53, Cond.initialized RJ15, Cond.code yJ15_checkIndex_7cf53 cJ15_checkIndex_7cf53 2 (some .int), Cond.methodLink RJ15 105 yJ3_checkIndex_8e157, Cond.static yJ3_checkIndex_8e157, Cond.initialized RJ3, Cond.code yJ3_checkIndex_8e157 cJ3_checkIndex_8e157 3 (some .int), Cond.methodLink RJx4a65c 123 yJx4a65c_elementData_915e3, Cond.instanceMethod yJx4a65c_elementData_915e3, Cond.selects RJx4a65c yJx4a65c_elementData_915e3 yJx4a65c_elementData_915e3, Cond.code yJx4a65c_elementData_915e3 cJx4a65c_elementData_915e3 2 (some (.object "java/lang/Object")), Cond.fieldLink RJx4a65c 9 "java/util/ArrayList" "elementData" "[Ljava/lang/Object;", Cond.methodLink RX8 172 yJx4a65c_get_915e3, Cond.methodLink RX8 208 yX2_common, Cond.instanceMethod yX2_common, Cond.selects RX2 yX2_common yX2_common, Cond.initialized RX2, Cond.code yX2_common cX2_common 3 (some .int)]
def wsX8_both_r3 : List Cond := [Cond.fieldLink RX2 24 "TwinFinder$Document" "shared" "[I", Cond.fieldLink RX2 30 "TwinFinder$Document" "slot" "I", Cond.methodLink RX8 212 yX2_all, Cond.instanceMethod yX2_all, Cond.selects RX2 yX2_all yX2_all, Cond.code yX2_all cX2_all 3 (some .int), Cond.fieldLink RX2 33 "TwinFinder$Document" "size" "I", Cond.methodLink RX2 36 yX2_common, Cond.methodLink RX8 215 yX2_sameImages, Cond.instanceMethod yX2_sameImages, Cond.selects RX2 yX2_sameImages yX2_sameImages, Cond.code yX2_sameImages cX2_sameImages 5 (some .int), Cond.fieldLink RX2 9 "TwinFinder$Measure" "bandCount" "I", Cond.fieldLink RX2 15 "TwinFinder$Measure" "rowCount" "I", Cond.fieldLink RX2 40 "TwinFinder$Document" "least" "[I", Cond.methodLink RX8 218 yX2_firstBand, Cond.instanceMethod yX2_firstBand, Cond.selects RX2 yX2_firstBand yX2_firstBand, Cond.code yX2_firstBand cX2_firstBand 4 (some .int), Cond.methodLink RX2 43 yX2_agree, Cond.instanceMethod yX2_agree, Cond.selects RX2 yX2_agree yX2_agree, Cond.code yX2_agree cX2_agree 5 (some .boolean), Cond.methodLink RX8 221 yX2_areTwins]
def wsX8_both_r4 : List Cond := [Cond.instanceMethod yX2_areTwins, Cond.selects RX2 yX2_areTwins yX2_areTwins, Cond.code yX2_areTwins cX2_areTwins 3 (some .boolean), Cond.methodLink RX2 47 yX2_firstBand, Cond.methodLink RX2 50 yX2_areNear, Cond.instanceMethod yX2_areNear, Cond.selects RX2 yX2_areNear yX2_areNear, Cond.code yX2_areNear cX2_areNear 3 (some .boolean), Cond.fieldLink RX2 21 "TwinFinder$Measure" "q" "I", Cond.fieldLink RX2 18 "TwinFinder$Measure" "p" "I", Cond.methodLink RX2 54 yX2_all]
def wsX8_both : List Cond := .code yX8_both cX8_both 6 (some .int) :: ((wsX8_both_r1 ++ (wsX8_both_r2 ++ (wsX8_both_r3 ++ wsX8_both_r4))) ++ wsX80 ++ wsX50 ++ wsX00 ++ wsJx4a65c0 ++ wsX20 ++ (vx_atS RX8 167 "java/util/NoSuchElementException" ["java/lang/RuntimeException", "java/lang/Exception"]).filter goodWord)
def wsX8_pairs_r1 : List Cond := [Cond.fieldLink RX8 47 "TwinFinder" "kin" "LTwinFinder$Kin;", Cond.fieldLink RX8 33 "TwinFinder" "shelf" "LTwinFinder$Shelf;", Cond.fieldLink RX8 168 "TwinFinder$Shelf" "here" "Ljava/util/ArrayList;", Cond.fieldLink RX8 40 "TwinFinder" "measure" "LTwinFinder$Measure;", Cond.fieldLink RX8 225 "TwinFinder$Kin" "candidates" "LTwinFinder$PairRow;", Cond.fieldLink RX8 229 "TwinFinder$PairRow" "size" "I", Cond.fieldLink RX8 232 "TwinFinder$Kin" "twins" "LTwinFinder$PairRow;", Cond.methodLink RX8 181 yX1_learn, Cond.instanceMethod yX1_learn, Cond.selects RX1 yX1_learn yX1_learn, Cond.initialized RX1, Cond.code yX1_learn cX1_learn 5 none, Cond.fieldLink RX1 34 "TwinFinder$Kin" "known" "Z", Cond.fieldLink RX1 42 "TwinFinder$Kin" "places" "I", Cond.classLink RX1 52 "TwinFinder$Document", Cond.fieldLink RX1 31 "TwinFinder$Kin" "members" "[I", Cond.fieldLink RX1 28 "TwinFinder$Kin" "leader" "[I", Cond.methodLink RX1 38 yX1_begin, Cond.instanceMethod yX1_begin, Cond.selects RX1 yX1_begin yX1_begin, Cond.code yX1_begin cX1_begin 3 none, Cond.methodLink RX1 62 Lib.Math.min.name, Cond.static Lib.Math.min.name, Cond.initialized "java/lang/Math"]
def wsX8_pairs_r2 : List Cond := [Cond.code Lib.Math.min.name Lib.Math.min.code 2 (some .int), Cond.fieldLink RX1 12 "TwinFinder$Kin" "candidates" "LTwinFinder$PairRow;", Cond.fieldLink RX1 68 "TwinFinder$PairRow" "size" "I", Cond.fieldLink RX1 18 "TwinFinder$Kin" "twins" "LTwinFinder$PairRow;", Cond.fieldLink RX1 21 "TwinFinder$Kin" "number" "[I", Cond.fieldLink RX1 70 "TwinFinder$Document" "number" "I", Cond.fieldLink RX1 25 "TwinFinder$Kin" "twinCount" "[I", Cond.methodLink RX1 58 yJx4a65c_size_8abf5, Cond.instanceMethod yJx4a65c_size_8abf5, Cond.selects RJx4a65c yJx4a65c_size_8abf5 yJx4a65c_size_8abf5, Cond.initialized RJx4a65c, Cond.code yJx4a65c_size_8abf5 cJx4a65c_size_8abf5 1 (some .int), Cond.fieldLink RJx4a65c 48 "java/util/ArrayList" "size" "I", Cond.methodLink RX1 46 yJx4a65c_get_915e3, Cond.instanceMethod yJx4a65c_get_915e3, Cond.selects RJx4a65c yJx4a65c_get_915e3 yJx4a65c_get_915e3, Cond.code yJx4a65c_get_915e3 cJx4a65c_get_915e3 2 (some (.object "java/lang/Object")), Cond.methodLink RJx4a65c 118 yJ15_checkIndex_7cf53, Cond.static yJ15_checkIndex_7cf53, Cond.initialized RJ15, Cond.code yJ15_checkIndex_7cf53 cJ15_checkIndex_7cf53 2 (some .int), Cond.methodLink RJ15 105 yJ3_checkIndex_8e157, Cond.static yJ3_checkIndex_8e157, Cond.initialized RJ3]
def wsX8_pairs_r3 : List Cond := [Cond.code yJ3_checkIndex_8e157 cJ3_checkIndex_8e157 3 (some .int), Cond.methodLink RJx4a65c 123 yJx4a65c_elementData_915e3, Cond.instanceMethod yJx4a65c_elementData_915e3, Cond.selects RJx4a65c yJx4a65c_elementData_915e3 yJx4a65c_elementData_915e3, Cond.code yJx4a65c_elementData_915e3 cJx4a65c_elementData_915e3 2 (some (.object "java/lang/Object")), Cond.fieldLink RJx4a65c 9 "java/util/ArrayList" "elementData" "[Ljava/lang/Object;", Cond.methodLink RX1 54 yX1_compare, Cond.instanceMethod yX1_compare, Cond.selects RX1 yX1_compare yX1_compare, Cond.code yX1_compare cX1_compare 6 none, Cond.methodLink RX1 72 yX2_firstBand, Cond.instanceMethod yX2_firstBand, Cond.selects RX2 yX2_firstBand yX2_firstBand, Cond.initialized RX2, Cond.code yX2_firstBand cX2_firstBand 4 (some .int), Cond.fieldLink RX2 33 "TwinFinder$Document" "size" "I", Cond.fieldLink RX2 9 "TwinFinder$Measure" "bandCount" "I", Cond.fieldLink RX2 15 "TwinFinder$Measure" "rowCount" "I", Cond.methodLink RX2 43 yX2_agree, Cond.instanceMethod yX2_agree, Cond.selects RX2 yX2_agree yX2_agree, Cond.code yX2_agree cX2_agree 5 (some .boolean), Cond.fieldLink RX2 40 "TwinFinder$Document" "least" "[I", Cond.methodLink RX1 78 yX3_put]
def wsX8_pairs_r4 : List Cond := [Cond.instanceMethod yX3_put, Cond.selects RX3 yX3_put yX3_put, Cond.initialized RX3, Cond.code yX3_put cX3_put 3 none, Cond.fieldLink RX3 18 "TwinFinder$PairRow" "size" "I", Cond.fieldLink RX3 9 "TwinFinder$PairRow" "first" "[I", Cond.fieldLink RX3 15 "TwinFinder$PairRow" "second" "[I", Cond.methodLink RX1 82 yX2_areNear, Cond.instanceMethod yX2_areNear, Cond.selects RX2 yX2_areNear yX2_areNear, Cond.code yX2_areNear cX2_areNear 3 (some .boolean), Cond.fieldLink RX2 21 "TwinFinder$Measure" "q" "I", Cond.fieldLink RX2 18 "TwinFinder$Measure" "p" "I", Cond.methodLink RX2 36 yX2_common, Cond.instanceMethod yX2_common, Cond.selects RX2 yX2_common yX2_common, Cond.code yX2_common cX2_common 3 (some .int), Cond.fieldLink RX2 24 "TwinFinder$Document" "shared" "[I", Cond.fieldLink RX2 30 "TwinFinder$Document" "slot" "I", Cond.methodLink RX2 54 yX2_all, Cond.instanceMethod yX2_all, Cond.selects RX2 yX2_all yX2_all, Cond.code yX2_all cX2_all 3 (some .int), Cond.methodLink RX1 86 yX1_join]
def wsX8_pairs_r5 : List Cond := [Cond.instanceMethod yX1_join, Cond.selects RX1 yX1_join yX1_join, Cond.code yX1_join cX1_join 6 none, Cond.methodLink RX1 89 Lib.Math.max.name, Cond.static Lib.Math.max.name, Cond.code Lib.Math.max.name Lib.Math.max.code 2 (some .int), Cond.methodLink RX8 235 yX1_families, Cond.instanceMethod yX1_families, Cond.selects RX1 yX1_families yX1_families, Cond.code yX1_families cX1_families 4 (some .int)]
def wsX8_pairs : List Cond := .code yX8_pairs cX8_pairs 2 (some .int) :: ((wsX8_pairs_r1 ++ (wsX8_pairs_r2 ++ (wsX8_pairs_r3 ++ (wsX8_pairs_r4 ++ wsX8_pairs_r5)))) ++ wsX80 ++ wsX50 ++ wsX10 ++ wsX30 ++ wsX00 ++ wsJx4a65c0 ++ wsX20)
def wsX8_pair_r1 : List Cond := [Cond.fieldLink RX8 47 "TwinFinder" "kin" "LTwinFinder$Kin;", Cond.fieldLink RX8 33 "TwinFinder" "shelf" "LTwinFinder$Shelf;", Cond.fieldLink RX8 168 "TwinFinder$Shelf" "here" "Ljava/util/ArrayList;", Cond.fieldLink RX8 40 "TwinFinder" "measure" "LTwinFinder$Measure;", Cond.fieldLink RX8 225 "TwinFinder$Kin" "candidates" "LTwinFinder$PairRow;", Cond.fieldLink RX8 232 "TwinFinder$Kin" "twins" "LTwinFinder$PairRow;", Cond.methodLink RX8 181 yX1_learn, Cond.instanceMethod yX1_learn, Cond.selects RX1 yX1_learn yX1_learn, Cond.initialized RX1, Cond.code yX1_learn cX1_learn 5 none, Cond.fieldLink RX1 34 "TwinFinder$Kin" "known" "Z", Cond.fieldLink RX1 42 "TwinFinder$Kin" "places" "I", Cond.classLink RX1 52 "TwinFinder$Document", Cond.fieldLink RX1 31 "TwinFinder$Kin" "members" "[I", Cond.fieldLink RX1 28 "TwinFinder$Kin" "leader" "[I", Cond.methodLink RX1 38 yX1_begin, Cond.instanceMethod yX1_begin, Cond.selects RX1 yX1_begin yX1_begin, Cond.code yX1_begin cX1_begin 3 none, Cond.methodLink RX1 62 Lib.Math.min.name, Cond.static Lib.Math.min.name, Cond.initialized "java/lang/Math", Cond.code Lib.Math.min.name Lib.Math.min.code 2 (some .int)]
def wsX8_pair_r2 : List Cond := [Cond.fieldLink RX1 12 "TwinFinder$Kin" "candidates" "LTwinFinder$PairRow;", Cond.fieldLink RX1 68 "TwinFinder$PairRow" "size" "I", Cond.fieldLink RX1 18 "TwinFinder$Kin" "twins" "LTwinFinder$PairRow;", Cond.fieldLink RX1 21 "TwinFinder$Kin" "number" "[I", Cond.fieldLink RX1 70 "TwinFinder$Document" "number" "I", Cond.fieldLink RX1 25 "TwinFinder$Kin" "twinCount" "[I", Cond.methodLink RX1 58 yJx4a65c_size_8abf5, Cond.instanceMethod yJx4a65c_size_8abf5, Cond.selects RJx4a65c yJx4a65c_size_8abf5 yJx4a65c_size_8abf5, Cond.initialized RJx4a65c, Cond.code yJx4a65c_size_8abf5 cJx4a65c_size_8abf5 1 (some .int), Cond.fieldLink RJx4a65c 48 "java/util/ArrayList" "size" "I", Cond.methodLink RX1 46 yJx4a65c_get_915e3, Cond.instanceMethod yJx4a65c_get_915e3, Cond.selects RJx4a65c yJx4a65c_get_915e3 yJx4a65c_get_915e3, Cond.code yJx4a65c_get_915e3 cJx4a65c_get_915e3 2 (some (.object "java/lang/Object")), Cond.methodLink RJx4a65c 118 yJ15_checkIndex_7cf53, Cond.static yJ15_checkIndex_7cf53, Cond.initialized RJ15, Cond.code yJ15_checkIndex_7cf53 cJ15_checkIndex_7cf53 2 (some .int), Cond.methodLink RJ15 105 yJ3_checkIndex_8e157, Cond.static yJ3_checkIndex_8e157, Cond.initialized RJ3, Cond.code yJ3_checkIndex_8e157 cJ3_checkIndex_8e157 3 (some .int)]
def wsX8_pair_r3 : List Cond := [Cond.methodLink RJx4a65c 123 yJx4a65c_elementData_915e3, Cond.instanceMethod yJx4a65c_elementData_915e3, Cond.selects RJx4a65c yJx4a65c_elementData_915e3 yJx4a65c_elementData_915e3, Cond.code yJx4a65c_elementData_915e3 cJx4a65c_elementData_915e3 2 (some (.object "java/lang/Object")), Cond.fieldLink RJx4a65c 9 "java/util/ArrayList" "elementData" "[Ljava/lang/Object;", Cond.methodLink RX1 54 yX1_compare, Cond.instanceMethod yX1_compare, Cond.selects RX1 yX1_compare yX1_compare, Cond.code yX1_compare cX1_compare 6 none, Cond.methodLink RX1 72 yX2_firstBand, Cond.instanceMethod yX2_firstBand, Cond.selects RX2 yX2_firstBand yX2_firstBand, Cond.initialized RX2, Cond.code yX2_firstBand cX2_firstBand 4 (some .int), Cond.fieldLink RX2 33 "TwinFinder$Document" "size" "I", Cond.fieldLink RX2 9 "TwinFinder$Measure" "bandCount" "I", Cond.fieldLink RX2 15 "TwinFinder$Measure" "rowCount" "I", Cond.methodLink RX2 43 yX2_agree, Cond.instanceMethod yX2_agree, Cond.selects RX2 yX2_agree yX2_agree, Cond.code yX2_agree cX2_agree 5 (some .boolean), Cond.fieldLink RX2 40 "TwinFinder$Document" "least" "[I", Cond.methodLink RX1 78 yX3_put, Cond.instanceMethod yX3_put]
def wsX8_pair_r4 : List Cond := [Cond.selects RX3 yX3_put yX3_put, Cond.initialized RX3, Cond.code yX3_put cX3_put 3 none, Cond.fieldLink RX3 18 "TwinFinder$PairRow" "size" "I", Cond.fieldLink RX3 9 "TwinFinder$PairRow" "first" "[I", Cond.fieldLink RX3 15 "TwinFinder$PairRow" "second" "[I", Cond.methodLink RX1 82 yX2_areNear, Cond.instanceMethod yX2_areNear, Cond.selects RX2 yX2_areNear yX2_areNear, Cond.code yX2_areNear cX2_areNear 3 (some .boolean), Cond.fieldLink RX2 21 "TwinFinder$Measure" "q" "I", Cond.fieldLink RX2 18 "TwinFinder$Measure" "p" "I", Cond.methodLink RX2 36 yX2_common, Cond.instanceMethod yX2_common, Cond.selects RX2 yX2_common yX2_common, Cond.code yX2_common cX2_common 3 (some .int), Cond.fieldLink RX2 24 "TwinFinder$Document" "shared" "[I", Cond.fieldLink RX2 30 "TwinFinder$Document" "slot" "I", Cond.methodLink RX2 54 yX2_all, Cond.instanceMethod yX2_all, Cond.selects RX2 yX2_all yX2_all, Cond.code yX2_all cX2_all 3 (some .int), Cond.methodLink RX1 86 yX1_join, Cond.instanceMethod yX1_join]
def wsX8_pair_r5 : List Cond := [Cond.selects RX1 yX1_join yX1_join, Cond.code yX1_join cX1_join 6 none, Cond.methodLink RX1 89 Lib.Math.max.name, Cond.static Lib.Math.max.name, Cond.code Lib.Math.max.name Lib.Math.max.code 2 (some .int), Cond.methodLink RX8 238 yX3_side, Cond.instanceMethod yX3_side, Cond.selects RX3 yX3_side yX3_side, Cond.code yX3_side cX3_side 3 (some .int), Cond.methodLink RX8 241 yX1_familyAt, Cond.instanceMethod yX1_familyAt, Cond.selects RX1 yX1_familyAt yX1_familyAt, Cond.code yX1_familyAt cX1_familyAt 5 (some .int)]
def wsX8_pair : List Cond := .code yX8_pair cX8_pair 4 (some .int) :: ((wsX8_pair_r1 ++ (wsX8_pair_r2 ++ (wsX8_pair_r3 ++ (wsX8_pair_r4 ++ wsX8_pair_r5)))) ++ wsX80 ++ wsX50 ++ wsX10 ++ wsX30 ++ wsX00 ++ wsJx4a65c0 ++ wsX20)
def wsX8_nearest_r1 : List Cond := [Cond.fieldLink RX8 33 "TwinFinder" "shelf" "LTwinFinder$Shelf;", Cond.fieldLink RX8 40 "TwinFinder" "measure" "LTwinFinder$Measure;", Cond.classLink RX8 99 "TwinFinder$Document", Cond.fieldLink RX8 119 "TwinFinder$Document" "number" "I", Cond.methodLink RX8 194 yX8_documentThere, Cond.instanceMethod yX8_documentThere, Cond.selects RX8 yX8_documentThere yX8_documentThere, Cond.initialized RX8, Cond.code yX8_documentThere cX8_documentThere 3 (some (.object "TwinFinder$Document")), Cond.classLink RX8 163 "java/util/NoSuchElementException", Cond.initialized "java/util/NoSuchElementException", Cond.fieldLink RX8 168 "TwinFinder$Shelf" "here" "Ljava/util/ArrayList;", Cond.methodLink RX8 159 yX5_placeOf, Cond.instanceMethod yX5_placeOf, Cond.selects RX5 yX5_placeOf yX5_placeOf, Cond.initialized RX5, Cond.code yX5_placeOf cX5_placeOf 3 (some .int), Cond.fieldLink RX5 12 "TwinFinder$Shelf" "here" "Ljava/util/ArrayList;", Cond.classLink RX5 36 "TwinFinder$Document", Cond.fieldLink RX5 38 "TwinFinder$Document" "number" "I", Cond.methodLink RX5 24 yJx4a65c_size_8abf5, Cond.instanceMethod yJx4a65c_size_8abf5, Cond.selects RJx4a65c yJx4a65c_size_8abf5 yJx4a65c_size_8abf5, Cond.initialized RJx4a65c]
def wsX8_nearest_r2 : List Cond := [Cond.code yJx4a65c_size_8abf5 cJx4a65c_size_8abf5 1 (some .int), Cond.fieldLink RJx4a65c 48 "java/util/ArrayList" "size" "I", Cond.methodLink RX5 32 yJx4a65c_get_915e3, Cond.instanceMethod yJx4a65c_get_915e3, Cond.selects RJx4a65c yJx4a65c_get_915e3 yJx4a65c_get_915e3, Cond.code yJx4a65c_get_915e3 cJx4a65c_get_915e3 2 (some (.object "java/lang/Object")), Cond.methodLink RJx4a65c 118 yJ15_checkIndex_7cf53, Cond.static yJ15_checkIndex_7cf53, Cond.initialized RJ15, Cond.code yJ15_checkIndex_7cf53 cJ15_checkIndex_7cf53 2 (some .int), Cond.methodLink RJ15 105 yJ3_checkIndex_8e157, Cond.static yJ3_checkIndex_8e157, Cond.initialized RJ3, Cond.code yJ3_checkIndex_8e157 cJ3_checkIndex_8e157 3 (some .int), Cond.methodLink RJx4a65c 123 yJx4a65c_elementData_915e3, Cond.instanceMethod yJx4a65c_elementData_915e3, Cond.selects RJx4a65c yJx4a65c_elementData_915e3 yJx4a65c_elementData_915e3, Cond.code yJx4a65c_elementData_915e3 cJx4a65c_elementData_915e3 2 (some (.object "java/lang/Object")), Cond.fieldLink RJx4a65c 9 "java/util/ArrayList" "elementData" "[Ljava/lang/Object;", Cond.methodLink RX8 172 yJx4a65c_get_915e3, Cond.methodLink RX8 244 yX5_othersByNearness, Cond.instanceMethod yX5_othersByNearness, Cond.selects RX5 yX5_othersByNearness yX5_othersByNearness, Cond.code yX5_othersByNearness cX5_othersByNearness 5 (some (.object "java/util/ArrayList"))]
def wsX8_nearest_r3 : List Cond := [Cond.fieldLink RX5 21 "TwinFinder$Shelf" "ranked" "Ljava/util/ArrayList;", Cond.methodLink RX5 70 yJx4a65c_clear_da8c8, Cond.instanceMethod yJx4a65c_clear_da8c8, Cond.selects RJx4a65c yJx4a65c_clear_da8c8 yJx4a65c_clear_da8c8, Cond.code yJx4a65c_clear_da8c8 cJx4a65c_clear_da8c8 4 none, Cond.fieldLink RJx4a65c 63 "java/util/ArrayList" "modCount" "I", Cond.sameField "java/util/ArrayList" "java/util/AbstractList" "modCount" "I", Cond.methodLink RX5 73 yX5_rankOf, Cond.instanceMethod yX5_rankOf, Cond.selects RX5 yX5_rankOf yX5_rankOf, Cond.code yX5_rankOf cX5_rankOf 5 (some .int), Cond.methodLink RX5 80 yX2_isNearer, Cond.instanceMethod yX2_isNearer, Cond.selects RX2 yX2_isNearer yX2_isNearer, Cond.initialized RX2, Cond.code yX2_isNearer cX2_isNearer 4 (some .boolean), Cond.methodLink RX2 57 Lib.Math.max.name, Cond.static Lib.Math.max.name, Cond.initialized "java/lang/Math", Cond.code Lib.Math.max.name Lib.Math.max.code 2 (some .int), Cond.methodLink RX2 36 yX2_common, Cond.instanceMethod yX2_common, Cond.selects RX2 yX2_common yX2_common, Cond.code yX2_common cX2_common 3 (some .int)]
def wsX8_nearest_r4 : List Cond := [Cond.fieldLink RX2 24 "TwinFinder$Document" "shared" "[I", Cond.fieldLink RX2 30 "TwinFinder$Document" "slot" "I", Cond.methodLink RX2 54 yX2_all, Cond.instanceMethod yX2_all, Cond.selects RX2 yX2_all yX2_all, Cond.code yX2_all cX2_all 3 (some .int), Cond.fieldLink RX2 33 "TwinFinder$Document" "size" "I", Cond.methodLink RX5 77 yJx4a65c_add_7a177, Cond.instanceMethod yJx4a65c_add_7a177, Cond.selects RJx4a65c yJx4a65c_add_7a177 yJx4a65c_add_7a177, Cond.code yJx4a65c_add_7a177 cJx4a65c_add_7a177 5 none, Cond.methodLink RJx4a65c 112 arraycopyName, Cond.native arraycopyName, Cond.static arraycopyName, Cond.initialized "java/lang/System", Cond.methodLink RJx4a65c 135 yJx4a65c_rangeCheckForAdd_d00df, Cond.instanceMethod yJx4a65c_rangeCheckForAdd_d00df, Cond.selects RJx4a65c yJx4a65c_rangeCheckForAdd_d00df yJx4a65c_rangeCheckForAdd_d00df, Cond.code yJx4a65c_rangeCheckForAdd_d00df cJx4a65c_rangeCheckForAdd_d00df 2 none, Cond.methodLink RJx4a65c 129 yJx4a65c_grow_d5877, Cond.instanceMethod yJx4a65c_grow_d5877, Cond.selects RJx4a65c yJx4a65c_grow_d5877 yJx4a65c_grow_d5877, Cond.code yJx4a65c_grow_d5877 cJx4a65c_grow_d5877 1 (some (.array (.object "java/lang/Object"))), Cond.methodLink RJx4a65c 69 yJx4a65c_grow_92f84]
def wsX8_nearest_r5 : List Cond := [Cond.instanceMethod yJx4a65c_grow_92f84, Cond.selects RJx4a65c yJx4a65c_grow_92f84 yJx4a65c_grow_92f84, Cond.code yJx4a65c_grow_92f84 cJx4a65c_grow_92f84 4 (some (.array (.object "java/lang/Object"))), Cond.fieldLink RJx4a65c 39 "java/util/ArrayList" "DEFAULTCAPACITY_EMPTY_ELEMENTDATA" "[Ljava/lang/Object;", Cond.methodLink RJx4a65c 79 Lib.Math.max.name, Cond.classLink RJx4a65c 7 "java/lang/Object", Cond.methodLink RJx4a65c 73 yJ8_newLength_cabcc, Cond.static yJ8_newLength_cabcc, Cond.initialized RJ8, Cond.code yJ8_newLength_cabcc cJ8_newLength_cabcc 4 (some .int), Cond.methodLink RJ8 194 Lib.Math.max.name, Cond.constant RJ8 200 (2147483639), Cond.methodLink RJ8 201 yJ8_hugeLength_7cf53, Cond.static yJ8_hugeLength_7cf53, Cond.code yJ8_hugeLength_7cf53 cJ8_hugeLength_7cf53 3 (some .int), Cond.methodLink RJx4a65c 66 yJ7_copyOf_1904c, Cond.static yJ7_copyOf_1904c, Cond.initialized RJ7, Cond.code yJ7_copyOf_1904c cJ7_copyOf_1904c 2 (some (.array (.object "java/lang/Object"))), Cond.methodLink RJ7 86 ⟨"java/lang/Object", "getClass", "()Ljava/lang/Class;"⟩, Cond.selects "[Ljava/lang/Object;" ⟨"java/lang/Object", "getClass", "()Ljava/lang/Class;"⟩ ⟨"java/lang/Object", "getClass", "()Ljava/lang/Class;"⟩, Cond.instanceMethod ⟨"java/lang/Object", "getClass", "()Ljava/lang/Class;"⟩, Cond.native ⟨"java/lang/Object", "getClass", "()Ljava/lang/Class;"⟩, Cond.methodLink RJ7 300 yJ7_copyOf_6403c]
def wsX8_nearest_r6 : List Cond := [Cond.static yJ7_copyOf_6403c, Cond.code yJ7_copyOf_6403c cJ7_copyOf_6403c 4 (some (.array (.object "java/lang/Object"))), Cond.classLink RJ7 110 "[Ljava/lang/Object;", Cond.classLink RJ7 2 "java/lang/Object", Cond.methodLink RJ7 304 Lib.Math.min.name, Cond.static Lib.Math.min.name, Cond.code Lib.Math.min.name Lib.Math.min.code 2 (some .int), Cond.methodLink RJ7 150 arraycopyName, Cond.methodLink RX8 248 yJx4a65c_size_8abf5]
def wsX8_nearest : List Cond := .code yX8_nearest cX8_nearest 4 (some .int) :: ((wsX8_nearest_r1 ++ (wsX8_nearest_r2 ++ (wsX8_nearest_r3 ++ (wsX8_nearest_r4 ++ (wsX8_nearest_r5 ++ wsX8_nearest_r6))))) ++ wsX80 ++ wsX00 ++ wsX50 ++ wsJx4a65c0 ++ (vx_atS RX8 167 "java/util/NoSuchElementException" ["java/lang/RuntimeException", "java/lang/Exception"]).filter goodWord)
def wsX8_count_r1 : List Cond := [Cond.fieldLink RX8 12 "TwinFinder" "tape" "LTwinFinder$Tape;", Cond.fieldLink RX8 62 "TwinFinder$Tape" "length" "I", Cond.fieldLink RX8 33 "TwinFinder" "shelf" "LTwinFinder$Shelf;", Cond.fieldLink RX8 168 "TwinFinder$Shelf" "here" "Ljava/util/ArrayList;", Cond.fieldLink RX8 250 "TwinFinder$Shelf" "came" "I", Cond.fieldLink RX8 19 "TwinFinder" "store" "LTwinFinder$Store;", Cond.fieldLink RX8 85 "TwinFinder$Store" "given" "I", Cond.fieldLink RX8 26 "TwinFinder" "permutations" "LTwinFinder$Permutations;", Cond.fieldLink RX8 145 "TwinFinder$Permutations" "kept" "I", Cond.fieldLink RX8 40 "TwinFinder" "measure" "LTwinFinder$Measure;", Cond.fieldLink RX8 256 "TwinFinder$Measure" "bandCount" "I", Cond.fieldLink RX8 259 "TwinFinder$Measure" "rowCount" "I", Cond.fieldLink RX8 262 "TwinFinder$Measure" "p" "I", Cond.fieldLink RX8 265 "TwinFinder$Measure" "q" "I", Cond.fieldLink RX8 55 "TwinFinder" "sortAtHand" "I", Cond.fieldLink RX8 59 "TwinFinder" "rowAtHand" "I", Cond.methodLink RX8 73 yX7_makePlain, Cond.instanceMethod yX7_makePlain, Cond.selects RX7 yX7_makePlain yX7_makePlain, Cond.initialized RX7, Cond.code yX7_makePlain cX7_makePlain 4 (some .int), Cond.fieldLink RX7 26 "TwinFinder$Tape" "plainLength" "I", Cond.fieldLink RX7 22 "TwinFinder$Tape" "length" "I", Cond.fieldLink RX7 9 "TwinFinder$Tape" "bytes" "[B"]
def wsX8_count_r2 : List Cond := [Cond.methodLink RX7 29 yX7_plainSign, Cond.static yX7_plainSign, Cond.code yX7_plainSign cX7_plainSign 2 (some .int), Cond.methodLink RX7 33 yX7_putPlain, Cond.instanceMethod yX7_putPlain, Cond.selects RX7 yX7_putPlain yX7_putPlain, Cond.code yX7_putPlain cX7_putPlain 2 none, Cond.fieldLink RX7 15 "TwinFinder$Tape" "plain" "[B", Cond.methodLink RX8 248 yJx4a65c_size_8abf5, Cond.instanceMethod yJx4a65c_size_8abf5, Cond.selects RJx4a65c yJx4a65c_size_8abf5 yJx4a65c_size_8abf5, Cond.initialized RJx4a65c, Cond.code yJx4a65c_size_8abf5 cJx4a65c_size_8abf5 1 (some .int), Cond.fieldLink RJx4a65c 48 "java/util/ArrayList" "size" "I", Cond.methodLink RX8 253 yX6_bytesUsed, Cond.instanceMethod yX6_bytesUsed, Cond.selects RX6 yX6_bytesUsed yX6_bytesUsed, Cond.initialized RX6, Cond.code yX6_bytesUsed cX6_bytesUsed 1 (some .int), Cond.fieldLink RX6 16 "TwinFinder$Store" "begin" "[I", Cond.fieldLink RX6 26 "TwinFinder$Store" "given" "I"]
def wsX8_count : List Cond := .code yX8_count cX8_count 2 (some .int) :: ((wsX8_count_r1 ++ wsX8_count_r2) ++ wsX80 ++ wsX70 ++ wsX50 ++ wsX60 ++ wsX40 ++ wsX20 ++ wsJx4a65c0)
def wsX9_thrown : List Cond := .code yX9_thrown cX9_thrown 1 (some .int) :: ([.fieldLink RX9 1 "TwinFinderModel" "thrown" "I"] ++ wsX90)
def wsX9_throwsIf : List Cond := .code yX9_throwsIf cX9_throwsIf 2 (some .boolean) :: ([.fieldLink RX9 1 "TwinFinderModel" "thrown" "I"] ++ wsX90)
def wsX9_four : List Cond := .code yX9_four cX9_four 3 none :: ([.fieldLink RX9 14 "TwinFinderModel" "tape" "[B", .fieldLink RX9 7 "TwinFinderModel" "length" "I"] ++ wsX90)
def wsX9_feed : List Cond := .code yX9_feed cX9_feed 6 (some .int) :: ([.fieldLink RX9 1 "TwinFinderModel" "thrown" "I", .fieldLink RX9 7 "TwinFinderModel" "length" "I", .methodLink RX9 10 yX9_four, .instanceMethod yX9_four, .selects RX9 yX9_four yX9_four, .initialized RX9, .code yX9_four cX9_four 3 none, .fieldLink RX9 14 "TwinFinderModel" "tape" "[B"] ++ wsX90)
def wsX9_end : List Cond := .code yX9_end cX9_end 2 (some .boolean) :: ([.fieldLink RX9 1 "TwinFinderModel" "thrown" "I", .fieldLink RX9 7 "TwinFinderModel" "length" "I"] ++ wsX90)
def wsX9_makePlain : List Cond := .code yX9_makePlain cX9_makePlain 5 none :: ([.fieldLink RX9 18 "TwinFinderModel" "plainSize" "I", .fieldLink RX9 7 "TwinFinderModel" "length" "I", .fieldLink RX9 14 "TwinFinderModel" "tape" "[B", .fieldLink RX9 21 "TwinFinderModel" "plain" "[B"] ++ wsX90)
def wsX9_numberOf : List Cond := .code yX9_numberOf cX9_numberOf 6 (some .int) :: ([.fieldLink RX9 24 "TwinFinderModel" "numbers" "I", .fieldLink RX9 27 "TwinFinderModel" "size" "[I", .fieldLink RX9 31 "TwinFinderModel" "letters" "[B", .fieldLink RX9 34 "TwinFinderModel" "from" "[I", .fieldLink RX9 21 "TwinFinderModel" "plain" "[B"] ++ wsX90)
def wsX9_comes : List Cond := .code yX9_comes cX9_comes 6 (some .boolean) :: ([.fieldLink RX9 24 "TwinFinderModel" "numbers" "I", .fieldLink RX9 41 "TwinFinderModel" "bytes" "I", .constant RX9 44 (50000), .fieldLink RX9 34 "TwinFinderModel" "from" "[I", .fieldLink RX9 27 "TwinFinderModel" "size" "[I", .fieldLink RX9 31 "TwinFinderModel" "letters" "[B", .fieldLink RX9 21 "TwinFinderModel" "plain" "[B", .fieldLink RX9 45 "TwinFinderModel" "freshMany" "I", .fieldLink RX9 48 "TwinFinderModel" "fresh" "[I", .methodLink RX9 37 yX9_numberOf, .instanceMethod yX9_numberOf, .selects RX9 yX9_numberOf yX9_numberOf, .initialized RX9, .code yX9_numberOf cX9_numberOf 6 (some .int)] ++ wsX90)
def wsX9_all : List Cond := .code yX9_all cX9_all 4 (some .boolean) :: ([.fieldLink RX9 45 "TwinFinderModel" "freshMany" "I", .fieldLink RX9 51 "TwinFinderModel" "sort" "I", .fieldLink RX9 54 "TwinFinderModel" "wide" "I", .fieldLink RX9 18 "TwinFinderModel" "plainSize" "I", .fieldLink RX9 21 "TwinFinderModel" "plain" "[B", .methodLink RX9 57 yX9_comes, .instanceMethod yX9_comes, .selects RX9 yX9_comes yX9_comes, .initialized RX9, .code yX9_comes cX9_comes 6 (some .boolean), .fieldLink RX9 24 "TwinFinderModel" "numbers" "I", .fieldLink RX9 41 "TwinFinderModel" "bytes" "I", .constant RX9 44 (50000), .fieldLink RX9 34 "TwinFinderModel" "from" "[I", .fieldLink RX9 27 "TwinFinderModel" "size" "[I", .fieldLink RX9 31 "TwinFinderModel" "letters" "[B", .fieldLink RX9 48 "TwinFinderModel" "fresh" "[I", .methodLink RX9 37 yX9_numberOf, .instanceMethod yX9_numberOf, .selects RX9 yX9_numberOf yX9_numberOf, .code yX9_numberOf cX9_numberOf 6 (some .int)] ++ wsX90)
def wsX9_add_r1 : List Cond := [Cond.fieldLink RX9 1 "TwinFinderModel" "thrown" "I", Cond.fieldLink RX9 7 "TwinFinderModel" "length" "I", Cond.fieldLink RX9 65 "TwinFinderModel" "documents" "I", Cond.fieldLink RX9 68 "TwinFinderModel" "came" "I", Cond.fieldLink RX9 24 "TwinFinderModel" "numbers" "I", Cond.fieldLink RX9 41 "TwinFinderModel" "bytes" "I", Cond.fieldLink RX9 45 "TwinFinderModel" "freshMany" "I", Cond.fieldLink RX9 75 "TwinFinderModel" "set" "[I", Cond.fieldLink RX9 48 "TwinFinderModel" "fresh" "[I", Cond.fieldLink RX9 78 "TwinFinderModel" "many" "[I", Cond.fieldLink RX9 81 "TwinFinderModel" "number" "[I", Cond.fieldLink RX9 84 "TwinFinderModel" "stale" "Z", Cond.methodLink RX9 61 yX9_makePlain, Cond.instanceMethod yX9_makePlain, Cond.selects RX9 yX9_makePlain yX9_makePlain, Cond.initialized RX9, Cond.code yX9_makePlain cX9_makePlain 5 none, Cond.fieldLink RX9 18 "TwinFinderModel" "plainSize" "I", Cond.fieldLink RX9 14 "TwinFinderModel" "tape" "[B", Cond.fieldLink RX9 21 "TwinFinderModel" "plain" "[B", Cond.methodLink RX9 71 yX9_all, Cond.instanceMethod yX9_all, Cond.selects RX9 yX9_all yX9_all, Cond.code yX9_all cX9_all 4 (some .boolean)]
def wsX9_add_r2 : List Cond := [Cond.fieldLink RX9 51 "TwinFinderModel" "sort" "I", Cond.fieldLink RX9 54 "TwinFinderModel" "wide" "I", Cond.methodLink RX9 57 yX9_comes, Cond.instanceMethod yX9_comes, Cond.selects RX9 yX9_comes yX9_comes, Cond.code yX9_comes cX9_comes 6 (some .boolean), Cond.constant RX9 44 (50000), Cond.fieldLink RX9 34 "TwinFinderModel" "from" "[I", Cond.fieldLink RX9 27 "TwinFinderModel" "size" "[I", Cond.fieldLink RX9 31 "TwinFinderModel" "letters" "[B", Cond.methodLink RX9 37 yX9_numberOf, Cond.instanceMethod yX9_numberOf, Cond.selects RX9 yX9_numberOf yX9_numberOf, Cond.code yX9_numberOf cX9_numberOf 6 (some .int)]
def wsX9_add : List Cond := .code yX9_add cX9_add 4 (some .int) :: ((wsX9_add_r1 ++ wsX9_add_r2) ++ wsX90)
def wsX9_slot : List Cond := .code yX9_slot cX9_slot 3 (some .int) :: ([.fieldLink RX9 65 "TwinFinderModel" "documents" "I", .fieldLink RX9 81 "TwinFinderModel" "number" "[I"] ++ wsX90)
def wsX9_remove : List Cond := .code yX9_remove cX9_remove 5 (some .boolean) :: ([.fieldLink RX9 1 "TwinFinderModel" "thrown" "I", .fieldLink RX9 65 "TwinFinderModel" "documents" "I", .fieldLink RX9 81 "TwinFinderModel" "number" "[I", .fieldLink RX9 78 "TwinFinderModel" "many" "[I", .fieldLink RX9 75 "TwinFinderModel" "set" "[I", .fieldLink RX9 84 "TwinFinderModel" "stale" "Z", .methodLink RX9 88 yX9_slot, .instanceMethod yX9_slot, .selects RX9 yX9_slot yX9_slot, .initialized RX9, .code yX9_slot cX9_slot 3 (some .int)] ++ wsX90)
def wsX9_mode : List Cond := .code yX9_mode cX9_mode 4 (some .int) :: ([.fieldLink RX9 65 "TwinFinderModel" "documents" "I", .fieldLink RX9 51 "TwinFinderModel" "sort" "I", .fieldLink RX9 54 "TwinFinderModel" "wide" "I", .fieldLink RX9 68 "TwinFinderModel" "came" "I", .fieldLink RX9 24 "TwinFinderModel" "numbers" "I", .fieldLink RX9 41 "TwinFinderModel" "bytes" "I", .fieldLink RX9 84 "TwinFinderModel" "stale" "Z", .methodLink RX9 92 yX9_throwsIf, .instanceMethod yX9_throwsIf, .selects RX9 yX9_throwsIf yX9_throwsIf, .initialized RX9, .code yX9_throwsIf cX9_throwsIf 2 (some .boolean), .fieldLink RX9 1 "TwinFinderModel" "thrown" "I"] ++ wsX90)
def wsX9_init_r1 : List Cond := [Cond.methodLink RX9 96 objectInit, Cond.instanceMethod objectInit, Cond.code objectInit ⟨#[0xb1]⟩ 1 none, Cond.arrayClass .byte, Cond.fieldLink RX9 14 "TwinFinderModel" "tape" "[B", Cond.fieldLink RX9 21 "TwinFinderModel" "plain" "[B", Cond.constant RX9 101 (50800), Cond.fieldLink RX9 31 "TwinFinderModel" "letters" "[B", Cond.arrayClass .int, Cond.fieldLink RX9 34 "TwinFinderModel" "from" "[I", Cond.fieldLink RX9 27 "TwinFinderModel" "size" "[I", Cond.fieldLink RX9 54 "TwinFinderModel" "wide" "I", Cond.fieldLink RX9 48 "TwinFinderModel" "fresh" "[I", Cond.fieldLink RX9 81 "TwinFinderModel" "number" "[I", Cond.fieldLink RX9 78 "TwinFinderModel" "many" "[I", Cond.constant RX9 102 (38400), Cond.fieldLink RX9 75 "TwinFinderModel" "set" "[I", Cond.fieldLink RX9 103 "TwinFinderModel" "times" "[I", Cond.fieldLink RX9 106 "TwinFinderModel" "more" "[I", Cond.fieldLink RX9 109 "TwinFinderModel" "whose" "[I", Cond.fieldLink RX9 112 "TwinFinderModel" "one" "[I", Cond.fieldLink RX9 115 "TwinFinderModel" "other" "[I", Cond.fieldLink RX9 118 "TwinFinderModel" "least" "[I", Cond.fieldLink RX9 121 "TwinFinderModel" "bands" "I"]
def wsX9_init_r2 : List Cond := [Cond.fieldLink RX9 124 "TwinFinderModel" "rows" "I", Cond.fieldLink RX9 127 "TwinFinderModel" "p" "I", Cond.fieldLink RX9 130 "TwinFinderModel" "q" "I", Cond.fieldLink RX9 133 "TwinFinderModel" "family" "[I"]
def wsX9_init : List Cond := .code yX9_init cX9_init 2 none :: ((wsX9_init_r1 ++ wsX9_init_r2) ++ wsX90)
def wsX9_isNone : List Cond := .code yX9_isNone cX9_isNone 3 (some .boolean) :: ([])
def wsX9_tell : List Cond := .code yX9_tell cX9_tell 6 (some .boolean) :: ([.fieldLink RX9 1 "TwinFinderModel" "thrown" "I", .constant RX9 140 (65520), .fieldLink RX9 103 "TwinFinderModel" "times" "[I", .fieldLink RX9 106 "TwinFinderModel" "more" "[I", .fieldLink RX9 141 "TwinFinderModel" "exchanges" "I", .fieldLink RX9 109 "TwinFinderModel" "whose" "[I", .fieldLink RX9 112 "TwinFinderModel" "one" "[I", .fieldLink RX9 115 "TwinFinderModel" "other" "[I", .fieldLink RX9 84 "TwinFinderModel" "stale" "Z", .methodLink RX9 136 yX9_isNone, .static yX9_isNone, .initialized RX9, .code yX9_isNone cX9_isNone 3 (some .boolean)] ++ wsX90)
def wsX9_exchange : List Cond := .code yX9_exchange cX9_exchange 4 (some .int) :: ([.fieldLink RX9 1 "TwinFinderModel" "thrown" "I", .constant RX9 140 (65520), .fieldLink RX9 141 "TwinFinderModel" "exchanges" "I", .fieldLink RX9 109 "TwinFinderModel" "whose" "[I", .fieldLink RX9 112 "TwinFinderModel" "one" "[I", .fieldLink RX9 115 "TwinFinderModel" "other" "[I", .fieldLink RX9 84 "TwinFinderModel" "stale" "Z", .methodLink RX9 136 yX9_isNone, .static yX9_isNone, .initialized RX9, .code yX9_isNone cX9_isNone 3 (some .boolean)] ++ wsX90)
def wsX9_imageOf : List Cond := .code yX9_imageOf cX9_imageOf 5 (some .int) :: ([.fieldLink RX9 141 "TwinFinderModel" "exchanges" "I", .fieldLink RX9 109 "TwinFinderModel" "whose" "[I", .fieldLink RX9 112 "TwinFinderModel" "one" "[I", .fieldLink RX9 115 "TwinFinderModel" "other" "[I", .fieldLink RX9 103 "TwinFinderModel" "times" "[I", .fieldLink RX9 106 "TwinFinderModel" "more" "[I", .constantLong RX9 144 (65521)] ++ wsX90)
def wsX9_image : List Cond := .code yX9_image cX9_image 3 (some .int) :: ([.fieldLink RX9 1 "TwinFinderModel" "thrown" "I", .constant RX9 140 (65520), .methodLink RX9 136 yX9_isNone, .static yX9_isNone, .initialized RX9, .code yX9_isNone cX9_isNone 3 (some .boolean), .methodLink RX9 146 yX9_imageOf, .instanceMethod yX9_imageOf, .selects RX9 yX9_imageOf yX9_imageOf, .code yX9_imageOf cX9_imageOf 5 (some .int), .fieldLink RX9 141 "TwinFinderModel" "exchanges" "I", .fieldLink RX9 109 "TwinFinderModel" "whose" "[I", .fieldLink RX9 112 "TwinFinderModel" "one" "[I", .fieldLink RX9 115 "TwinFinderModel" "other" "[I", .fieldLink RX9 103 "TwinFinderModel" "times" "[I", .fieldLink RX9 106 "TwinFinderModel" "more" "[I", .constantLong RX9 144 (65521)] ++ wsX90)
def wsX9_sign : List Cond := .code yX9_sign cX9_sign 8 none :: ([.fieldLink RX9 84 "TwinFinderModel" "stale" "Z", .fieldLink RX9 141 "TwinFinderModel" "exchanges" "I", .fieldLink RX9 109 "TwinFinderModel" "whose" "[I", .fieldLink RX9 65 "TwinFinderModel" "documents" "I", .constant RX9 149 (65521), .fieldLink RX9 78 "TwinFinderModel" "many" "[I", .fieldLink RX9 75 "TwinFinderModel" "set" "[I", .fieldLink RX9 103 "TwinFinderModel" "times" "[I", .fieldLink RX9 106 "TwinFinderModel" "more" "[I", .constantLong RX9 144 (65521), .fieldLink RX9 118 "TwinFinderModel" "least" "[I", .methodLink RX9 146 yX9_imageOf, .instanceMethod yX9_imageOf, .selects RX9 yX9_imageOf yX9_imageOf, .initialized RX9, .code yX9_imageOf cX9_imageOf 5 (some .int), .fieldLink RX9 112 "TwinFinderModel" "one" "[I", .fieldLink RX9 115 "TwinFinderModel" "other" "[I"] ++ wsX90)
def wsX9_bands : List Cond := .code yX9_bands cX9_bands 3 (some .boolean) :: ([.fieldLink RX9 1 "TwinFinderModel" "thrown" "I", .fieldLink RX9 121 "TwinFinderModel" "bands" "I", .fieldLink RX9 124 "TwinFinderModel" "rows" "I"] ++ wsX90)
def wsX9_threshold : List Cond := .code yX9_threshold cX9_threshold 3 (some .boolean) :: ([.fieldLink RX9 1 "TwinFinderModel" "thrown" "I", .fieldLink RX9 127 "TwinFinderModel" "p" "I", .fieldLink RX9 130 "TwinFinderModel" "q" "I"] ++ wsX90)
def wsX9_common : List Cond := .code yX9_common cX9_common 6 (some .int) :: ([.fieldLink RX9 78 "TwinFinderModel" "many" "[I", .fieldLink RX9 75 "TwinFinderModel" "set" "[I"] ++ wsX90)
def wsX9_band : List Cond := .code yX9_band cX9_band 6 (some .int) :: ([.fieldLink RX9 78 "TwinFinderModel" "many" "[I", .fieldLink RX9 121 "TwinFinderModel" "bands" "I", .fieldLink RX9 124 "TwinFinderModel" "rows" "I", .fieldLink RX9 118 "TwinFinderModel" "least" "[I", .methodLink RX9 150 yX9_sign, .instanceMethod yX9_sign, .selects RX9 yX9_sign yX9_sign, .initialized RX9, .code yX9_sign cX9_sign 8 none, .fieldLink RX9 84 "TwinFinderModel" "stale" "Z", .fieldLink RX9 141 "TwinFinderModel" "exchanges" "I", .fieldLink RX9 109 "TwinFinderModel" "whose" "[I", .fieldLink RX9 65 "TwinFinderModel" "documents" "I", .constant RX9 149 (65521), .fieldLink RX9 75 "TwinFinderModel" "set" "[I", .fieldLink RX9 103 "TwinFinderModel" "times" "[I", .fieldLink RX9 106 "TwinFinderModel" "more" "[I", .constantLong RX9 144 (65521), .methodLink RX9 146 yX9_imageOf, .instanceMethod yX9_imageOf, .selects RX9 yX9_imageOf yX9_imageOf, .code yX9_imageOf cX9_imageOf 5 (some .int), .fieldLink RX9 112 "TwinFinderModel" "one" "[I", .fieldLink RX9 115 "TwinFinderModel" "other" "[I"] ++ wsX90)
def wsX9_areTwins_r1 : List Cond := [Cond.fieldLink RX9 130 "TwinFinderModel" "q" "I", Cond.fieldLink RX9 78 "TwinFinderModel" "many" "[I", Cond.fieldLink RX9 127 "TwinFinderModel" "p" "I", Cond.methodLink RX9 153 yX9_band, Cond.instanceMethod yX9_band, Cond.selects RX9 yX9_band yX9_band, Cond.initialized RX9, Cond.code yX9_band cX9_band 6 (some .int), Cond.fieldLink RX9 121 "TwinFinderModel" "bands" "I", Cond.fieldLink RX9 124 "TwinFinderModel" "rows" "I", Cond.fieldLink RX9 118 "TwinFinderModel" "least" "[I", Cond.methodLink RX9 150 yX9_sign, Cond.instanceMethod yX9_sign, Cond.selects RX9 yX9_sign yX9_sign, Cond.code yX9_sign cX9_sign 8 none, Cond.fieldLink RX9 84 "TwinFinderModel" "stale" "Z", Cond.fieldLink RX9 141 "TwinFinderModel" "exchanges" "I", Cond.fieldLink RX9 109 "TwinFinderModel" "whose" "[I", Cond.fieldLink RX9 65 "TwinFinderModel" "documents" "I", Cond.constant RX9 149 (65521), Cond.fieldLink RX9 75 "TwinFinderModel" "set" "[I", Cond.fieldLink RX9 103 "TwinFinderModel" "times" "[I", Cond.fieldLink RX9 106 "TwinFinderModel" "more" "[I", Cond.constantLong RX9 144 (65521)]
def wsX9_areTwins_r2 : List Cond := [Cond.methodLink RX9 146 yX9_imageOf, Cond.instanceMethod yX9_imageOf, Cond.selects RX9 yX9_imageOf yX9_imageOf, Cond.code yX9_imageOf cX9_imageOf 5 (some .int), Cond.fieldLink RX9 112 "TwinFinderModel" "one" "[I", Cond.fieldLink RX9 115 "TwinFinderModel" "other" "[I", Cond.methodLink RX9 156 yX9_common, Cond.instanceMethod yX9_common, Cond.selects RX9 yX9_common yX9_common, Cond.code yX9_common cX9_common 6 (some .int)]
def wsX9_areTwins : List Cond := .code yX9_areTwins cX9_areTwins 5 (some .boolean) :: ((wsX9_areTwins_r1 ++ wsX9_areTwins_r2) ++ wsX90)
def wsX9_families_r1 : List Cond := [Cond.fieldLink RX9 65 "TwinFinderModel" "documents" "I", Cond.fieldLink RX9 133 "TwinFinderModel" "family" "[I", Cond.methodLink RX9 159 yX9_areTwins, Cond.instanceMethod yX9_areTwins, Cond.selects RX9 yX9_areTwins yX9_areTwins, Cond.initialized RX9, Cond.code yX9_areTwins cX9_areTwins 5 (some .boolean), Cond.fieldLink RX9 130 "TwinFinderModel" "q" "I", Cond.fieldLink RX9 78 "TwinFinderModel" "many" "[I", Cond.fieldLink RX9 127 "TwinFinderModel" "p" "I", Cond.methodLink RX9 153 yX9_band, Cond.instanceMethod yX9_band, Cond.selects RX9 yX9_band yX9_band, Cond.code yX9_band cX9_band 6 (some .int), Cond.fieldLink RX9 121 "TwinFinderModel" "bands" "I", Cond.fieldLink RX9 124 "TwinFinderModel" "rows" "I", Cond.fieldLink RX9 118 "TwinFinderModel" "least" "[I", Cond.methodLink RX9 150 yX9_sign, Cond.instanceMethod yX9_sign, Cond.selects RX9 yX9_sign yX9_sign, Cond.code yX9_sign cX9_sign 8 none, Cond.fieldLink RX9 84 "TwinFinderModel" "stale" "Z", Cond.fieldLink RX9 141 "TwinFinderModel" "exchanges" "I", Cond.fieldLink RX9 109 "TwinFinderModel" "whose" "[I"]
def wsX9_families_r2 : List Cond := [Cond.constant RX9 149 (65521), Cond.fieldLink RX9 75 "TwinFinderModel" "set" "[I", Cond.fieldLink RX9 103 "TwinFinderModel" "times" "[I", Cond.fieldLink RX9 106 "TwinFinderModel" "more" "[I", Cond.constantLong RX9 144 (65521), Cond.methodLink RX9 146 yX9_imageOf, Cond.instanceMethod yX9_imageOf, Cond.selects RX9 yX9_imageOf yX9_imageOf, Cond.code yX9_imageOf cX9_imageOf 5 (some .int), Cond.fieldLink RX9 112 "TwinFinderModel" "one" "[I", Cond.fieldLink RX9 115 "TwinFinderModel" "other" "[I", Cond.methodLink RX9 156 yX9_common, Cond.instanceMethod yX9_common, Cond.selects RX9 yX9_common yX9_common, Cond.code yX9_common cX9_common 6 (some .int)]
def wsX9_families : List Cond := .code yX9_families cX9_families 7 none :: ((wsX9_families_r1 ++ wsX9_families_r2) ++ wsX90)
def wsX9_inFamily : List Cond := .code yX9_inFamily cX9_inFamily 4 (some .int) :: ([.fieldLink RX9 65 "TwinFinderModel" "documents" "I", .fieldLink RX9 133 "TwinFinderModel" "family" "[I"] ++ wsX90)
def wsX9_document_r1 : List Cond := [Cond.fieldLink RX9 78 "TwinFinderModel" "many" "[I", Cond.fieldLink RX9 65 "TwinFinderModel" "documents" "I", Cond.fieldLink RX9 81 "TwinFinderModel" "number" "[I", Cond.fieldLink RX9 133 "TwinFinderModel" "family" "[I", Cond.methodLink RX9 88 yX9_slot, Cond.instanceMethod yX9_slot, Cond.selects RX9 yX9_slot yX9_slot, Cond.initialized RX9, Cond.code yX9_slot cX9_slot 3 (some .int), Cond.methodLink RX9 92 yX9_throwsIf, Cond.instanceMethod yX9_throwsIf, Cond.selects RX9 yX9_throwsIf yX9_throwsIf, Cond.code yX9_throwsIf cX9_throwsIf 2 (some .boolean), Cond.fieldLink RX9 1 "TwinFinderModel" "thrown" "I", Cond.methodLink RX9 159 yX9_areTwins, Cond.instanceMethod yX9_areTwins, Cond.selects RX9 yX9_areTwins yX9_areTwins, Cond.code yX9_areTwins cX9_areTwins 5 (some .boolean), Cond.fieldLink RX9 130 "TwinFinderModel" "q" "I", Cond.fieldLink RX9 127 "TwinFinderModel" "p" "I", Cond.methodLink RX9 153 yX9_band, Cond.instanceMethod yX9_band, Cond.selects RX9 yX9_band yX9_band, Cond.code yX9_band cX9_band 6 (some .int)]
def wsX9_document_r2 : List Cond := [Cond.fieldLink RX9 121 "TwinFinderModel" "bands" "I", Cond.fieldLink RX9 124 "TwinFinderModel" "rows" "I", Cond.fieldLink RX9 118 "TwinFinderModel" "least" "[I", Cond.methodLink RX9 150 yX9_sign, Cond.instanceMethod yX9_sign, Cond.selects RX9 yX9_sign yX9_sign, Cond.code yX9_sign cX9_sign 8 none, Cond.fieldLink RX9 84 "TwinFinderModel" "stale" "Z", Cond.fieldLink RX9 141 "TwinFinderModel" "exchanges" "I", Cond.fieldLink RX9 109 "TwinFinderModel" "whose" "[I", Cond.constant RX9 149 (65521), Cond.fieldLink RX9 75 "TwinFinderModel" "set" "[I", Cond.fieldLink RX9 103 "TwinFinderModel" "times" "[I", Cond.fieldLink RX9 106 "TwinFinderModel" "more" "[I", Cond.constantLong RX9 144 (65521), Cond.methodLink RX9 146 yX9_imageOf, Cond.instanceMethod yX9_imageOf, Cond.selects RX9 yX9_imageOf yX9_imageOf, Cond.code yX9_imageOf cX9_imageOf 5 (some .int), Cond.fieldLink RX9 112 "TwinFinderModel" "one" "[I", Cond.fieldLink RX9 115 "TwinFinderModel" "other" "[I", Cond.methodLink RX9 156 yX9_common, Cond.instanceMethod yX9_common, Cond.selects RX9 yX9_common yX9_common]
def wsX9_document_r3 : List Cond := [Cond.code yX9_common cX9_common 6 (some .int), Cond.methodLink RX9 162 yX9_families, Cond.instanceMethod yX9_families, Cond.selects RX9 yX9_families yX9_families, Cond.code yX9_families cX9_families 7 none, Cond.methodLink RX9 165 yX9_inFamily, Cond.instanceMethod yX9_inFamily, Cond.selects RX9 yX9_inFamily yX9_inFamily, Cond.code yX9_inFamily cX9_inFamily 4 (some .int)]
def wsX9_document : List Cond := .code yX9_document cX9_document 6 (some .int) :: ((wsX9_document_r1 ++ (wsX9_document_r2 ++ wsX9_document_r3)) ++ wsX90)
def wsX9_shingle : List Cond := .code yX9_shingle cX9_shingle 4 (some .int) :: ([.fieldLink RX9 78 "TwinFinderModel" "many" "[I", .fieldLink RX9 75 "TwinFinderModel" "set" "[I", .methodLink RX9 88 yX9_slot, .instanceMethod yX9_slot, .selects RX9 yX9_slot yX9_slot, .initialized RX9, .code yX9_slot cX9_slot 3 (some .int), .fieldLink RX9 65 "TwinFinderModel" "documents" "I", .fieldLink RX9 81 "TwinFinderModel" "number" "[I", .methodLink RX9 92 yX9_throwsIf, .instanceMethod yX9_throwsIf, .selects RX9 yX9_throwsIf yX9_throwsIf, .code yX9_throwsIf cX9_throwsIf 2 (some .boolean), .fieldLink RX9 1 "TwinFinderModel" "thrown" "I"] ++ wsX90)
def wsX9_letter : List Cond := .code yX9_letter cX9_letter 3 (some .int) :: ([.fieldLink RX9 1 "TwinFinderModel" "thrown" "I", .fieldLink RX9 24 "TwinFinderModel" "numbers" "I", .fieldLink RX9 27 "TwinFinderModel" "size" "[I", .fieldLink RX9 31 "TwinFinderModel" "letters" "[B", .fieldLink RX9 34 "TwinFinderModel" "from" "[I"] ++ wsX90)
def wsX9_signature_r1 : List Cond := [Cond.fieldLink RX9 118 "TwinFinderModel" "least" "[I", Cond.methodLink RX9 88 yX9_slot, Cond.instanceMethod yX9_slot, Cond.selects RX9 yX9_slot yX9_slot, Cond.initialized RX9, Cond.code yX9_slot cX9_slot 3 (some .int), Cond.fieldLink RX9 65 "TwinFinderModel" "documents" "I", Cond.fieldLink RX9 81 "TwinFinderModel" "number" "[I", Cond.methodLink RX9 136 yX9_isNone, Cond.static yX9_isNone, Cond.code yX9_isNone cX9_isNone 3 (some .boolean), Cond.methodLink RX9 92 yX9_throwsIf, Cond.instanceMethod yX9_throwsIf, Cond.selects RX9 yX9_throwsIf yX9_throwsIf, Cond.code yX9_throwsIf cX9_throwsIf 2 (some .boolean), Cond.fieldLink RX9 1 "TwinFinderModel" "thrown" "I", Cond.methodLink RX9 150 yX9_sign, Cond.instanceMethod yX9_sign, Cond.selects RX9 yX9_sign yX9_sign, Cond.code yX9_sign cX9_sign 8 none, Cond.fieldLink RX9 84 "TwinFinderModel" "stale" "Z", Cond.fieldLink RX9 141 "TwinFinderModel" "exchanges" "I", Cond.fieldLink RX9 109 "TwinFinderModel" "whose" "[I", Cond.constant RX9 149 (65521)]
def wsX9_signature_r2 : List Cond := [Cond.fieldLink RX9 78 "TwinFinderModel" "many" "[I", Cond.fieldLink RX9 75 "TwinFinderModel" "set" "[I", Cond.fieldLink RX9 103 "TwinFinderModel" "times" "[I", Cond.fieldLink RX9 106 "TwinFinderModel" "more" "[I", Cond.constantLong RX9 144 (65521), Cond.methodLink RX9 146 yX9_imageOf, Cond.instanceMethod yX9_imageOf, Cond.selects RX9 yX9_imageOf yX9_imageOf, Cond.code yX9_imageOf cX9_imageOf 5 (some .int), Cond.fieldLink RX9 112 "TwinFinderModel" "one" "[I", Cond.fieldLink RX9 115 "TwinFinderModel" "other" "[I"]
def wsX9_signature : List Cond := .code yX9_signature cX9_signature 4 (some .int) :: ((wsX9_signature_r1 ++ wsX9_signature_r2) ++ wsX90)
def wsX9_both_r1 : List Cond := [Cond.fieldLink RX9 78 "TwinFinderModel" "many" "[I", Cond.fieldLink RX9 121 "TwinFinderModel" "bands" "I", Cond.fieldLink RX9 124 "TwinFinderModel" "rows" "I", Cond.fieldLink RX9 118 "TwinFinderModel" "least" "[I", Cond.methodLink RX9 88 yX9_slot, Cond.instanceMethod yX9_slot, Cond.selects RX9 yX9_slot yX9_slot, Cond.initialized RX9, Cond.code yX9_slot cX9_slot 3 (some .int), Cond.fieldLink RX9 65 "TwinFinderModel" "documents" "I", Cond.fieldLink RX9 81 "TwinFinderModel" "number" "[I", Cond.methodLink RX9 92 yX9_throwsIf, Cond.instanceMethod yX9_throwsIf, Cond.selects RX9 yX9_throwsIf yX9_throwsIf, Cond.code yX9_throwsIf cX9_throwsIf 2 (some .boolean), Cond.fieldLink RX9 1 "TwinFinderModel" "thrown" "I", Cond.methodLink RX9 156 yX9_common, Cond.instanceMethod yX9_common, Cond.selects RX9 yX9_common yX9_common, Cond.code yX9_common cX9_common 6 (some .int), Cond.fieldLink RX9 75 "TwinFinderModel" "set" "[I", Cond.methodLink RX9 153 yX9_band, Cond.instanceMethod yX9_band, Cond.selects RX9 yX9_band yX9_band]
def wsX9_both_r2 : List Cond := [Cond.code yX9_band cX9_band 6 (some .int), Cond.methodLink RX9 150 yX9_sign, Cond.instanceMethod yX9_sign, Cond.selects RX9 yX9_sign yX9_sign, Cond.code yX9_sign cX9_sign 8 none, Cond.fieldLink RX9 84 "TwinFinderModel" "stale" "Z", Cond.fieldLink RX9 141 "TwinFinderModel" "exchanges" "I", Cond.fieldLink RX9 109 "TwinFinderModel" "whose" "[I", Cond.constant RX9 149 (65521), Cond.fieldLink RX9 103 "TwinFinderModel" "times" "[I", Cond.fieldLink RX9 106 "TwinFinderModel" "more" "[I", Cond.constantLong RX9 144 (65521), Cond.methodLink RX9 146 yX9_imageOf, Cond.instanceMethod yX9_imageOf, Cond.selects RX9 yX9_imageOf yX9_imageOf, Cond.code yX9_imageOf cX9_imageOf 5 (some .int), Cond.fieldLink RX9 112 "TwinFinderModel" "one" "[I", Cond.fieldLink RX9 115 "TwinFinderModel" "other" "[I", Cond.methodLink RX9 159 yX9_areTwins, Cond.instanceMethod yX9_areTwins, Cond.selects RX9 yX9_areTwins yX9_areTwins, Cond.code yX9_areTwins cX9_areTwins 5 (some .boolean), Cond.fieldLink RX9 130 "TwinFinderModel" "q" "I", Cond.fieldLink RX9 127 "TwinFinderModel" "p" "I"]
def wsX9_both : List Cond := .code yX9_both cX9_both 8 (some .int) :: ((wsX9_both_r1 ++ wsX9_both_r2) ++ wsX90)
def wsX9_isPair_r1 : List Cond := [Cond.methodLink RX9 153 yX9_band, Cond.instanceMethod yX9_band, Cond.selects RX9 yX9_band yX9_band, Cond.initialized RX9, Cond.code yX9_band cX9_band 6 (some .int), Cond.fieldLink RX9 78 "TwinFinderModel" "many" "[I", Cond.fieldLink RX9 121 "TwinFinderModel" "bands" "I", Cond.fieldLink RX9 124 "TwinFinderModel" "rows" "I", Cond.fieldLink RX9 118 "TwinFinderModel" "least" "[I", Cond.methodLink RX9 150 yX9_sign, Cond.instanceMethod yX9_sign, Cond.selects RX9 yX9_sign yX9_sign, Cond.code yX9_sign cX9_sign 8 none, Cond.fieldLink RX9 84 "TwinFinderModel" "stale" "Z", Cond.fieldLink RX9 141 "TwinFinderModel" "exchanges" "I", Cond.fieldLink RX9 109 "TwinFinderModel" "whose" "[I", Cond.fieldLink RX9 65 "TwinFinderModel" "documents" "I", Cond.constant RX9 149 (65521), Cond.fieldLink RX9 75 "TwinFinderModel" "set" "[I", Cond.fieldLink RX9 103 "TwinFinderModel" "times" "[I", Cond.fieldLink RX9 106 "TwinFinderModel" "more" "[I", Cond.constantLong RX9 144 (65521), Cond.methodLink RX9 146 yX9_imageOf, Cond.instanceMethod yX9_imageOf]
def wsX9_isPair_r2 : List Cond := [Cond.selects RX9 yX9_imageOf yX9_imageOf, Cond.code yX9_imageOf cX9_imageOf 5 (some .int), Cond.fieldLink RX9 112 "TwinFinderModel" "one" "[I", Cond.fieldLink RX9 115 "TwinFinderModel" "other" "[I", Cond.methodLink RX9 159 yX9_areTwins, Cond.instanceMethod yX9_areTwins, Cond.selects RX9 yX9_areTwins yX9_areTwins, Cond.code yX9_areTwins cX9_areTwins 5 (some .boolean), Cond.fieldLink RX9 130 "TwinFinderModel" "q" "I", Cond.fieldLink RX9 127 "TwinFinderModel" "p" "I", Cond.methodLink RX9 156 yX9_common, Cond.instanceMethod yX9_common, Cond.selects RX9 yX9_common yX9_common, Cond.code yX9_common cX9_common 6 (some .int)]
def wsX9_isPair : List Cond := .code yX9_isPair cX9_isPair 4 (some .boolean) :: ((wsX9_isPair_r1 ++ wsX9_isPair_r2) ++ wsX90)
def wsX9_isTold : List Cond := .code yX9_isTold cX9_isTold 3 (some .boolean) :: ([.fieldLink RX9 133 "TwinFinderModel" "family" "[I", .methodLink RX9 165 yX9_inFamily, .instanceMethod yX9_inFamily, .selects RX9 yX9_inFamily yX9_inFamily, .initialized RX9, .code yX9_inFamily cX9_inFamily 4 (some .int), .fieldLink RX9 65 "TwinFinderModel" "documents" "I"] ++ wsX90)
def wsX9_pairs_r1 : List Cond := [Cond.fieldLink RX9 1 "TwinFinderModel" "thrown" "I", Cond.fieldLink RX9 65 "TwinFinderModel" "documents" "I", Cond.methodLink RX9 162 yX9_families, Cond.instanceMethod yX9_families, Cond.selects RX9 yX9_families yX9_families, Cond.initialized RX9, Cond.code yX9_families cX9_families 7 none, Cond.fieldLink RX9 133 "TwinFinderModel" "family" "[I", Cond.methodLink RX9 159 yX9_areTwins, Cond.instanceMethod yX9_areTwins, Cond.selects RX9 yX9_areTwins yX9_areTwins, Cond.code yX9_areTwins cX9_areTwins 5 (some .boolean), Cond.fieldLink RX9 130 "TwinFinderModel" "q" "I", Cond.fieldLink RX9 78 "TwinFinderModel" "many" "[I", Cond.fieldLink RX9 127 "TwinFinderModel" "p" "I", Cond.methodLink RX9 153 yX9_band, Cond.instanceMethod yX9_band, Cond.selects RX9 yX9_band yX9_band, Cond.code yX9_band cX9_band 6 (some .int), Cond.fieldLink RX9 121 "TwinFinderModel" "bands" "I", Cond.fieldLink RX9 124 "TwinFinderModel" "rows" "I", Cond.fieldLink RX9 118 "TwinFinderModel" "least" "[I", Cond.methodLink RX9 150 yX9_sign, Cond.instanceMethod yX9_sign]
def wsX9_pairs_r2 : List Cond := [Cond.selects RX9 yX9_sign yX9_sign, Cond.code yX9_sign cX9_sign 8 none, Cond.fieldLink RX9 84 "TwinFinderModel" "stale" "Z", Cond.fieldLink RX9 141 "TwinFinderModel" "exchanges" "I", Cond.fieldLink RX9 109 "TwinFinderModel" "whose" "[I", Cond.constant RX9 149 (65521), Cond.fieldLink RX9 75 "TwinFinderModel" "set" "[I", Cond.fieldLink RX9 103 "TwinFinderModel" "times" "[I", Cond.fieldLink RX9 106 "TwinFinderModel" "more" "[I", Cond.constantLong RX9 144 (65521), Cond.methodLink RX9 146 yX9_imageOf, Cond.instanceMethod yX9_imageOf, Cond.selects RX9 yX9_imageOf yX9_imageOf, Cond.code yX9_imageOf cX9_imageOf 5 (some .int), Cond.fieldLink RX9 112 "TwinFinderModel" "one" "[I", Cond.fieldLink RX9 115 "TwinFinderModel" "other" "[I", Cond.methodLink RX9 156 yX9_common, Cond.instanceMethod yX9_common, Cond.selects RX9 yX9_common yX9_common, Cond.code yX9_common cX9_common 6 (some .int), Cond.methodLink RX9 168 yX9_isTold, Cond.instanceMethod yX9_isTold, Cond.selects RX9 yX9_isTold yX9_isTold, Cond.code yX9_isTold cX9_isTold 3 (some .boolean)]
def wsX9_pairs_r3 : List Cond := [Cond.methodLink RX9 165 yX9_inFamily, Cond.instanceMethod yX9_inFamily, Cond.selects RX9 yX9_inFamily yX9_inFamily, Cond.code yX9_inFamily cX9_inFamily 4 (some .int), Cond.methodLink RX9 171 yX9_isPair, Cond.instanceMethod yX9_isPair, Cond.selects RX9 yX9_isPair yX9_isPair, Cond.code yX9_isPair cX9_isPair 4 (some .boolean)]
def wsX9_pairs : List Cond := .code yX9_pairs cX9_pairs 5 (some .int) :: ((wsX9_pairs_r1 ++ (wsX9_pairs_r2 ++ wsX9_pairs_r3)) ++ wsX90)
def wsX9_pair_r1 : List Cond := [Cond.fieldLink RX9 1 "TwinFinderModel" "thrown" "I", Cond.fieldLink RX9 65 "TwinFinderModel" "documents" "I", Cond.fieldLink RX9 81 "TwinFinderModel" "number" "[I", Cond.methodLink RX9 162 yX9_families, Cond.instanceMethod yX9_families, Cond.selects RX9 yX9_families yX9_families, Cond.initialized RX9, Cond.code yX9_families cX9_families 7 none, Cond.fieldLink RX9 133 "TwinFinderModel" "family" "[I", Cond.methodLink RX9 159 yX9_areTwins, Cond.instanceMethod yX9_areTwins, Cond.selects RX9 yX9_areTwins yX9_areTwins, Cond.code yX9_areTwins cX9_areTwins 5 (some .boolean), Cond.fieldLink RX9 130 "TwinFinderModel" "q" "I", Cond.fieldLink RX9 78 "TwinFinderModel" "many" "[I", Cond.fieldLink RX9 127 "TwinFinderModel" "p" "I", Cond.methodLink RX9 153 yX9_band, Cond.instanceMethod yX9_band, Cond.selects RX9 yX9_band yX9_band, Cond.code yX9_band cX9_band 6 (some .int), Cond.fieldLink RX9 121 "TwinFinderModel" "bands" "I", Cond.fieldLink RX9 124 "TwinFinderModel" "rows" "I", Cond.fieldLink RX9 118 "TwinFinderModel" "least" "[I", Cond.methodLink RX9 150 yX9_sign]
def wsX9_pair_r2 : List Cond := [Cond.instanceMethod yX9_sign, Cond.selects RX9 yX9_sign yX9_sign, Cond.code yX9_sign cX9_sign 8 none, Cond.fieldLink RX9 84 "TwinFinderModel" "stale" "Z", Cond.fieldLink RX9 141 "TwinFinderModel" "exchanges" "I", Cond.fieldLink RX9 109 "TwinFinderModel" "whose" "[I", Cond.constant RX9 149 (65521), Cond.fieldLink RX9 75 "TwinFinderModel" "set" "[I", Cond.fieldLink RX9 103 "TwinFinderModel" "times" "[I", Cond.fieldLink RX9 106 "TwinFinderModel" "more" "[I", Cond.constantLong RX9 144 (65521), Cond.methodLink RX9 146 yX9_imageOf, Cond.instanceMethod yX9_imageOf, Cond.selects RX9 yX9_imageOf yX9_imageOf, Cond.code yX9_imageOf cX9_imageOf 5 (some .int), Cond.fieldLink RX9 112 "TwinFinderModel" "one" "[I", Cond.fieldLink RX9 115 "TwinFinderModel" "other" "[I", Cond.methodLink RX9 156 yX9_common, Cond.instanceMethod yX9_common, Cond.selects RX9 yX9_common yX9_common, Cond.code yX9_common cX9_common 6 (some .int), Cond.methodLink RX9 168 yX9_isTold, Cond.instanceMethod yX9_isTold, Cond.selects RX9 yX9_isTold yX9_isTold]
def wsX9_pair_r3 : List Cond := [Cond.code yX9_isTold cX9_isTold 3 (some .boolean), Cond.methodLink RX9 165 yX9_inFamily, Cond.instanceMethod yX9_inFamily, Cond.selects RX9 yX9_inFamily yX9_inFamily, Cond.code yX9_inFamily cX9_inFamily 4 (some .int), Cond.methodLink RX9 171 yX9_isPair, Cond.instanceMethod yX9_isPair, Cond.selects RX9 yX9_isPair yX9_isPair, Cond.code yX9_isPair cX9_isPair 4 (some .boolean)]
def wsX9_pair : List Cond := .code yX9_pair cX9_pair 7 (some .int) :: ((wsX9_pair_r1 ++ (wsX9_pair_r2 ++ wsX9_pair_r3)) ++ wsX90)
def wsX9_isNearer : List Cond := .code yX9_isNearer cX9_isNearer 12 (some .boolean) :: ([.fieldLink RX9 78 "TwinFinderModel" "many" "[I", .methodLink RX9 156 yX9_common, .instanceMethod yX9_common, .selects RX9 yX9_common yX9_common, .initialized RX9, .code yX9_common cX9_common 6 (some .int), .fieldLink RX9 75 "TwinFinderModel" "set" "[I"] ++ wsX90)
def wsX9_nearest : List Cond := .code yX9_nearest cX9_nearest 7 (some .int) :: ([.fieldLink RX9 65 "TwinFinderModel" "documents" "I", .fieldLink RX9 81 "TwinFinderModel" "number" "[I", .methodLink RX9 88 yX9_slot, .instanceMethod yX9_slot, .selects RX9 yX9_slot yX9_slot, .initialized RX9, .code yX9_slot cX9_slot 3 (some .int), .methodLink RX9 92 yX9_throwsIf, .instanceMethod yX9_throwsIf, .selects RX9 yX9_throwsIf yX9_throwsIf, .code yX9_throwsIf cX9_throwsIf 2 (some .boolean), .fieldLink RX9 1 "TwinFinderModel" "thrown" "I", .methodLink RX9 174 yX9_isNearer, .instanceMethod yX9_isNearer, .selects RX9 yX9_isNearer yX9_isNearer, .code yX9_isNearer cX9_isNearer 12 (some .boolean), .fieldLink RX9 78 "TwinFinderModel" "many" "[I", .methodLink RX9 156 yX9_common, .instanceMethod yX9_common, .selects RX9 yX9_common yX9_common, .code yX9_common cX9_common 6 (some .int), .fieldLink RX9 75 "TwinFinderModel" "set" "[I"] ++ wsX90)
def wsX9_count : List Cond := .code yX9_count cX9_count 2 (some .int) :: ([.fieldLink RX9 1 "TwinFinderModel" "thrown" "I", .fieldLink RX9 7 "TwinFinderModel" "length" "I", .fieldLink RX9 18 "TwinFinderModel" "plainSize" "I", .fieldLink RX9 65 "TwinFinderModel" "documents" "I", .fieldLink RX9 68 "TwinFinderModel" "came" "I", .fieldLink RX9 24 "TwinFinderModel" "numbers" "I", .fieldLink RX9 41 "TwinFinderModel" "bytes" "I", .fieldLink RX9 141 "TwinFinderModel" "exchanges" "I", .fieldLink RX9 121 "TwinFinderModel" "bands" "I", .fieldLink RX9 124 "TwinFinderModel" "rows" "I", .fieldLink RX9 127 "TwinFinderModel" "p" "I", .fieldLink RX9 130 "TwinFinderModel" "q" "I", .fieldLink RX9 51 "TwinFinderModel" "sort" "I", .fieldLink RX9 54 "TwinFinderModel" "wide" "I", .methodLink RX9 61 yX9_makePlain, .instanceMethod yX9_makePlain, .selects RX9 yX9_makePlain yX9_makePlain, .initialized RX9, .code yX9_makePlain cX9_makePlain 5 none, .fieldLink RX9 14 "TwinFinderModel" "tape" "[B", .fieldLink RX9 21 "TwinFinderModel" "plain" "[B"] ++ wsX90)
def wsJ9_max_7cf53 : List Cond := .code yJ9_max_7cf53 cJ9_max_7cf53 2 (some .int) :: ([])
def wsJ9_min_7cf53 : List Cond := .code yJ9_min_7cf53 cJ9_min_7cf53 2 (some .int) :: ([])
def wsL_mode_r1 : List Cond := [Cond.classLink RL 13 "java/lang/IllegalArgumentException", Cond.methodLink RL 7 yX8_mode, Cond.instanceMethod yX8_mode, Cond.selects RX8 yX8_mode yX8_mode, Cond.initialized RX8, Cond.code yX8_mode cX8_mode 3 (some .int), Cond.classLink RX8 125 "java/lang/IllegalArgumentException", Cond.initialized "java/lang/IllegalArgumentException", Cond.fieldLink RX8 55 "TwinFinder" "sortAtHand" "I", Cond.fieldLink RX8 59 "TwinFinder" "rowAtHand" "I", Cond.fieldLink RX8 19 "TwinFinder" "store" "LTwinFinder$Store;", Cond.fieldLink RX8 47 "TwinFinder" "kin" "LTwinFinder$Kin;", Cond.fieldLink RX8 115 "TwinFinder$Kin" "known" "Z", Cond.fieldLink RX8 33 "TwinFinder" "shelf" "LTwinFinder$Shelf;", Cond.methodLink RX8 91 yX6_forgetFrom, Cond.instanceMethod yX6_forgetFrom, Cond.selects RX6 yX6_forgetFrom yX6_forgetFrom, Cond.initialized RX6, Cond.code yX6_forgetFrom cX6_forgetFrom 3 none, Cond.fieldLink RX6 26 "TwinFinder$Store" "given" "I", Cond.fieldLink RX6 23 "TwinFinder$Store" "seats" "[I", Cond.fieldLink RX6 20 "TwinFinder$Store" "seatOf" "[I", Cond.methodLink RX8 132 yX5_putAllAway, Cond.instanceMethod yX5_putAllAway]
def wsL_mode_r2 : List Cond := [Cond.selects RX5 yX5_putAllAway yX5_putAllAway, Cond.initialized RX5, Cond.code yX5_putAllAway cX5_putAllAway 3 (some .int), Cond.fieldLink RX5 12 "TwinFinder$Shelf" "here" "Ljava/util/ArrayList;", Cond.fieldLink RX5 18 "TwinFinder$Shelf" "spare" "Ljava/util/ArrayList;", Cond.classLink RX5 36 "TwinFinder$Document", Cond.fieldLink RX5 28 "TwinFinder$Shelf" "came" "I", Cond.methodLink RX5 24 yJx4a65c_size_8abf5, Cond.instanceMethod yJx4a65c_size_8abf5, Cond.selects RJx4a65c yJx4a65c_size_8abf5 yJx4a65c_size_8abf5, Cond.initialized RJx4a65c, Cond.code yJx4a65c_size_8abf5 cJx4a65c_size_8abf5 1 (some .int), Cond.fieldLink RJx4a65c 48 "java/util/ArrayList" "size" "I", Cond.methodLink RX5 32 yJx4a65c_get_915e3, Cond.instanceMethod yJx4a65c_get_915e3, Cond.selects RJx4a65c yJx4a65c_get_915e3 yJx4a65c_get_915e3, Cond.code yJx4a65c_get_915e3 cJx4a65c_get_915e3 2 (some (.object "java/lang/Object")), Cond.methodLink RJx4a65c 118 yJ15_checkIndex_7cf53, Cond.static yJ15_checkIndex_7cf53, Cond.initialized RJ15, Cond.code yJ15_checkIndex_7cf53 cJ15_checkIndex_7cf53 2 (some .int), Cond.methodLink RJ15 105 yJ3_checkIndex_8e157, Cond.static yJ3_checkIndex_8e157, Cond.initialized RJ3]
def wsL_mode_r3 : List Cond := [Cond.code yJ3_checkIndex_8e157 cJ3_checkIndex_8e157 3 (some .int), Cond.methodLink RJx4a65c 123 yJx4a65c_elementData_915e3, Cond.instanceMethod yJx4a65c_elementData_915e3, Cond.selects RJx4a65c yJx4a65c_elementData_915e3 yJx4a65c_elementData_915e3, Cond.code yJx4a65c_elementData_915e3 cJx4a65c_elementData_915e3 2 (some (.object "java/lang/Object")), Cond.fieldLink RJx4a65c 9 "java/util/ArrayList" "elementData" "[Ljava/lang/Object;", Cond.methodLink RX5 51 yJx4a65c_add_9ea2d, Cond.instanceMethod yJx4a65c_add_9ea2d, Cond.selects RJx4a65c yJx4a65c_add_9ea2d yJx4a65c_add_9ea2d, Cond.code yJx4a65c_add_9ea2d cJx4a65c_add_9ea2d 2 (some .boolean), Cond.fieldLink RJx4a65c 63 "java/util/ArrayList" "modCount" "I", Cond.sameField "java/util/ArrayList" "java/util/AbstractList" "modCount" "I", Cond.methodLink RJx4a65c 131 yJx4a65c_add_72be8, Cond.instanceMethod yJx4a65c_add_72be8, Cond.selects RJx4a65c yJx4a65c_add_72be8 yJx4a65c_add_72be8, Cond.code yJx4a65c_add_72be8 cJx4a65c_add_72be8 4 none, Cond.methodLink RJx4a65c 129 yJx4a65c_grow_d5877, Cond.instanceMethod yJx4a65c_grow_d5877, Cond.selects RJx4a65c yJx4a65c_grow_d5877 yJx4a65c_grow_d5877, Cond.code yJx4a65c_grow_d5877 cJx4a65c_grow_d5877 1 (some (.array (.object "java/lang/Object"))), Cond.methodLink RJx4a65c 69 yJx4a65c_grow_92f84, Cond.instanceMethod yJx4a65c_grow_92f84, Cond.selects RJx4a65c yJx4a65c_grow_92f84 yJx4a65c_grow_92f84, Cond.code yJx4a65c_grow_92f84 cJx4a65c_grow_92f84 4 (some (.array (.object "java/lang/Object")))]
def wsL_mode_r4 : List Cond := [Cond.fieldLink RJx4a65c 39 "java/util/ArrayList" "DEFAULTCAPACITY_EMPTY_ELEMENTDATA" "[Ljava/lang/Object;", Cond.methodLink RJx4a65c 79 Lib.Math.max.name, Cond.static Lib.Math.max.name, Cond.initialized "java/lang/Math", Cond.code Lib.Math.max.name Lib.Math.max.code 2 (some .int), Cond.classLink RJx4a65c 7 "java/lang/Object", Cond.methodLink RJx4a65c 73 yJ8_newLength_cabcc, Cond.static yJ8_newLength_cabcc, Cond.initialized RJ8, Cond.code yJ8_newLength_cabcc cJ8_newLength_cabcc 4 (some .int), Cond.methodLink RJ8 194 Lib.Math.max.name, Cond.constant RJ8 200 (2147483639), Cond.methodLink RJ8 201 yJ8_hugeLength_7cf53, Cond.static yJ8_hugeLength_7cf53, Cond.code yJ8_hugeLength_7cf53 cJ8_hugeLength_7cf53 3 (some .int), Cond.methodLink RJx4a65c 66 yJ7_copyOf_1904c, Cond.static yJ7_copyOf_1904c, Cond.initialized RJ7, Cond.code yJ7_copyOf_1904c cJ7_copyOf_1904c 2 (some (.array (.object "java/lang/Object"))), Cond.methodLink RJ7 86 ⟨"java/lang/Object", "getClass", "()Ljava/lang/Class;"⟩, Cond.selects "[Ljava/lang/Object;" ⟨"java/lang/Object", "getClass", "()Ljava/lang/Class;"⟩ ⟨"java/lang/Object", "getClass", "()Ljava/lang/Class;"⟩, Cond.instanceMethod ⟨"java/lang/Object", "getClass", "()Ljava/lang/Class;"⟩, Cond.native ⟨"java/lang/Object", "getClass", "()Ljava/lang/Class;"⟩, Cond.methodLink RJ7 300 yJ7_copyOf_6403c]
def wsL_mode_r5 : List Cond := [Cond.static yJ7_copyOf_6403c, Cond.code yJ7_copyOf_6403c cJ7_copyOf_6403c 4 (some (.array (.object "java/lang/Object"))), Cond.classLink RJ7 110 "[Ljava/lang/Object;", Cond.classLink RJ7 2 "java/lang/Object", Cond.methodLink RJ7 304 Lib.Math.min.name, Cond.static Lib.Math.min.name, Cond.code Lib.Math.min.name Lib.Math.min.code 2 (some .int), Cond.methodLink RJ7 150 arraycopyName, Cond.native arraycopyName, Cond.static arraycopyName, Cond.initialized "java/lang/System", Cond.methodLink RX5 70 yJx4a65c_clear_da8c8, Cond.instanceMethod yJx4a65c_clear_da8c8, Cond.selects RJx4a65c yJx4a65c_clear_da8c8 yJx4a65c_clear_da8c8, Cond.code yJx4a65c_clear_da8c8 cJx4a65c_clear_da8c8 4 none]
def wsL_mode : List Cond := .codeWith yL_mode cL_mode 5 (some .int) [(0, 10, 13, 13)] :: ((wsL_mode_r1 ++ (wsL_mode_r2 ++ (wsL_mode_r3 ++ (wsL_mode_r4 ++ wsL_mode_r5)))) ++ wsX80 ++ wsX10 ++ wsX60 ++ wsX50 ++ wsJx4a65c0 ++ (vx_atS RX8 129 "java/lang/IllegalArgumentException" ["java/lang/RuntimeException", "java/lang/Exception"]).filter goodWord)
def wsL_document_r1 : List Cond := [Cond.classLink RL 18 "java/util/NoSuchElementException", Cond.methodLink RL 15 yX8_document, Cond.instanceMethod yX8_document, Cond.selects RX8 yX8_document yX8_document, Cond.initialized RX8, Cond.code yX8_document cX8_document 4 (some .int), Cond.classLink RX8 163 "java/util/NoSuchElementException", Cond.initialized "java/util/NoSuchElementException", Cond.fieldLink RX8 33 "TwinFinder" "shelf" "LTwinFinder$Shelf;", Cond.fieldLink RX8 168 "TwinFinder$Shelf" "here" "Ljava/util/ArrayList;", Cond.classLink RX8 99 "TwinFinder$Document", Cond.fieldLink RX8 178 "TwinFinder$Document" "size" "I", Cond.fieldLink RX8 47 "TwinFinder" "kin" "LTwinFinder$Kin;", Cond.fieldLink RX8 40 "TwinFinder" "measure" "LTwinFinder$Measure;", Cond.methodLink RX8 159 yX5_placeOf, Cond.instanceMethod yX5_placeOf, Cond.selects RX5 yX5_placeOf yX5_placeOf, Cond.initialized RX5, Cond.code yX5_placeOf cX5_placeOf 3 (some .int), Cond.fieldLink RX5 12 "TwinFinder$Shelf" "here" "Ljava/util/ArrayList;", Cond.classLink RX5 36 "TwinFinder$Document", Cond.fieldLink RX5 38 "TwinFinder$Document" "number" "I", Cond.methodLink RX5 24 yJx4a65c_size_8abf5, Cond.instanceMethod yJx4a65c_size_8abf5]
def wsL_document_r2 : List Cond := [Cond.selects RJx4a65c yJx4a65c_size_8abf5 yJx4a65c_size_8abf5, Cond.initialized RJx4a65c, Cond.code yJx4a65c_size_8abf5 cJx4a65c_size_8abf5 1 (some .int), Cond.fieldLink RJx4a65c 48 "java/util/ArrayList" "size" "I", Cond.methodLink RX5 32 yJx4a65c_get_915e3, Cond.instanceMethod yJx4a65c_get_915e3, Cond.selects RJx4a65c yJx4a65c_get_915e3 yJx4a65c_get_915e3, Cond.code yJx4a65c_get_915e3 cJx4a65c_get_915e3 2 (some (.object "java/lang/Object")), Cond.methodLink RJx4a65c 118 yJ15_checkIndex_7cf53, Cond.static yJ15_checkIndex_7cf53, Cond.initialized RJ15, Cond.code yJ15_checkIndex_7cf53 cJ15_checkIndex_7cf53 2 (some .int), Cond.methodLink RJ15 105 yJ3_checkIndex_8e157, Cond.static yJ3_checkIndex_8e157, Cond.initialized RJ3, Cond.code yJ3_checkIndex_8e157 cJ3_checkIndex_8e157 3 (some .int), Cond.methodLink RJx4a65c 123 yJx4a65c_elementData_915e3, Cond.instanceMethod yJx4a65c_elementData_915e3, Cond.selects RJx4a65c yJx4a65c_elementData_915e3 yJx4a65c_elementData_915e3, Cond.code yJx4a65c_elementData_915e3 cJx4a65c_elementData_915e3 2 (some (.object "java/lang/Object")), Cond.fieldLink RJx4a65c 9 "java/util/ArrayList" "elementData" "[Ljava/lang/Object;", Cond.methodLink RX8 172 yJx4a65c_get_915e3, Cond.methodLink RX8 181 yX1_learn, Cond.instanceMethod yX1_learn]
def wsL_document_r3 : List Cond := [Cond.selects RX1 yX1_learn yX1_learn, Cond.initialized RX1, Cond.code yX1_learn cX1_learn 5 none, Cond.fieldLink RX1 34 "TwinFinder$Kin" "known" "Z", Cond.fieldLink RX1 42 "TwinFinder$Kin" "places" "I", Cond.classLink RX1 52 "TwinFinder$Document", Cond.fieldLink RX1 31 "TwinFinder$Kin" "members" "[I", Cond.fieldLink RX1 28 "TwinFinder$Kin" "leader" "[I", Cond.methodLink RX1 38 yX1_begin, Cond.instanceMethod yX1_begin, Cond.selects RX1 yX1_begin yX1_begin, Cond.code yX1_begin cX1_begin 3 none, Cond.methodLink RX1 62 Lib.Math.min.name, Cond.static Lib.Math.min.name, Cond.initialized "java/lang/Math", Cond.code Lib.Math.min.name Lib.Math.min.code 2 (some .int), Cond.fieldLink RX1 12 "TwinFinder$Kin" "candidates" "LTwinFinder$PairRow;", Cond.fieldLink RX1 68 "TwinFinder$PairRow" "size" "I", Cond.fieldLink RX1 18 "TwinFinder$Kin" "twins" "LTwinFinder$PairRow;", Cond.fieldLink RX1 21 "TwinFinder$Kin" "number" "[I", Cond.fieldLink RX1 70 "TwinFinder$Document" "number" "I", Cond.fieldLink RX1 25 "TwinFinder$Kin" "twinCount" "[I", Cond.methodLink RX1 58 yJx4a65c_size_8abf5, Cond.methodLink RX1 46 yJx4a65c_get_915e3]
def wsL_document_r4 : List Cond := [Cond.methodLink RX1 54 yX1_compare, Cond.instanceMethod yX1_compare, Cond.selects RX1 yX1_compare yX1_compare, Cond.code yX1_compare cX1_compare 6 none, Cond.methodLink RX1 72 yX2_firstBand, Cond.instanceMethod yX2_firstBand, Cond.selects RX2 yX2_firstBand yX2_firstBand, Cond.initialized RX2, Cond.code yX2_firstBand cX2_firstBand 4 (some .int), Cond.fieldLink RX2 33 "TwinFinder$Document" "size" "I", Cond.fieldLink RX2 9 "TwinFinder$Measure" "bandCount" "I", Cond.fieldLink RX2 15 "TwinFinder$Measure" "rowCount" "I", Cond.methodLink RX2 43 yX2_agree, Cond.instanceMethod yX2_agree, Cond.selects RX2 yX2_agree yX2_agree, Cond.code yX2_agree cX2_agree 5 (some .boolean), Cond.fieldLink RX2 40 "TwinFinder$Document" "least" "[I", Cond.methodLink RX1 78 yX3_put, Cond.instanceMethod yX3_put, Cond.selects RX3 yX3_put yX3_put, Cond.initialized RX3, Cond.code yX3_put cX3_put 3 none, Cond.fieldLink RX3 18 "TwinFinder$PairRow" "size" "I", Cond.fieldLink RX3 9 "TwinFinder$PairRow" "first" "[I"]
def wsL_document_r5 : List Cond := [Cond.fieldLink RX3 15 "TwinFinder$PairRow" "second" "[I", Cond.methodLink RX1 82 yX2_areNear, Cond.instanceMethod yX2_areNear, Cond.selects RX2 yX2_areNear yX2_areNear, Cond.code yX2_areNear cX2_areNear 3 (some .boolean), Cond.fieldLink RX2 21 "TwinFinder$Measure" "q" "I", Cond.fieldLink RX2 18 "TwinFinder$Measure" "p" "I", Cond.methodLink RX2 36 yX2_common, Cond.instanceMethod yX2_common, Cond.selects RX2 yX2_common yX2_common, Cond.code yX2_common cX2_common 3 (some .int), Cond.fieldLink RX2 24 "TwinFinder$Document" "shared" "[I", Cond.fieldLink RX2 30 "TwinFinder$Document" "slot" "I", Cond.methodLink RX2 54 yX2_all, Cond.instanceMethod yX2_all, Cond.selects RX2 yX2_all yX2_all, Cond.code yX2_all cX2_all 3 (some .int), Cond.methodLink RX1 86 yX1_join, Cond.instanceMethod yX1_join, Cond.selects RX1 yX1_join yX1_join, Cond.code yX1_join cX1_join 6 none, Cond.methodLink RX1 89 Lib.Math.max.name, Cond.static Lib.Math.max.name, Cond.code Lib.Math.max.name Lib.Math.max.code 2 (some .int)]
def wsL_document_r6 : List Cond := [Cond.methodLink RX8 185 yX1_familyOf, Cond.instanceMethod yX1_familyOf, Cond.selects RX1 yX1_familyOf yX1_familyOf, Cond.code yX1_familyOf cX1_familyOf 2 (some .int), Cond.methodLink RX8 188 yX1_membersWith, Cond.instanceMethod yX1_membersWith, Cond.selects RX1 yX1_membersWith yX1_membersWith, Cond.code yX1_membersWith cX1_membersWith 2 (some .int), Cond.methodLink RX8 191 yX1_twinsOf, Cond.instanceMethod yX1_twinsOf, Cond.selects RX1 yX1_twinsOf yX1_twinsOf, Cond.code yX1_twinsOf cX1_twinsOf 2 (some .int)]
def wsL_document : List Cond := .codeWith yL_document cL_document 5 (some .int) [(0, 10, 13, 18)] :: ((wsL_document_r1 ++ (wsL_document_r2 ++ (wsL_document_r3 ++ (wsL_document_r4 ++ (wsL_document_r5 ++ wsL_document_r6))))) ++ wsX80 ++ wsX50 ++ wsX00 ++ wsJx4a65c0 ++ wsX10 ++ wsX30 ++ wsX20 ++ (vx_atS RX8 167 "java/util/NoSuchElementException" ["java/lang/RuntimeException", "java/lang/Exception"]).filter goodWord)
def wsL_shingle_r1 : List Cond := [Cond.classLink RL 18 "java/util/NoSuchElementException", Cond.methodLink RL 20 yX8_shingle, Cond.instanceMethod yX8_shingle, Cond.selects RX8 yX8_shingle yX8_shingle, Cond.initialized RX8, Cond.code yX8_shingle cX8_shingle 4 (some .int), Cond.fieldLink RX8 178 "TwinFinder$Document" "size" "I", Cond.fieldLink RX8 198 "TwinFinder$Document" "numbers" "[I", Cond.methodLink RX8 194 yX8_documentThere, Cond.instanceMethod yX8_documentThere, Cond.selects RX8 yX8_documentThere yX8_documentThere, Cond.code yX8_documentThere cX8_documentThere 3 (some (.object "TwinFinder$Document")), Cond.classLink RX8 163 "java/util/NoSuchElementException", Cond.initialized "java/util/NoSuchElementException", Cond.fieldLink RX8 33 "TwinFinder" "shelf" "LTwinFinder$Shelf;", Cond.fieldLink RX8 168 "TwinFinder$Shelf" "here" "Ljava/util/ArrayList;", Cond.classLink RX8 99 "TwinFinder$Document", Cond.methodLink RX8 159 yX5_placeOf, Cond.instanceMethod yX5_placeOf, Cond.selects RX5 yX5_placeOf yX5_placeOf, Cond.initialized RX5, Cond.code yX5_placeOf cX5_placeOf 3 (some .int), Cond.fieldLink RX5 12 "TwinFinder$Shelf" "here" "Ljava/util/ArrayList;", Cond.classLink RX5 36 "TwinFinder$Document"]
def wsL_shingle_r2 : List Cond := [Cond.fieldLink RX5 38 "TwinFinder$Document" "number" "I", Cond.methodLink RX5 24 yJx4a65c_size_8abf5, Cond.instanceMethod yJx4a65c_size_8abf5, Cond.selects RJx4a65c yJx4a65c_size_8abf5 yJx4a65c_size_8abf5, Cond.initialized RJx4a65c, Cond.code yJx4a65c_size_8abf5 cJx4a65c_size_8abf5 1 (some .int), Cond.fieldLink RJx4a65c 48 "java/util/ArrayList" "size" "I", Cond.methodLink RX5 32 yJx4a65c_get_915e3, Cond.instanceMethod yJx4a65c_get_915e3, Cond.selects RJx4a65c yJx4a65c_get_915e3 yJx4a65c_get_915e3, Cond.code yJx4a65c_get_915e3 cJx4a65c_get_915e3 2 (some (.object "java/lang/Object")), Cond.methodLink RJx4a65c 118 yJ15_checkIndex_7cf53, Cond.static yJ15_checkIndex_7cf53, Cond.initialized RJ15, Cond.code yJ15_checkIndex_7cf53 cJ15_checkIndex_7cf53 2 (some .int), Cond.methodLink RJ15 105 yJ3_checkIndex_8e157, Cond.static yJ3_checkIndex_8e157, Cond.initialized RJ3, Cond.code yJ3_checkIndex_8e157 cJ3_checkIndex_8e157 3 (some .int), Cond.methodLink RJx4a65c 123 yJx4a65c_elementData_915e3, Cond.instanceMethod yJx4a65c_elementData_915e3, Cond.selects RJx4a65c yJx4a65c_elementData_915e3 yJx4a65c_elementData_915e3, Cond.code yJx4a65c_elementData_915e3 cJx4a65c_elementData_915e3 2 (some (.object "java/lang/Object")), Cond.fieldLink RJx4a65c 9 "java/util/ArrayList" "elementData" "[Ljava/lang/Object;"]
def wsL_shingle_r3 : List Cond := [Cond.methodLink RX8 172 yJx4a65c_get_915e3]
def wsL_shingle : List Cond := .codeWith yL_shingle cL_shingle 5 (some .int) [(0, 10, 13, 18)] :: ((wsL_shingle_r1 ++ (wsL_shingle_r2 ++ wsL_shingle_r3)) ++ wsX00 ++ wsX80 ++ wsX50 ++ wsJx4a65c0 ++ (vx_atS RX8 167 "java/util/NoSuchElementException" ["java/lang/RuntimeException", "java/lang/Exception"]).filter goodWord)
def wsL_signature_r1 : List Cond := [Cond.classLink RL 18 "java/util/NoSuchElementException", Cond.methodLink RL 23 yX8_signature, Cond.instanceMethod yX8_signature, Cond.selects RX8 yX8_signature yX8_signature, Cond.initialized RX8, Cond.code yX8_signature cX8_signature 4 (some .int), Cond.classLink RX8 163 "java/util/NoSuchElementException", Cond.initialized "java/util/NoSuchElementException", Cond.fieldLink RX8 104 "TwinFinder$Document" "least" "[I", Cond.methodLink RX8 194 yX8_documentThere, Cond.instanceMethod yX8_documentThere, Cond.selects RX8 yX8_documentThere yX8_documentThere, Cond.code yX8_documentThere cX8_documentThere 3 (some (.object "TwinFinder$Document")), Cond.fieldLink RX8 33 "TwinFinder" "shelf" "LTwinFinder$Shelf;", Cond.fieldLink RX8 168 "TwinFinder$Shelf" "here" "Ljava/util/ArrayList;", Cond.classLink RX8 99 "TwinFinder$Document", Cond.methodLink RX8 159 yX5_placeOf, Cond.instanceMethod yX5_placeOf, Cond.selects RX5 yX5_placeOf yX5_placeOf, Cond.initialized RX5, Cond.code yX5_placeOf cX5_placeOf 3 (some .int), Cond.fieldLink RX5 12 "TwinFinder$Shelf" "here" "Ljava/util/ArrayList;", Cond.classLink RX5 36 "TwinFinder$Document", Cond.fieldLink RX5 38 "TwinFinder$Document" "number" "I"]
def wsL_signature_r2 : List Cond := [Cond.methodLink RX5 24 yJx4a65c_size_8abf5, Cond.instanceMethod yJx4a65c_size_8abf5, Cond.selects RJx4a65c yJx4a65c_size_8abf5 yJx4a65c_size_8abf5, Cond.initialized RJx4a65c, Cond.code yJx4a65c_size_8abf5 cJx4a65c_size_8abf5 1 (some .int), Cond.fieldLink RJx4a65c 48 "java/util/ArrayList" "size" "I", Cond.methodLink RX5 32 yJx4a65c_get_915e3, Cond.instanceMethod yJx4a65c_get_915e3, Cond.selects RJx4a65c yJx4a65c_get_915e3 yJx4a65c_get_915e3, Cond.code yJx4a65c_get_915e3 cJx4a65c_get_915e3 2 (some (.object "java/lang/Object")), Cond.methodLink RJx4a65c 118 yJ15_checkIndex_7cf53, Cond.static yJ15_checkIndex_7cf53, Cond.initialized RJ15, Cond.code yJ15_checkIndex_7cf53 cJ15_checkIndex_7cf53 2 (some .int), Cond.methodLink RJ15 105 yJ3_checkIndex_8e157, Cond.static yJ3_checkIndex_8e157, Cond.initialized RJ3, Cond.code yJ3_checkIndex_8e157 cJ3_checkIndex_8e157 3 (some .int), Cond.methodLink RJx4a65c 123 yJx4a65c_elementData_915e3, Cond.instanceMethod yJx4a65c_elementData_915e3, Cond.selects RJx4a65c yJx4a65c_elementData_915e3 yJx4a65c_elementData_915e3, Cond.code yJx4a65c_elementData_915e3 cJx4a65c_elementData_915e3 2 (some (.object "java/lang/Object")), Cond.fieldLink RJx4a65c 9 "java/util/ArrayList" "elementData" "[Ljava/lang/Object;", Cond.methodLink RX8 172 yJx4a65c_get_915e3]
def wsL_signature : List Cond := .codeWith yL_signature cL_signature 5 (some .int) [(0, 10, 13, 18)] :: ((wsL_signature_r1 ++ wsL_signature_r2) ++ wsX00 ++ wsX80 ++ wsX50 ++ wsJx4a65c0 ++ (vx_atS RX8 167 "java/util/NoSuchElementException" ["java/lang/RuntimeException", "java/lang/Exception"]).filter goodWord)
def wsL_both_r1 : List Cond := [Cond.classLink RL 18 "java/util/NoSuchElementException", Cond.methodLink RL 26 yX8_both, Cond.instanceMethod yX8_both, Cond.selects RX8 yX8_both yX8_both, Cond.initialized RX8, Cond.code yX8_both cX8_both 6 (some .int), Cond.classLink RX8 163 "java/util/NoSuchElementException", Cond.initialized "java/util/NoSuchElementException", Cond.fieldLink RX8 40 "TwinFinder" "measure" "LTwinFinder$Measure;", Cond.methodLink RX8 194 yX8_documentThere, Cond.instanceMethod yX8_documentThere, Cond.selects RX8 yX8_documentThere yX8_documentThere, Cond.code yX8_documentThere cX8_documentThere 3 (some (.object "TwinFinder$Document")), Cond.fieldLink RX8 33 "TwinFinder" "shelf" "LTwinFinder$Shelf;", Cond.fieldLink RX8 168 "TwinFinder$Shelf" "here" "Ljava/util/ArrayList;", Cond.classLink RX8 99 "TwinFinder$Document", Cond.methodLink RX8 159 yX5_placeOf, Cond.instanceMethod yX5_placeOf, Cond.selects RX5 yX5_placeOf yX5_placeOf, Cond.initialized RX5, Cond.code yX5_placeOf cX5_placeOf 3 (some .int), Cond.fieldLink RX5 12 "TwinFinder$Shelf" "here" "Ljava/util/ArrayList;", Cond.classLink RX5 36 "TwinFinder$Document", Cond.fieldLink RX5 38 "TwinFinder$Document" "number" "I"]
def wsL_both_r2 : List Cond := [Cond.methodLink RX5 24 yJx4a65c_size_8abf5, Cond.instanceMethod yJx4a65c_size_8abf5, Cond.selects RJx4a65c yJx4a65c_size_8abf5 yJx4a65c_size_8abf5, Cond.initialized RJx4a65c, Cond.code yJx4a65c_size_8abf5 cJx4a65c_size_8abf5 1 (some .int), Cond.fieldLink RJx4a65c 48 "java/util/ArrayList" "size" "I", Cond.methodLink RX5 32 yJx4a65c_get_915e3, Cond.instanceMethod yJx4a65c_get_915e3, Cond.selects RJx4a65c yJx4a65c_get_915e3 yJx4a65c_get_915e3, Cond.code yJx4a65c_get_915e3 cJx4a65c_get_915e3 2 (some (.object "java/lang/Object")), Cond.methodLink RJx4a65c 118 yJ15_checkIndex_7cf53, Cond.static yJ15_checkIndex_7cf53, Cond.initialized RJ15, Cond.code yJ15_checkIndex_7cf53 cJ15_checkIndex_7cf53 2 (some .int), Cond.methodLink RJ15 105 yJ3_checkIndex_8e157, Cond.static yJ3_checkIndex_8e157, Cond.initialized RJ3, Cond.code yJ3_checkIndex_8e157 cJ3_checkIndex_8e157 3 (some .int), Cond.methodLink RJx4a65c 123 yJx4a65c_elementData_915e3, Cond.instanceMethod yJx4a65c_elementData_915e3, Cond.selects RJx4a65c yJx4a65c_elementData_915e3 yJx4a65c_elementData_915e3, Cond.code yJx4a65c_elementData_915e3 cJx4a65c_elementData_915e3 2 (some (.object "java/lang/Object")), Cond.fieldLink RJx4a65c 9 "java/util/ArrayList" "elementData" "[Ljava/lang/Object;", Cond.methodLink RX8 172 yJx4a65c_get_915e3]
def wsL_both_r3 : List Cond := [Cond.methodLink RX8 208 yX2_common, Cond.instanceMethod yX2_common, Cond.selects RX2 yX2_common yX2_common, Cond.initialized RX2, Cond.code yX2_common cX2_common 3 (some .int), Cond.fieldLink RX2 24 "TwinFinder$Document" "shared" "[I", Cond.fieldLink RX2 30 "TwinFinder$Document" "slot" "I", Cond.methodLink RX8 212 yX2_all, Cond.instanceMethod yX2_all, Cond.selects RX2 yX2_all yX2_all, Cond.code yX2_all cX2_all 3 (some .int), Cond.fieldLink RX2 33 "TwinFinder$Document" "size" "I", Cond.methodLink RX2 36 yX2_common, Cond.methodLink RX8 215 yX2_sameImages, Cond.instanceMethod yX2_sameImages, Cond.selects RX2 yX2_sameImages yX2_sameImages, Cond.code yX2_sameImages cX2_sameImages 5 (some .int), Cond.fieldLink RX2 9 "TwinFinder$Measure" "bandCount" "I", Cond.fieldLink RX2 15 "TwinFinder$Measure" "rowCount" "I", Cond.fieldLink RX2 40 "TwinFinder$Document" "least" "[I", Cond.methodLink RX8 218 yX2_firstBand, Cond.instanceMethod yX2_firstBand, Cond.selects RX2 yX2_firstBand yX2_firstBand, Cond.code yX2_firstBand cX2_firstBand 4 (some .int)]
def wsL_both_r4 : List Cond := [Cond.methodLink RX2 43 yX2_agree, Cond.instanceMethod yX2_agree, Cond.selects RX2 yX2_agree yX2_agree, Cond.code yX2_agree cX2_agree 5 (some .boolean), Cond.methodLink RX8 221 yX2_areTwins, Cond.instanceMethod yX2_areTwins, Cond.selects RX2 yX2_areTwins yX2_areTwins, Cond.code yX2_areTwins cX2_areTwins 3 (some .boolean), Cond.methodLink RX2 47 yX2_firstBand, Cond.methodLink RX2 50 yX2_areNear, Cond.instanceMethod yX2_areNear, Cond.selects RX2 yX2_areNear yX2_areNear, Cond.code yX2_areNear cX2_areNear 3 (some .boolean), Cond.fieldLink RX2 21 "TwinFinder$Measure" "q" "I", Cond.fieldLink RX2 18 "TwinFinder$Measure" "p" "I", Cond.methodLink RX2 54 yX2_all]
def wsL_both : List Cond := .codeWith yL_both cL_both 6 (some .int) [(0, 12, 15, 18)] :: ((wsL_both_r1 ++ (wsL_both_r2 ++ (wsL_both_r3 ++ wsL_both_r4))) ++ wsX80 ++ wsX50 ++ wsX00 ++ wsJx4a65c0 ++ wsX20 ++ (vx_atS RX8 167 "java/util/NoSuchElementException" ["java/lang/RuntimeException", "java/lang/Exception"]).filter goodWord)
def wsL_nearest_r1 : List Cond := [Cond.classLink RL 18 "java/util/NoSuchElementException", Cond.methodLink RL 30 yX8_nearest, Cond.instanceMethod yX8_nearest, Cond.selects RX8 yX8_nearest yX8_nearest, Cond.initialized RX8, Cond.code yX8_nearest cX8_nearest 4 (some .int), Cond.fieldLink RX8 33 "TwinFinder" "shelf" "LTwinFinder$Shelf;", Cond.fieldLink RX8 40 "TwinFinder" "measure" "LTwinFinder$Measure;", Cond.classLink RX8 99 "TwinFinder$Document", Cond.fieldLink RX8 119 "TwinFinder$Document" "number" "I", Cond.methodLink RX8 194 yX8_documentThere, Cond.instanceMethod yX8_documentThere, Cond.selects RX8 yX8_documentThere yX8_documentThere, Cond.code yX8_documentThere cX8_documentThere 3 (some (.object "TwinFinder$Document")), Cond.classLink RX8 163 "java/util/NoSuchElementException", Cond.initialized "java/util/NoSuchElementException", Cond.fieldLink RX8 168 "TwinFinder$Shelf" "here" "Ljava/util/ArrayList;", Cond.methodLink RX8 159 yX5_placeOf, Cond.instanceMethod yX5_placeOf, Cond.selects RX5 yX5_placeOf yX5_placeOf, Cond.initialized RX5, Cond.code yX5_placeOf cX5_placeOf 3 (some .int), Cond.fieldLink RX5 12 "TwinFinder$Shelf" "here" "Ljava/util/ArrayList;", Cond.classLink RX5 36 "TwinFinder$Document"]
def wsL_nearest_r2 : List Cond := [Cond.fieldLink RX5 38 "TwinFinder$Document" "number" "I", Cond.methodLink RX5 24 yJx4a65c_size_8abf5, Cond.instanceMethod yJx4a65c_size_8abf5, Cond.selects RJx4a65c yJx4a65c_size_8abf5 yJx4a65c_size_8abf5, Cond.initialized RJx4a65c, Cond.code yJx4a65c_size_8abf5 cJx4a65c_size_8abf5 1 (some .int), Cond.fieldLink RJx4a65c 48 "java/util/ArrayList" "size" "I", Cond.methodLink RX5 32 yJx4a65c_get_915e3, Cond.instanceMethod yJx4a65c_get_915e3, Cond.selects RJx4a65c yJx4a65c_get_915e3 yJx4a65c_get_915e3, Cond.code yJx4a65c_get_915e3 cJx4a65c_get_915e3 2 (some (.object "java/lang/Object")), Cond.methodLink RJx4a65c 118 yJ15_checkIndex_7cf53, Cond.static yJ15_checkIndex_7cf53, Cond.initialized RJ15, Cond.code yJ15_checkIndex_7cf53 cJ15_checkIndex_7cf53 2 (some .int), Cond.methodLink RJ15 105 yJ3_checkIndex_8e157, Cond.static yJ3_checkIndex_8e157, Cond.initialized RJ3, Cond.code yJ3_checkIndex_8e157 cJ3_checkIndex_8e157 3 (some .int), Cond.methodLink RJx4a65c 123 yJx4a65c_elementData_915e3, Cond.instanceMethod yJx4a65c_elementData_915e3, Cond.selects RJx4a65c yJx4a65c_elementData_915e3 yJx4a65c_elementData_915e3, Cond.code yJx4a65c_elementData_915e3 cJx4a65c_elementData_915e3 2 (some (.object "java/lang/Object")), Cond.fieldLink RJx4a65c 9 "java/util/ArrayList" "elementData" "[Ljava/lang/Object;"]
def wsL_nearest_r3 : List Cond := [Cond.methodLink RX8 172 yJx4a65c_get_915e3, Cond.methodLink RX8 244 yX5_othersByNearness, Cond.instanceMethod yX5_othersByNearness, Cond.selects RX5 yX5_othersByNearness yX5_othersByNearness, Cond.code yX5_othersByNearness cX5_othersByNearness 5 (some (.object "java/util/ArrayList")), Cond.fieldLink RX5 21 "TwinFinder$Shelf" "ranked" "Ljava/util/ArrayList;", Cond.methodLink RX5 70 yJx4a65c_clear_da8c8, Cond.instanceMethod yJx4a65c_clear_da8c8, Cond.selects RJx4a65c yJx4a65c_clear_da8c8 yJx4a65c_clear_da8c8, Cond.code yJx4a65c_clear_da8c8 cJx4a65c_clear_da8c8 4 none, Cond.fieldLink RJx4a65c 63 "java/util/ArrayList" "modCount" "I", Cond.sameField "java/util/ArrayList" "java/util/AbstractList" "modCount" "I", Cond.methodLink RX5 73 yX5_rankOf, Cond.instanceMethod yX5_rankOf, Cond.selects RX5 yX5_rankOf yX5_rankOf, Cond.code yX5_rankOf cX5_rankOf 5 (some .int), Cond.methodLink RX5 80 yX2_isNearer, Cond.instanceMethod yX2_isNearer, Cond.selects RX2 yX2_isNearer yX2_isNearer, Cond.initialized RX2, Cond.code yX2_isNearer cX2_isNearer 4 (some .boolean), Cond.methodLink RX2 57 Lib.Math.max.name, Cond.static Lib.Math.max.name, Cond.initialized "java/lang/Math"]
def wsL_nearest_r4 : List Cond := [Cond.code Lib.Math.max.name Lib.Math.max.code 2 (some .int), Cond.methodLink RX2 36 yX2_common, Cond.instanceMethod yX2_common, Cond.selects RX2 yX2_common yX2_common, Cond.code yX2_common cX2_common 3 (some .int), Cond.fieldLink RX2 24 "TwinFinder$Document" "shared" "[I", Cond.fieldLink RX2 30 "TwinFinder$Document" "slot" "I", Cond.methodLink RX2 54 yX2_all, Cond.instanceMethod yX2_all, Cond.selects RX2 yX2_all yX2_all, Cond.code yX2_all cX2_all 3 (some .int), Cond.fieldLink RX2 33 "TwinFinder$Document" "size" "I", Cond.methodLink RX5 77 yJx4a65c_add_7a177, Cond.instanceMethod yJx4a65c_add_7a177, Cond.selects RJx4a65c yJx4a65c_add_7a177 yJx4a65c_add_7a177, Cond.code yJx4a65c_add_7a177 cJx4a65c_add_7a177 5 none, Cond.methodLink RJx4a65c 112 arraycopyName, Cond.native arraycopyName, Cond.static arraycopyName, Cond.initialized "java/lang/System", Cond.methodLink RJx4a65c 135 yJx4a65c_rangeCheckForAdd_d00df, Cond.instanceMethod yJx4a65c_rangeCheckForAdd_d00df, Cond.selects RJx4a65c yJx4a65c_rangeCheckForAdd_d00df yJx4a65c_rangeCheckForAdd_d00df, Cond.code yJx4a65c_rangeCheckForAdd_d00df cJx4a65c_rangeCheckForAdd_d00df 2 none]
def wsL_nearest_r5 : List Cond := [Cond.methodLink RJx4a65c 129 yJx4a65c_grow_d5877, Cond.instanceMethod yJx4a65c_grow_d5877, Cond.selects RJx4a65c yJx4a65c_grow_d5877 yJx4a65c_grow_d5877, Cond.code yJx4a65c_grow_d5877 cJx4a65c_grow_d5877 1 (some (.array (.object "java/lang/Object"))), Cond.methodLink RJx4a65c 69 yJx4a65c_grow_92f84, Cond.instanceMethod yJx4a65c_grow_92f84, Cond.selects RJx4a65c yJx4a65c_grow_92f84 yJx4a65c_grow_92f84, Cond.code yJx4a65c_grow_92f84 cJx4a65c_grow_92f84 4 (some (.array (.object "java/lang/Object"))), Cond.fieldLink RJx4a65c 39 "java/util/ArrayList" "DEFAULTCAPACITY_EMPTY_ELEMENTDATA" "[Ljava/lang/Object;", Cond.methodLink RJx4a65c 79 Lib.Math.max.name, Cond.classLink RJx4a65c 7 "java/lang/Object", Cond.methodLink RJx4a65c 73 yJ8_newLength_cabcc, Cond.static yJ8_newLength_cabcc, Cond.initialized RJ8, Cond.code yJ8_newLength_cabcc cJ8_newLength_cabcc 4 (some .int), Cond.methodLink RJ8 194 Lib.Math.max.name, Cond.constant RJ8 200 (2147483639), Cond.methodLink RJ8 201 yJ8_hugeLength_7cf53, Cond.static yJ8_hugeLength_7cf53, Cond.code yJ8_hugeLength_7cf53 cJ8_hugeLength_7cf53 3 (some .int), Cond.methodLink RJx4a65c 66 yJ7_copyOf_1904c, Cond.static yJ7_copyOf_1904c, Cond.initialized RJ7, Cond.code yJ7_copyOf_1904c cJ7_copyOf_1904c 2 (some (.array (.object "java/lang/Object")))]
def wsL_nearest_r6 : List Cond := [Cond.methodLink RJ7 86 ⟨"java/lang/Object", "getClass", "()Ljava/lang/Class;"⟩, Cond.selects "[Ljava/lang/Object;" ⟨"java/lang/Object", "getClass", "()Ljava/lang/Class;"⟩ ⟨"java/lang/Object", "getClass", "()Ljava/lang/Class;"⟩, Cond.instanceMethod ⟨"java/lang/Object", "getClass", "()Ljava/lang/Class;"⟩, Cond.native ⟨"java/lang/Object", "getClass", "()Ljava/lang/Class;"⟩, Cond.methodLink RJ7 300 yJ7_copyOf_6403c, Cond.static yJ7_copyOf_6403c, Cond.code yJ7_copyOf_6403c cJ7_copyOf_6403c 4 (some (.array (.object "java/lang/Object"))), Cond.classLink RJ7 110 "[Ljava/lang/Object;", Cond.classLink RJ7 2 "java/lang/Object", Cond.methodLink RJ7 304 Lib.Math.min.name, Cond.static Lib.Math.min.name, Cond.code Lib.Math.min.name Lib.Math.min.code 2 (some .int), Cond.methodLink RJ7 150 arraycopyName, Cond.methodLink RX8 248 yJx4a65c_size_8abf5]
def wsL_nearest : List Cond := .codeWith yL_nearest cL_nearest 5 (some .int) [(0, 10, 13, 18)] :: ((wsL_nearest_r1 ++ (wsL_nearest_r2 ++ (wsL_nearest_r3 ++ (wsL_nearest_r4 ++ (wsL_nearest_r5 ++ wsL_nearest_r6))))) ++ wsX80 ++ wsX00 ++ wsX50 ++ wsJx4a65c0 ++ (vx_atS RX8 167 "java/util/NoSuchElementException" ["java/lang/RuntimeException", "java/lang/Exception"]).filter goodWord)
abbrev vwCl : List vw_C := [(RJx4a65c, TJx4a65c, 3), (RX0, TX0, 7), (RX1, TX1, 8), (RX2, TX2, 4), (RX3, TX3, 3), (RX4, TX4, 7), (RX5, TX5, 4), (RX6, TX6, 5), (RX7, TX7, 7), (RX8, TX8, 9), (RX9, TX9, 32)]
end
section
/-! ===== the core: contracts over one world list, frames by positions, instructions over small naturals ===== -/
section CORE
/-- since ws only the positions in K, and new ones, have changed -/
def Sm (K : Nat → Prop) (ws ws' : va_W) : Prop := ws.length ≤ ws'.length ∧ ∀ k : Nat, k < ws.length → ¬ K k → ws'[k]? = ws[k]?
/-- one position has changed -/
def Up (q : Nat) (ws ws' : va_W) : Prop := ws'.length = ws.length ∧ ∀ k : Nat, k ≠ q → ws'[k]? = ws[k]?
/-- one cell has come at the end -/
def Ps (ws ws' : va_W) : Prop := ws'.length = ws.length + 1 ∧ ∀ k : Nat, k < ws.length → ws'[k]? = ws[k]?
theorem gl_lt {ws : va_W} {k : Nat} {x : Nat × va_E} (h : ws[k]? = some x) : k < ws.length := (List.getElem?_eq_some_iff.mp h).1
theorem Sm.rf {K : Nat → Prop} {ws : va_W} : Sm K ws ws := ⟨Nat.le_refl _, fun _ _ _ => rfl⟩
theorem Sm.trans {K : Nat → Prop} {a b c : va_W} (h1 : Sm K a b) (h2 : Sm K b c) : Sm K a c := ⟨Nat.le_trans h1.1 h2.1, fun k hk hn => (h2.2 k (Nat.lt_of_lt_of_le hk h1.1) hn).trans (h1.2 k hk hn)⟩
theorem Sm.mono {K K' : Nat → Prop} {a b : va_W} (h : Sm K a b) (hk : ∀ k, K k → K' k) : Sm K' a b := ⟨h.1, fun k h1 h2 => h.2 k h1 (fun q => h2 (hk k q))⟩
theorem Sm.up {K : Nat → Prop} {q : Nat} {a b c : va_W} (h1 : Sm K a b) (h2 : Up q b c) (hq : K q) : Sm K a c := ⟨by rw [h2.1]; exact h1.1, fun k hk hn => (h2.2 k (fun e => hn (by rw [e]; exact hq))).trans (h1.2 k hk hn)⟩
theorem Sm.ps {K : Nat → Prop} {a b c : va_W} (h1 : Sm K a b) (h2 : Ps b c) : Sm K a c := ⟨by rw [h2.1]; exact Nat.le_succ_of_le h1.1, fun k hk hn => (h2.2 k (Nat.lt_of_lt_of_le hk h1.1)).trans (h1.2 k hk hn)⟩
theorem Sm.call {K K' : Nat → Prop} {a b c : va_W} (h1 : Sm K a b) (h2 : Sm K' b c) (hk : ∀ k, K' k → K k) : Sm K a c := h1.trans (h2.mono hk)
theorem Sm.get {K : Nat → Prop} {ws ws' : va_W} {k : Nat} {x : Nat × va_E} (h : Sm K ws ws') (g : ws[k]? = some x) (hk : ¬ K k) : ws'[k]? = some x := (h.2 k (gl_lt g) hk).trans g
theorem Up.get {q : Nat} {ws ws' : va_W} {k : Nat} {x : Nat × va_E} (h : Up q ws ws') (g : ws[k]? = some x) (hk : k ≠ q) : ws'[k]? = some x := (h.2 k hk).trans g
theorem Ps.get {ws ws' : va_W} {k : Nat} {x : Nat × va_E} (h : Ps ws ws') (g : ws[k]? = some x) : ws'[k]? = some x := (h.2 k (gl_lt g)).trans g
theorem up_set {q : Nat} {ws : va_W} {x : Nat × va_E} : Up q ws (ws.set q x) := ⟨List.length_set, fun k hk => List.getElem?_set_ne (Ne.symm hk)⟩
theorem set_at {q : Nat} {ws : va_W} {x y : Nat × va_E} (h : ws[q]? = some x) : (ws.set q y)[q]? = some y := List.getElem?_set_self (gl_lt h)
theorem ps_app {ws : va_W} {x : Nat × va_E} : Ps ws (ws ++ [x]) := ⟨by simp, fun k hk => List.getElem?_append_left hk⟩
theorem app_at {ws : va_W} {x : Nat × va_E} : (ws ++ [x])[ws.length]? = some x := by simp
/-- two lookups of different cells are at different positions -/
theorem gl_ne {ws : va_W} {i j : Nat} {x y : Nat × va_E} (h1 : ws[i]? = some x) (h2 : ws[j]? = some y) (h : x ≠ y) : i ≠ j := fun e => by subst e; exact h (Option.some.inj (h1.symm.trans h2))

/-- what a method's body has at hand -/
def Cx (p : Program) (s : State) (m : MethodId) (meth : Method) (c : Code) (y : MethodName) (cc : ByteArray) (ret : Option FieldType) (nL : Nat) (args : Array Value) (Ts : List Cond) : Prop :=
  p.tables.exec = Jvm.exec ∧ c.code = cc ∧ meth.sig.returnType = ret ∧ c.maxLocals = nL ∧ (∀ w ∈ Ts, w.before args s = true) ∧ s.vm.findClass y.cls = some m.cls ∧ meth.locks = false ∧ meth.name = y.name
/-- the world behind a method -/
def Bw (D : va_G) (tys : List (ClassId × FieldType)) (A : Nat → Prop) (ws : va_W) (t : State) : Prop := va_P D vwCl ws t.heap ∧ va_K D vwCl tys t ∧ va_D A ws
def Pw (D : va_G) (tys : List (ClassId × FieldType)) (ws : va_W) (sz : Nat) (U : State) : Prop := U.heap.size = sz ∧ va_P D vwCl ws U.heap ∧ va_K D vwCl tys U ∧ va_D (fun _ => True) ws
/-- contracts: of an int (or boolean), of nothing, of a reference -/
def CI (D : va_G) (tys : List (ClassId × FieldType)) (l : Launch) (y : MethodName) (w : List Cond) (rm : Room) (av : List Value) (ws : va_W) (post : Int32 → va_W → Prop) : Prop :=
  ∀ sz : Nat, Met l y w rm (va_Pc av (Pw D tys ws sz)) (va_Qi post (Bw D tys (va_A ws sz)) (va_A ws sz)) rm.cells rm.slots (va_A ws sz)
def CV (D : va_G) (tys : List (ClassId × FieldType)) (l : Launch) (y : MethodName) (w : List Cond) (rm : Room) (av : List Value) (ws : va_W) (post : va_W → Prop) : Prop :=
  ∀ sz : Nat, Met l y w rm (va_Pc av (Pw D tys ws sz)) (va_Qv post (Bw D tys (va_A ws sz)) (va_A ws sz)) rm.cells rm.slots (va_A ws sz)
def CQ (D : va_G) (tys : List (ClassId × FieldType)) (l : Launch) (y : MethodName) (w : List Cond) (rm : Room) (av : List Value) (ws : va_W) (post : Option Nat → va_W → Prop) : Prop :=
  ∀ sz : Nat, Met l y w rm (va_Pc av (Pw D tys ws sz)) (va_Qq post (Bw D tys (va_A ws sz)) (va_A ws sz)) rm.cells rm.slots (va_A ws sz)
def ZI (D : va_G) (tys : List (ClassId × FieldType)) (post : Int32 → va_W → Prop) (below : List Frame) (av : List Value) (s : State) (mc ms : Nat) (A : Nat → Prop) : State → Prop := MQ below (va_Qi post (Bw D tys A) A) av.toArray s mc ms A
def ZV (D : va_G) (tys : List (ClassId × FieldType)) (post : va_W → Prop) (below : List Frame) (av : List Value) (s : State) (mc ms : Nat) (A : Nat → Prop) : State → Prop := MQ below (va_Qv post (Bw D tys A) A) av.toArray s mc ms A
def ZQ (D : va_G) (tys : List (ClassId × FieldType)) (post : Option Nat → va_W → Prop) (below : List Frame) (av : List Value) (s : State) (mc ms : Nat) (A : Nat → Prop) : State → Prop := MQ below (va_Qq post (Bw D tys A) A) av.toArray s mc ms A
theorem pw_blind {D : va_G} {tys : List (ClassId × FieldType)} {av : List Value} {ws : va_W} {sz : Nat} : FrameBlind (va_Pc av (Pw D tys ws sz)) := fun a U g mk q => by
  obtain ⟨q0, q1, qP, qK, qD⟩ := q
  exact ⟨q0, q1, qP, va_K.moved (u := U) (U := U.calling g mk a) (Vm.Alike.refl U.vm) qK, qD⟩
section Of
variable {D : va_G} {tys : List (ClassId × FieldType)} {l : Launch} {y : MethodName} {w w' : List Cond} {rm : Room} {av : List Value} {ws : va_W} {cc : ByteArray} {maxL : Nat} {ret : Option FieldType}
theorem CI.of {post : Int32 → va_W → Prop} (hy : plainName y.cls = true) (hw : w = Cond.code y cc maxL ret :: w') (hn : (lg_sl av).length ≤ maxL)
    (body : ∀ (p : Program) (e : Env) (s : State) (m : MethodId) (below : List Frame) (meth : Method) (c : Code) (A : Nat → Prop), Cx p s m meth c y cc ret maxL av.toArray w → va_K D vwCl tys s → va_P D vwCl ws s.heap → va_D A ws → (∀ q : Nat, s.heap.size ≤ q → A q) → va_S A s.heap s.heap [] → ∀ ls : Array Slot, lv_has ls maxL (lv_args 0 av) → W p l e rm s m av.toArray below meth c s.heap [] 0 0 (ZI D tys post below av s rm.cells rm.slots A) (F0 m 0 ls [])) : CI D tys l y w rm av ws post := by
  intro sz
  refine Met.ofW (cc := cc) (maxL := maxL) (ret := ret) hy hw ?_
  intro p e s m args below meth c s₁ B hml hv
  obtain ⟨rfl, rfl, hP, hK, hD0⟩ := hv
  have hl := lv_entry av (n := maxL) hn
  rw [lg_entry_eq]
  exact body p e s m below meth c _ ⟨B.exec, B.bytes, B.returns, hml, atoms_spec (ws := w) B.pre, findClass_of_methodNamed B.named, B.notSynchronized, (name_of_methodNamed B.named B.method).1⟩ hK hP (hD0.self (sz := s.heap.size)) (fun q h => Or.inr h) va_S.rf _ hl
theorem CV.of {post : va_W → Prop} (hy : plainName y.cls = true) (hw : w = Cond.code y cc maxL ret :: w') (hn : (lg_sl av).length ≤ maxL)
    (body : ∀ (p : Program) (e : Env) (s : State) (m : MethodId) (below : List Frame) (meth : Method) (c : Code) (A : Nat → Prop), Cx p s m meth c y cc ret maxL av.toArray w → va_K D vwCl tys s → va_P D vwCl ws s.heap → va_D A ws → (∀ q : Nat, s.heap.size ≤ q → A q) → va_S A s.heap s.heap [] → ∀ ls : Array Slot, lv_has ls maxL (lv_args 0 av) → W p l e rm s m av.toArray below meth c s.heap [] 0 0 (ZV D tys post below av s rm.cells rm.slots A) (F0 m 0 ls [])) : CV D tys l y w rm av ws post := by
  intro sz
  refine Met.ofW (cc := cc) (maxL := maxL) (ret := ret) hy hw ?_
  intro p e s m args below meth c s₁ B hml hv
  obtain ⟨rfl, rfl, hP, hK, hD0⟩ := hv
  have hl := lv_entry av (n := maxL) hn
  rw [lg_entry_eq]
  exact body p e s m below meth c _ ⟨B.exec, B.bytes, B.returns, hml, atoms_spec (ws := w) B.pre, findClass_of_methodNamed B.named, B.notSynchronized, (name_of_methodNamed B.named B.method).1⟩ hK hP (hD0.self (sz := s.heap.size)) (fun q h => Or.inr h) va_S.rf _ hl
theorem CQ.of {post : Option Nat → va_W → Prop} (hy : plainName y.cls = true) (hw : w = Cond.code y cc maxL ret :: w') (hn : (lg_sl av).length ≤ maxL)
    (body : ∀ (p : Program) (e : Env) (s : State) (m : MethodId) (below : List Frame) (meth : Method) (c : Code) (A : Nat → Prop), Cx p s m meth c y cc ret maxL av.toArray w → va_K D vwCl tys s → va_P D vwCl ws s.heap → va_D A ws → (∀ q : Nat, s.heap.size ≤ q → A q) → va_S A s.heap s.heap [] → ∀ ls : Array Slot, lv_has ls maxL (lv_args 0 av) → W p l e rm s m av.toArray below meth c s.heap [] 0 0 (ZQ D tys post below av s rm.cells rm.slots A) (F0 m 0 ls [])) : CQ D tys l y w rm av ws post := by
  intro sz
  refine Met.ofW (cc := cc) (maxL := maxL) (ret := ret) hy hw ?_
  intro p e s m args below meth c s₁ B hml hv
  obtain ⟨rfl, rfl, hP, hK, hD0⟩ := hv
  have hl := lv_entry av (n := maxL) hn
  rw [lg_entry_eq]
  exact body p e s m below meth c _ ⟨B.exec, B.bytes, B.returns, hml, atoms_spec (ws := w) B.pre, findClass_of_methodNamed B.named, B.notSynchronized, (name_of_methodNamed B.named B.method).1⟩ hK hP (hD0.self (sz := s.heap.size)) (fun q h => Or.inr h) va_S.rf _ hl
end Of
section Ret
variable {D : va_G} {tys : List (ClassId × FieldType)} {p : Program} {l : Launch} {e : Env} {R : Room} {s : State} {m : MethodId} {av : List Value} {below : List Frame} {meth : Method} {c : Code} {H : Heap} {locs : List Loc} {cells slots mc ms : Nat} {A : Nat → Prop}
  {y : MethodName} {cc : ByteArray} {nL pc : Nat} {Ts : List Cond} {ls : Array Slot} {ws : va_W}
theorem CI.ret {ty : FieldType} {v : Int32} {post : Int32 → va_W → Prop} (C : Cx p s m meth c y cc (some ty) nL av.toArray Ts) (hK : va_K D vwCl tys s) (hP : va_P D vwCl ws H) (hD : va_D A ws) (hS : va_S A s.heap H locs) (hn : narrow ty (.int v) = .int v) (hp : post v ws) (hc : cells ≤ mc) (hs : slots ≤ ms) (hdg : decode cc pc = .ok (.ireturn, 1)) :
    W p l e R s m av.toArray below meth c H locs cells slots (ZI D tys post below av s mc ms A) (F0 m pc ls [.int v]) := by
  obtain ⟨hx, hb, hr, hml, hts, hown, hlocks, hnm⟩ := C
  refine W.widen (k := mc) (n := ms) hc hs ?_
  exact W.zret hx hb hr hn (fun t ht hW => ⟨⟨v, ws, rfl, hp, by rw [ht]; exact hP, va_K.moved hW.alike hK, hD⟩, hS.F ht⟩) hS.2.2 hdg
theorem CV.ret {post : va_W → Prop} (C : Cx p s m meth c y cc none nL av.toArray Ts) (hK : va_K D vwCl tys s) (hP : va_P D vwCl ws H) (hD : va_D A ws) (hS : va_S A s.heap H locs) (hp : post ws) (hc : cells ≤ mc) (hs : slots ≤ ms) (hdg : decode cc pc = .ok (.return_, 1)) :
    W p l e R s m av.toArray below meth c H locs cells slots (ZV D tys post below av s mc ms A) (F0 m pc ls []) := by
  obtain ⟨hx, hb, hr, hml, hts, hown, hlocks, hnm⟩ := C
  refine W.widen (k := mc) (n := ms) hc hs ?_
  exact W.vret hx hb hr (fun t ht hW => ⟨⟨ws, rfl, hp, by rw [ht]; exact hP, va_K.moved hW.alike hK, hD⟩, hS.F ht⟩) hS.2.2 hdg
theorem CQ.ret {rt : FieldType} {v : Option Nat} {post : Option Nat → va_W → Prop} (C : Cx p s m meth c y cc (some rt) nL av.toArray Ts) (hK : va_K D vwCl tys s) (hP : va_P D vwCl ws H) (hD : va_D A ws) (hS : va_S A s.heap H locs) (hrt : (∃ n, rt = .object n) ∨ ∃ t, rt = .array t) (hp : post v ws) (hc : cells ≤ mc) (hs : slots ≤ ms) (hdg : decode cc pc = .ok (.areturn, 1)) :
    W p l e R s m av.toArray below meth c H locs cells slots (ZQ D tys post below av s mc ms A) (F0 m pc ls [va_rf v]) := by
  obtain ⟨hx, hb, hr, hml, hts, hown, hlocks, hnm⟩ := C
  refine W.widen (k := mc) (n := ms) hc hs ?_
  exact W.aret hx hb hr hrt (va_rf_or v) (fun t ht hW => ⟨⟨v, ws, rfl, hp, by rw [ht]; exact hP, va_K.moved hW.alike hK, hD⟩, hS.F ht⟩) hS.2.2 hdg
end Ret
section Call
variable {D : va_G} {tys : List (ClassId × FieldType)} {p : Program} {l : Launch} {e : Env} {R : Room} {s : State} {m : MethodId} {args : Array Value} {below : List Frame} {meth : Method} {c : Code} {H : Heap} {locs : List Loc} {cells slots : Nat} {A : Nat → Prop} {Q : State → Prop}
  {y y2 : MethodName} {cc bytes : ByteArray} {ret ret2 : Option FieldType} {nL maxL n index pc : Nat} {Ts w2 : List Cond} {ls : Array Slot} {ws : va_W} {rm2 : Room} {own Cn : String} {b : Nat} {As rest st0 : List Value}
theorem va_Aall (hD : va_D A ws) (hS : va_S A s.heap H locs) (hA : ∀ q : Nat, s.heap.size ≤ q → A q) : ∀ q : Nat, va_A ws H.size q → A q := fun q h => by
  rcases h with ⟨k, e, h⟩ | h
  · exact hD.2 k (q, e) h
  · exact hA q (Nat.le_trans hS.1 h)
theorem pw_pre (hK : va_K D vwCl tys s) (hP : va_P D vwCl ws H) (hD : va_D A ws) {av : List Value} {U : State} (hU : U.heap = H) (hW : s.WarmedH U.vm) : va_Pc av (Pw D tys ws H.size) av.toArray U :=
  ⟨rfl, by rw [hU], by rw [hU]; exact hP, va_K.moved hW.alike hK, hD.weaken (fun _ _ _ _ => trivial)⟩
/-- any run of a callee that has the whole world: int -/
theorem CI.go {post : Int32 → va_W → Prop} {av : List Value} (hr : va_Run p l e R s m args below meth c H locs cells slots rm2.cells rm2.slots (F0 m pc ls st0) rest (va_Qi post (Bw D tys (va_A ws H.size)) (va_A ws H.size) av.toArray) (va_A ws H.size)) (hD : va_D A ws) (hS : va_S A s.heap H locs) (hA : ∀ q : Nat, s.heap.size ≤ q → A q)
    (kk : ∀ (r : Int32) (ws' : va_W) (H1 : Heap) (locs1 : List Loc), post r ws' → va_P D vwCl ws' H1 → va_D A ws' → va_S A s.heap H1 locs1 → W p l e R s m args below meth c H1 locs1 (cells + rm2.cells) (slots + rm2.slots) Q (F0 m (pc + 3) ls (.int r :: rest))) : W p l e R s m args below meth c H locs cells slots Q (F0 m pc ls st0) :=
  va_calli hr hS (fun q _ h => va_Aall hD hS hA q h) (va_Aall hD hS hA) (fun r u t H1 locs1 ht hvm hp hB _ _ hS1 => kk r u H1 locs1 hp (by rw [← ht]; exact hB.1) (hB.2.2.weaken (fun _ q _ h => va_Aall hD hS hA q.1 h)) hS1)
theorem CV.go {post : va_W → Prop} {av : List Value} (hr : va_Run p l e R s m args below meth c H locs cells slots rm2.cells rm2.slots (F0 m pc ls st0) rest (va_Qv post (Bw D tys (va_A ws H.size)) (va_A ws H.size) av.toArray) (va_A ws H.size)) (hD : va_D A ws) (hS : va_S A s.heap H locs) (hA : ∀ q : Nat, s.heap.size ≤ q → A q)
    (kk : ∀ (ws' : va_W) (H1 : Heap) (locs1 : List Loc), post ws' → va_P D vwCl ws' H1 → va_D A ws' → va_S A s.heap H1 locs1 → W p l e R s m args below meth c H1 locs1 (cells + rm2.cells) (slots + rm2.slots) Q (F0 m (pc + 3) ls rest)) : W p l e R s m args below meth c H locs cells slots Q (F0 m pc ls st0) :=
  va_callv hr hS (fun q _ h => va_Aall hD hS hA q h) (va_Aall hD hS hA) (fun u t H1 locs1 ht hvm hp hB _ _ hS1 => kk u H1 locs1 hp (by rw [← ht]; exact hB.1) (hB.2.2.weaken (fun _ q _ h => va_Aall hD hS hA q.1 h)) hS1)
theorem CQ.go {post : Option Nat → va_W → Prop} {av : List Value} (hr : va_Run p l e R s m args below meth c H locs cells slots rm2.cells rm2.slots (F0 m pc ls st0) rest (va_Qq post (Bw D tys (va_A ws H.size)) (va_A ws H.size) av.toArray) (va_A ws H.size)) (hD : va_D A ws) (hS : va_S A s.heap H locs) (hA : ∀ q : Nat, s.heap.size ≤ q → A q)
    (kk : ∀ (r : Option Nat) (ws' : va_W) (H1 : Heap) (locs1 : List Loc), post r ws' → va_P D vwCl ws' H1 → va_D A ws' → va_S A s.heap H1 locs1 → W p l e R s m args below meth c H1 locs1 (cells + rm2.cells) (slots + rm2.slots) Q (F0 m (pc + 3) ls (va_rf r :: rest))) : W p l e R s m args below meth c H locs cells slots Q (F0 m pc ls st0) :=
  va_callq hr hS (fun q _ h => va_Aall hD hS hA q h) (va_Aall hD hS hA) (fun r u t H1 locs1 ht hvm hp hB _ _ hS1 => kk r u H1 locs1 hp (by rw [← ht]; exact hB.1) (hB.2.2.weaken (fun _ q _ h => va_Aall hD hS hA q.1 h)) hS1)
end Call
end CORE
end
section
/-! ===== instructions over small naturals, writes into an abstract world ===== -/
section NX
variable {p : Program} {l : Launch} {e : Env} {R : Room} {s : State} {m : MethodId} {args : Array Value} {below : List Frame} {meth : Method} {c : Code} {H : Heap} {locs : List Loc} {cells slots : Nat} {Q : State → Prop}
variable {cc : ByteArray} {pc : Nat} {ls : Array Slot} {rest : List Value} {D : va_G} {A : Nat → Prop} {a : Nat} {tys : List (ClassId × FieldType)} {ws : va_W} {H0 : Heap}

theorem nx_inc (a n : Nat) : nI a + Int32.ofInt (n : Int) = nI (a + n) := by
  rw [show Int32.ofInt (n : Int) = nI n from rfl, nI_add]
theorem nx_dec {a n : Nat} (h : n ≤ a) : nI a + Int32.ofInt (-(n : Int)) = nI (a - n) := by
  rw [← pk_sub h]
  apply Int32.toBitVec_inj.mp
  simp [nI, Int32.sub_eq_add_neg, Int32.ofInt_neg]
theorem nx_iadd (hexec : p.tables.exec = Jvm.exec) (hb : c.code = cc) {x y : Nat} (hdg : decode cc pc = .ok (.iadd, 1)) (k : W p l e R s m args below meth c H locs cells slots Q (F0 m (pc + 1) ls (.int (nI (x + y)) :: rest))) : W p l e R s m args below meth c H locs cells slots Q (F0 m pc ls (.int (nI y) :: .int (nI x) :: rest)) := lv_iadd hexec hb hdg (by rw [nI_add]; exact k)
theorem nx_isub (hexec : p.tables.exec = Jvm.exec) (hb : c.code = cc) {x y : Nat} (h : y ≤ x) (hdg : decode cc pc = .ok (.isub, 1)) (k : W p l e R s m args below meth c H locs cells slots Q (F0 m (pc + 1) ls (.int (nI (x - y)) :: rest))) : W p l e R s m args below meth c H locs cells slots Q (F0 m pc ls (.int (nI y) :: .int (nI x) :: rest)) := lv_isub hexec hb hdg (by rw [pk_sub h]; exact k)
theorem nx_imul (hexec : p.tables.exec = Jvm.exec) (hb : c.code = cc) {x y : Nat} (hdg : decode cc pc = .ok (.imul, 1)) (k : W p l e R s m args below meth c H locs cells slots Q (F0 m (pc + 1) ls (.int (nI (x * y)) :: rest))) : W p l e R s m args below meth c H locs cells slots Q (F0 m pc ls (.int (nI y) :: .int (nI x) :: rest)) := lv_imul hexec hb hdg (by rw [pk_mul]; exact k)
theorem nx_icmp_eq (hexec : p.tables.exec = Jvm.exec) (hb : c.code = cc) {x y : Nat} {off : Int} {tgt : Nat} (hx2 : x < 2 ^ 31) (hy2 : y < 2 ^ 31) (hdg : decode cc pc = .ok (.if_icmp .eq off, 3)) (ht : (pc : Int) + off = (tgt : Int)) (kt : x = y → W p l e R s m args below meth c H locs cells slots Q (F0 m tgt ls rest)) (kf : x ≠ y → W p l e R s m args below meth c H locs cells slots Q (F0 m (pc + 3) ls rest)) : W p l e R s m args below meth c H locs cells slots Q (F0 m pc ls (.int (nI y) :: .int (nI x) :: rest)) := lv_icmp_eq hexec hb hdg ht (fun h => kt ((nI_eq hx2 hy2).mp h)) (fun h => kf (fun e => h ((nI_eq hx2 hy2).mpr e)))
theorem nx_icmp_ne (hexec : p.tables.exec = Jvm.exec) (hb : c.code = cc) {x y : Nat} {off : Int} {tgt : Nat} (hx2 : x < 2 ^ 31) (hy2 : y < 2 ^ 31) (hdg : decode cc pc = .ok (.if_icmp .ne off, 3)) (ht : (pc : Int) + off = (tgt : Int)) (kt : x ≠ y → W p l e R s m args below meth c H locs cells slots Q (F0 m tgt ls rest)) (kf : x = y → W p l e R s m args below meth c H locs cells slots Q (F0 m (pc + 3) ls rest)) : W p l e R s m args below meth c H locs cells slots Q (F0 m pc ls (.int (nI y) :: .int (nI x) :: rest)) := lv_icmp_ne hexec hb hdg ht (fun h => kt (fun e => h ((nI_eq hx2 hy2).mpr e))) (fun h => kf ((nI_eq hx2 hy2).mp h))
theorem nx_icmp_lt (hexec : p.tables.exec = Jvm.exec) (hb : c.code = cc) {x y : Nat} {off : Int} {tgt : Nat} (hx2 : x < 2 ^ 31) (hy2 : y < 2 ^ 31) (hdg : decode cc pc = .ok (.if_icmp .lt off, 3)) (ht : (pc : Int) + off = (tgt : Int)) (kt : x < y → W p l e R s m args below meth c H locs cells slots Q (F0 m tgt ls rest)) (kf : y ≤ x → W p l e R s m args below meth c H locs cells slots Q (F0 m (pc + 3) ls rest)) : W p l e R s m args below meth c H locs cells slots Q (F0 m pc ls (.int (nI y) :: .int (nI x) :: rest)) := lv_icmp_lt hexec hb hdg ht (fun h => kt ((nI_ltI hx2 hy2).mp h)) (fun h => kf (Nat.le_of_not_lt (fun e => h ((nI_ltI hx2 hy2).mpr e))))
theorem nx_icmp_ge (hexec : p.tables.exec = Jvm.exec) (hb : c.code = cc) {x y : Nat} {off : Int} {tgt : Nat} (hx2 : x < 2 ^ 31) (hy2 : y < 2 ^ 31) (hdg : decode cc pc = .ok (.if_icmp .ge off, 3)) (ht : (pc : Int) + off = (tgt : Int)) (kt : y ≤ x → W p l e R s m args below meth c H locs cells slots Q (F0 m tgt ls rest)) (kf : x < y → W p l e R s m args below meth c H locs cells slots Q (F0 m (pc + 3) ls rest)) : W p l e R s m args below meth c H locs cells slots Q (F0 m pc ls (.int (nI y) :: .int (nI x) :: rest)) := lv_icmp_ge hexec hb hdg ht (fun h => kt ((nI_leI hy2 hx2).mp h)) (fun h => kf (Nat.lt_of_not_le (fun e => h ((nI_leI hy2 hx2).mpr e))))
theorem nx_icmp_gt (hexec : p.tables.exec = Jvm.exec) (hb : c.code = cc) {x y : Nat} {off : Int} {tgt : Nat} (hx2 : x < 2 ^ 31) (hy2 : y < 2 ^ 31) (hdg : decode cc pc = .ok (.if_icmp .gt off, 3)) (ht : (pc : Int) + off = (tgt : Int)) (kt : y < x → W p l e R s m args below meth c H locs cells slots Q (F0 m tgt ls rest)) (kf : x ≤ y → W p l e R s m args below meth c H locs cells slots Q (F0 m (pc + 3) ls rest)) : W p l e R s m args below meth c H locs cells slots Q (F0 m pc ls (.int (nI y) :: .int (nI x) :: rest)) := lv_icmp_gt hexec hb hdg ht (fun h => kt ((nI_ltI hy2 hx2).mp h)) (fun h => kf (Nat.le_of_not_lt (fun e => h ((nI_ltI hy2 hx2).mpr e))))
theorem nx_icmp_le (hexec : p.tables.exec = Jvm.exec) (hb : c.code = cc) {x y : Nat} {off : Int} {tgt : Nat} (hx2 : x < 2 ^ 31) (hy2 : y < 2 ^ 31) (hdg : decode cc pc = .ok (.if_icmp .le off, 3)) (ht : (pc : Int) + off = (tgt : Int)) (kt : x ≤ y → W p l e R s m args below meth c H locs cells slots Q (F0 m tgt ls rest)) (kf : y < x → W p l e R s m args below meth c H locs cells slots Q (F0 m (pc + 3) ls rest)) : W p l e R s m args below meth c H locs cells slots Q (F0 m pc ls (.int (nI y) :: .int (nI x) :: rest)) := lv_icmp_le hexec hb hdg ht (fun h => kt ((nI_leI hx2 hy2).mp h)) (fun h => kf (Nat.lt_of_not_le (fun e => h ((nI_leI hx2 hy2).mpr e))))
theorem nx_z {x : Nat} (h : x < 2 ^ 31) : nI x = 0 ↔ x = 0 := by
  rw [← nI_0]
  exact nI_eq h (by decide)
theorem nx_lz {x : Nat} (h : x < 2 ^ 31) : nI x ≤ 0 ↔ x = 0 := by
  rw [← nI_0, nI_leI h (by decide)]
  omega
theorem nx_gz {x : Nat} (h : x < 2 ^ 31) : 0 < nI x ↔ 0 < x := by
  rw [← nI_0, nI_ltI (by decide) h]
theorem nx_if_eq (hexec : p.tables.exec = Jvm.exec) (hb : c.code = cc) {x : Nat} {off : Int} {tgt : Nat} (hx2 : x < 2 ^ 31) (hdg : decode cc pc = .ok (.ifCond .eq off, 3)) (ht : (pc : Int) + off = (tgt : Int)) (kt : x = 0 → W p l e R s m args below meth c H locs cells slots Q (F0 m tgt ls rest)) (kf : 0 < x → W p l e R s m args below meth c H locs cells slots Q (F0 m (pc + 3) ls rest)) : W p l e R s m args below meth c H locs cells slots Q (F0 m pc ls (.int (nI x) :: rest)) := lv_if_eq hexec hb hdg ht (fun h => kt ((nx_z hx2).mp h)) (fun h => kf (Nat.pos_of_ne_zero (fun e => h ((nx_z hx2).mpr e))))
theorem nx_if_ne (hexec : p.tables.exec = Jvm.exec) (hb : c.code = cc) {x : Nat} {off : Int} {tgt : Nat} (hx2 : x < 2 ^ 31) (hdg : decode cc pc = .ok (.ifCond .ne off, 3)) (ht : (pc : Int) + off = (tgt : Int)) (kt : 0 < x → W p l e R s m args below meth c H locs cells slots Q (F0 m tgt ls rest)) (kf : x = 0 → W p l e R s m args below meth c H locs cells slots Q (F0 m (pc + 3) ls rest)) : W p l e R s m args below meth c H locs cells slots Q (F0 m pc ls (.int (nI x) :: rest)) := lv_if_ne hexec hb hdg ht (fun h => kt (Nat.pos_of_ne_zero (fun e => h ((nx_z hx2).mpr e)))) (fun h => kf ((nx_z hx2).mp h))
theorem nx_if_le (hexec : p.tables.exec = Jvm.exec) (hb : c.code = cc) {x : Nat} {off : Int} {tgt : Nat} (hx2 : x < 2 ^ 31) (hdg : decode cc pc = .ok (.ifCond .le off, 3)) (ht : (pc : Int) + off = (tgt : Int)) (kt : x = 0 → W p l e R s m args below meth c H locs cells slots Q (F0 m tgt ls rest)) (kf : 0 < x → W p l e R s m args below meth c H locs cells slots Q (F0 m (pc + 3) ls rest)) : W p l e R s m args below meth c H locs cells slots Q (F0 m pc ls (.int (nI x) :: rest)) := lv_if_le hexec hb hdg ht (fun h => kt ((nx_lz hx2).mp h)) (fun h => kf (Nat.pos_of_ne_zero (fun e => h ((nx_lz hx2).mpr e))))
theorem nx_if_gt (hexec : p.tables.exec = Jvm.exec) (hb : c.code = cc) {x : Nat} {off : Int} {tgt : Nat} (hx2 : x < 2 ^ 31) (hdg : decode cc pc = .ok (.ifCond .gt off, 3)) (ht : (pc : Int) + off = (tgt : Int)) (kt : 0 < x → W p l e R s m args below meth c H locs cells slots Q (F0 m tgt ls rest)) (kf : x = 0 → W p l e R s m args below meth c H locs cells slots Q (F0 m (pc + 3) ls rest)) : W p l e R s m args below meth c H locs cells slots Q (F0 m pc ls (.int (nI x) :: rest)) := lv_if_gt hexec hb hdg ht (fun h => kt ((nx_gz hx2).mp h)) (fun h => kf (Nat.eq_zero_of_not_pos (fun e => h ((nx_gz hx2).mpr e))))
theorem nx_if_lt (hexec : p.tables.exec = Jvm.exec) (hb : c.code = cc) {x : Nat} {off : Int} (hx2 : x < 2 ^ 31) (hdg : decode cc pc = .ok (.ifCond .lt off, 3)) {tgt : Nat} (ht : (pc : Int) + off = (tgt : Int)) (kf : W p l e R s m args below meth c H locs cells slots Q (F0 m (pc + 3) ls rest)) : W p l e R s m args below meth c H locs cells slots Q (F0 m pc ls (.int (nI x) :: rest)) := lv_if_lt hexec hb hdg ht (fun h => absurd h (nI_pos hx2)) (fun _ => kf)
theorem nx_if_ge (hexec : p.tables.exec = Jvm.exec) (hb : c.code = cc) {x : Nat} {off : Int} (hx2 : x < 2 ^ 31) (hdg : decode cc pc = .ok (.ifCond .ge off, 3)) {tgt : Nat} (ht : (pc : Int) + off = (tgt : Int)) (kt : W p l e R s m args below meth c H locs cells slots Q (F0 m tgt ls rest)) : W p l e R s m args below meth c H locs cells slots Q (F0 m pc ls (.int (nI x) :: rest)) := lv_if_ge hexec hb hdg ht (fun _ => kt) (fun h => absurd (nI_pos' hx2) h)
theorem nx_iald (hexec : p.tables.exec = Jvm.exec) (hb : c.code = cc) (hK : va_K D vwCl tys s) (hP : va_P D vwCl ws H) (q0 t0 : Nat) {cA : ClassId} {n : Nat} {f : Nat → Int32} (ha : ws[q0]? = some (a, .inl (cA, n, .inl f))) (ht : tys[t0]? = some (cA, .int)) {k : Nat} (hk : k < n) (hn : n < 2 ^ 31) (hdg : decode cc pc = .ok (.iaload, 1)) (kk : W p l e R s m args below meth c H locs cells slots Q (F0 m (pc + 1) ls (.int (f k) :: rest))) : W p l e R s m args below meth c H locs cells slots Q (F0 m pc ls (.int (nI k) :: .ref a :: rest)) := va_iald hexec hb hK hP q0 t0 ha ht (vp_in_nI hk hn) hdg (by rw [nI_clamp (Nat.lt_trans hk hn)]; exact kk)
theorem nx_bald (hexec : p.tables.exec = Jvm.exec) (hb : c.code = cc) (hK : va_K D vwCl tys s) (hP : va_P D vwCl ws H) (q0 t0 : Nat) {cA : ClassId} {n : Nat} {f : Nat → Int32} (ha : ws[q0]? = some (a, .inl (cA, n, .inl f))) (ht : tys[t0]? = some (cA, .byte)) {k : Nat} (hk : k < n) (hn : n < 2 ^ 31) (hdg : decode cc pc = .ok (.baload, 1)) (kk : W p l e R s m args below meth c H locs cells slots Q (F0 m (pc + 1) ls (.int (f k) :: rest))) : W p l e R s m args below meth c H locs cells slots Q (F0 m pc ls (.int (nI k) :: .ref a :: rest)) := va_bald hexec hb hK hP q0 t0 ha ht (vp_in_nI hk hn) hdg (by rw [nI_clamp (Nat.lt_trans hk hn)]; exact kk)
theorem nx_lald (hexec : p.tables.exec = Jvm.exec) (hb : c.code = cc) (hK : va_K D vwCl tys s) (hP : va_P D vwCl ws H) (q0 t0 : Nat) {cA : ClassId} {n : Nat} {f : Nat → Int64} (ha : ws[q0]? = some (a, .inl (cA, n, .inr (.inl f)))) (ht : tys[t0]? = some (cA, .long)) {k : Nat} (hk : k < n) (hn : n < 2 ^ 31) (hdg : decode cc pc = .ok (.laload, 1)) (kk : W p l e R s m args below meth c H locs cells slots Q (F0 m (pc + 1) ls (.long (f k) :: rest))) : W p l e R s m args below meth c H locs cells slots Q (F0 m pc ls (.int (nI k) :: .ref a :: rest)) := va_lald hexec hb hK hP q0 t0 ha ht (vp_in_nI hk hn) hdg (by rw [nI_clamp (Nat.lt_trans hk hn)]; exact kk)
theorem nx_iast (hexec : p.tables.exec = Jvm.exec) (hb : c.code = cc) (hK : va_K D vwCl tys s) (hP : va_P D vwCl ws H) (hD : va_D A ws) (hS : va_S A H0 H locs) (q0 t0 : Nat) {cA : ClassId} {n : Nat} {f : Nat → Int32} (ha : ws[q0]? = some (a, .inl (cA, n, .inl f))) (ht : tys[t0]? = some (cA, .int)) {k : Nat} {x : Int32} (hk : k < n) (hn : n < 2 ^ 31) (hdg : decode cc pc = .ok (.iastore, 1)) (kk : ∀ (ws1 : va_W) (H1 : Heap) (locs1 : List Loc), ws1[q0]? = some (a, .inl (cA, n, .inl (upd f k x))) → Up q0 ws ws1 → va_P D vwCl ws1 H1 → va_D A ws1 → va_S A H0 H1 locs1 → W p l e R s m args below meth c H1 locs1 cells slots Q (F0 m (pc + 1) ls rest)) : W p l e R s m args below meth c H locs cells slots Q (F0 m pc ls (.int x :: .int (nI k) :: .ref a :: rest)) := va_iast hexec hb hK hP hD hS q0 t0 ha ht (vp_in_nI hk hn) hdg (fun H1 locs1 hP1 hD1 hS1 => by
  rw [nI_clamp (Nat.lt_trans hk hn)] at hP1 hD1
  exact kk _ H1 locs1 (set_at ha) up_set hP1 hD1 hS1)
theorem nx_bast (hexec : p.tables.exec = Jvm.exec) (hb : c.code = cc) (hK : va_K D vwCl tys s) (hP : va_P D vwCl ws H) (hD : va_D A ws) (hS : va_S A H0 H locs) (q0 t0 : Nat) {cA : ClassId} {n : Nat} {f : Nat → Int32} (ha : ws[q0]? = some (a, .inl (cA, n, .inl f))) (ht : tys[t0]? = some (cA, .byte)) {k : Nat} {x : Int32} (hk : k < n) (hn : n < 2 ^ 31) (hdg : decode cc pc = .ok (.bastore, 1)) (kk : ∀ (ws1 : va_W) (H1 : Heap) (locs1 : List Loc), ws1[q0]? = some (a, .inl (cA, n, .inl (upd f k (x.toInt8.toInt32)))) → Up q0 ws ws1 → va_P D vwCl ws1 H1 → va_D A ws1 → va_S A H0 H1 locs1 → W p l e R s m args below meth c H1 locs1 cells slots Q (F0 m (pc + 1) ls rest)) : W p l e R s m args below meth c H locs cells slots Q (F0 m pc ls (.int x :: .int (nI k) :: .ref a :: rest)) := va_bast hexec hb hK hP hD hS q0 t0 ha ht (vp_in_nI hk hn) hdg (fun H1 locs1 hP1 hD1 hS1 => by
  rw [nI_clamp (Nat.lt_trans hk hn), vp_nar_byte] at hP1 hD1
  exact kk _ H1 locs1 (set_at ha) up_set hP1 hD1 hS1)
theorem nx_last (hexec : p.tables.exec = Jvm.exec) (hb : c.code = cc) (hK : va_K D vwCl tys s) (hP : va_P D vwCl ws H) (hD : va_D A ws) (hS : va_S A H0 H locs) (q0 t0 : Nat) {cA : ClassId} {n : Nat} {f : Nat → Int64} (ha : ws[q0]? = some (a, .inl (cA, n, .inr (.inl f)))) (ht : tys[t0]? = some (cA, .long)) {k : Nat} {x : Int64} (hk : k < n) (hn : n < 2 ^ 31) (hdg : decode cc pc = .ok (.lastore, 1)) (kk : ∀ (ws1 : va_W) (H1 : Heap) (locs1 : List Loc), ws1[q0]? = some (a, .inl (cA, n, .inr (.inl (vp_updL f k x)))) → Up q0 ws ws1 → va_P D vwCl ws1 H1 → va_D A ws1 → va_S A H0 H1 locs1 → W p l e R s m args below meth c H1 locs1 cells slots Q (F0 m (pc + 1) ls rest)) : W p l e R s m args below meth c H locs cells slots Q (F0 m pc ls (.long x :: .int (nI k) :: .ref a :: rest)) := va_last hexec hb hK hP hD hS q0 t0 ha ht (vp_in_nI hk hn) hdg (fun H1 locs1 hP1 hD1 hS1 => by
  rw [nI_clamp (Nat.lt_trans hk hn)] at hP1 hD1
  exact kk _ H1 locs1 (set_at ha) up_set hP1 hD1 hS1)
theorem nx_put (hexec : p.tables.exec = Jvm.exec) (hb : c.code = cc) {own ref C : String} {T : u_T} {N ci index : Nat} {Ts : List Cond} (hts : ∀ w ∈ Ts, w.before args s = true) (hin : ∀ w ∈ u_ws C T N, w ∈ Ts) (ty0 : Nat → FieldType) (hty : ∀ k, k < N → parseFieldDescriptor (T k).2.2.1 = some (ty0 k)) (hnm : ∀ a, a < N → ∀ b, b < N → a ≠ b → (T a).2.1 ≠ (T b).2.1) (hown : s.vm.findClass own = some m.cls) (hK : va_K D vwCl tys s) (hP : va_P D vwCl ws H) (hD : va_D A ws) (hS0 : va_S A H0 H locs) (q0 : Nat) {fs : List Value} (he : ws[q0]? = some (a, .inr (ci, fs))) (hc : vwCl[ci]? = some (C, T, N)) (k : Nat) (hk : k < N) (hlink : (Cond.fieldLink own index ref (T k).2.1 (T k).2.2.1).before args s = true) (hsame : ∀ x, s.fieldFound? (T k).1 (T k).2.1 (T k).2.2.1 = some x → s.fieldFound? ref (T k).2.1 (T k).2.2.1 = some x) (hfin : (T k).2.2.2 = false) {ty : FieldType} {v : Value} (hd : parseFieldDescriptor (T k).2.2.1 = some ty) (hn : narrow ty v = v) (hfit : fits ty v = true) (hl : k < fs.length) (hdg : decode cc pc = .ok (.putfield index, 3)) (kk : ∀ (ws1 : va_W) (H1 : Heap) (locs1 : List Loc), ws1[q0]? = some (a, .inr (ci, fs.set k v)) → Up q0 ws ws1 → va_P D vwCl ws1 H1 → va_D A ws1 → va_S A H0 H1 locs1 → W p l e R s m args below meth c H1 locs1 cells slots Q (F0 m (pc + 3) ls rest)) : W p l e R s m args below meth c H locs cells slots Q (F0 m pc ls (v :: .ref a :: rest)) := va_put hexec hb hts hin ty0 hty hnm hown hK hP hD hS0 q0 he hc k hk hlink hsame hfin hd hn hfit hl hdg (fun H1 locs1 hP1 hD1 hS1 => kk _ H1 locs1 (set_at he) up_set hP1 hD1 hS1)
theorem nx_putF (hexec : p.tables.exec = Jvm.exec) (hb : c.code = cc) {own ref C : String} {T : u_T} {N ci index : Nat} {Ts : List Cond} (hts : ∀ w ∈ Ts, w.before args s = true) (hin : ∀ w ∈ u_ws C T N, w ∈ Ts) (ty0 : Nat → FieldType) (hty : ∀ k, k < N → parseFieldDescriptor (T k).2.2.1 = some (ty0 k)) (hnm : ∀ a, a < N → ∀ b, b < N → a ≠ b → (T a).2.1 ≠ (T b).2.1) (hown : s.vm.findClass own = some m.cls) (hK : va_K D vwCl tys s) (hP : va_P D vwCl ws H) (hD : va_D A ws) (hS0 : va_S A H0 H locs) (q0 : Nat) {fs : List Value} (he : ws[q0]? = some (a, .inr (ci, fs))) (hc : vwCl[ci]? = some (C, T, N)) (k : Nat) (hk : k < N) (hlink : (Cond.fieldLink own index ref (T k).2.1 (T k).2.2.1).before args s = true) (hsame : ∀ x, s.fieldFound? (T k).1 (T k).2.1 (T k).2.2.1 = some x → s.fieldFound? ref (T k).2.1 (T k).2.2.1 = some x) (hfin : (T k).2.2.2 = true) (hin2 : meth.name = "<init>") (hdecl : (T k).1 = own) {ty : FieldType} {v : Value} (hd : parseFieldDescriptor (T k).2.2.1 = some ty) (hn : narrow ty v = v) (hfit : fits ty v = true) (hl : k < fs.length) (hdg : decode cc pc = .ok (.putfield index, 3)) (kk : ∀ (ws1 : va_W) (H1 : Heap) (locs1 : List Loc), ws1[q0]? = some (a, .inr (ci, fs.set k v)) → Up q0 ws ws1 → va_P D vwCl ws1 H1 → va_D A ws1 → va_S A H0 H1 locs1 → W p l e R s m args below meth c H1 locs1 cells slots Q (F0 m (pc + 3) ls rest)) : W p l e R s m args below meth c H locs cells slots Q (F0 m pc ls (v :: .ref a :: rest)) := va_putF hexec hb hts hin ty0 hty hnm hown hK hP hD hS0 q0 he hc k hk hlink hsame hfin hin2 hdecl hd hn hfit hl hdg (fun H1 locs1 hP1 hD1 hS1 => kk _ H1 locs1 (set_at he) up_set hP1 hD1 hS1)
end NX
end
section
theorem zz_ok : True := trivial
end
