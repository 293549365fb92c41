section
-- ===== PART A: goes FIRST, ahead of the names: the tables' words, and 'selects' of the private methods out of them =====
/-- a private method of a class that the tables say can be made, by its rows of tables_1 -/
def lw_okq (q : MethodName × Nat) : Prop := (q.1.cls ≠ "java/lang/invoke/MethodHandle" ∧ q.1.cls ≠ "java/lang/invoke/VarHandle") ∧ Cond.instantiable q.1.cls q.2 ∈ tables_1 ∧ Cond.privateMethod q.1 ∈ tables_1 ∧ Cond.instanceMethod q.1 ∈ tables_1
theorem lw_p0 : lw_okq (⟨"PavedByNext", "refuse", "(I)I"⟩, 11) := ⟨⟨by decide +kernel, by decide +kernel⟩, List.mem_of_getElem? (i := 13) (by decide +kernel), List.mem_of_getElem? (i := 135) (by decide +kernel), List.mem_of_getElem? (i := 136) (by decide +kernel)⟩
theorem lw_p1 : lw_okq (⟨"PavedByNext", "readTown", "()I"⟩, 11) := ⟨⟨by decide +kernel, by decide +kernel⟩, List.mem_of_getElem? (i := 13) (by decide +kernel), List.mem_of_getElem? (i := 148) (by decide +kernel), List.mem_of_getElem? (i := 149) (by decide +kernel)⟩
theorem lw_p2 : lw_okq (⟨"PavedByNext", "comesToTrial", "(I)Z"⟩, 11) := ⟨⟨by decide +kernel, by decide +kernel⟩, List.mem_of_getElem? (i := 13) (by decide +kernel), List.mem_of_getElem? (i := 264) (by decide +kernel), List.mem_of_getElem? (i := 265) (by decide +kernel)⟩
theorem lw_p3 : lw_okq (⟨"PavedByNext$Town", "add", "(IIII)V"⟩, 12) := ⟨⟨by decide +kernel, by decide +kernel⟩, List.mem_of_getElem? (i := 21) (by decide +kernel), List.mem_of_getElem? (i := 286) (by decide +kernel), List.mem_of_getElem? (i := 287) (by decide +kernel)⟩
theorem lw_p4 : lw_okq (⟨"PavedByNext$Town", "workOf", "(II)I"⟩, 12) := ⟨⟨by decide +kernel, by decide +kernel⟩, List.mem_of_getElem? (i := 21) (by decide +kernel), List.mem_of_getElem? (i := 334) (by decide +kernel), List.mem_of_getElem? (i := 335) (by decide +kernel)⟩
theorem lw_p5 : lw_okq (⟨"PavedByNext$Town", "trustOf", "(I)I"⟩, 12) := ⟨⟨by decide +kernel, by decide +kernel⟩, List.mem_of_getElem? (i := 21) (by decide +kernel), List.mem_of_getElem? (i := 338) (by decide +kernel), List.mem_of_getElem? (i := 339) (by decide +kernel)⟩
theorem lw_p6 : lw_okq (⟨"PavedByNext$Town", "payAll", "()V"⟩, 12) := ⟨⟨by decide +kernel, by decide +kernel⟩, List.mem_of_getElem? (i := 21) (by decide +kernel), List.mem_of_getElem? (i := 343) (by decide +kernel), List.mem_of_getElem? (i := 344) (by decide +kernel)⟩
theorem lw_p7 : lw_okq (⟨"PavedByNext$Town", "pay", "(I)V"⟩, 12) := ⟨⟨by decide +kernel, by decide +kernel⟩, List.mem_of_getElem? (i := 21) (by decide +kernel), List.mem_of_getElem? (i := 347) (by decide +kernel), List.mem_of_getElem? (i := 348) (by decide +kernel)⟩
theorem lw_p8 : lw_okq (⟨"PavedByNext", "findBestMap", "(I)I"⟩, 11) := ⟨⟨by decide +kernel, by decide +kernel⟩, List.mem_of_getElem? (i := 13) (by decide +kernel), List.mem_of_getElem? (i := 431) (by decide +kernel), List.mem_of_getElem? (i := 432) (by decide +kernel)⟩
theorem lw_p9 : lw_okq (⟨"PavedByNext", "goToNextMap", "(I)Z"⟩, 11) := ⟨⟨by decide +kernel, by decide +kernel⟩, List.mem_of_getElem? (i := 13) (by decide +kernel), List.mem_of_getElem? (i := 436) (by decide +kernel), List.mem_of_getElem? (i := 437) (by decide +kernel)⟩
theorem lw_p10 : lw_okq (⟨"PavedByNext", "swapInMap", "(II)V"⟩, 11) := ⟨⟨by decide +kernel, by decide +kernel⟩, List.mem_of_getElem? (i := 13) (by decide +kernel), List.mem_of_getElem? (i := 440) (by decide +kernel), List.mem_of_getElem? (i := 441) (by decide +kernel)⟩
theorem lw_p11 : lw_okq (⟨"PavedByNext", "firstNotAsTold", "(LPavedByNext$Town;)I"⟩, 11) := ⟨⟨by decide +kernel, by decide +kernel⟩, List.mem_of_getElem? (i := 13) (by decide +kernel), List.mem_of_getElem? (i := 478) (by decide +kernel), List.mem_of_getElem? (i := 479) (by decide +kernel)⟩
theorem lw_p12 : lw_okq (⟨"PavedByNextModel", "refuse", "(I)I"⟩, 20) := ⟨⟨by decide +kernel, by decide +kernel⟩, List.mem_of_getElem? (i := 510) (by decide +kernel), List.mem_of_getElem? (i := 584) (by decide +kernel), List.mem_of_getElem? (i := 585) (by decide +kernel)⟩
theorem lw_p13 : lw_okq (⟨"PavedByNextModel", "reads", "()I"⟩, 20) := ⟨⟨by decide +kernel, by decide +kernel⟩, List.mem_of_getElem? (i := 510) (by decide +kernel), List.mem_of_getElem? (i := 592) (by decide +kernel), List.mem_of_getElem? (i := 593) (by decide +kernel)⟩
theorem lw_p14 : lw_okq (⟨"PavedByNextModel", "readsStatement", "()Z"⟩, 20) := ⟨⟨by decide +kernel, by decide +kernel⟩, List.mem_of_getElem? (i := 510) (by decide +kernel), List.mem_of_getElem? (i := 596) (by decide +kernel), List.mem_of_getElem? (i := 597) (by decide +kernel)⟩
theorem lw_p15 : lw_okq (⟨"PavedByNextModel", "sign", "()I"⟩, 20) := ⟨⟨by decide +kernel, by decide +kernel⟩, List.mem_of_getElem? (i := 510) (by decide +kernel), List.mem_of_getElem? (i := 600) (by decide +kernel), List.mem_of_getElem? (i := 601) (by decide +kernel)⟩
def lw_privs_1 : List (MethodName × Nat) := [(⟨"PavedByNext", "refuse", "(I)I"⟩, 11), (⟨"PavedByNext", "readTown", "()I"⟩, 11), (⟨"PavedByNext", "comesToTrial", "(I)Z"⟩, 11), (⟨"PavedByNext$Town", "add", "(IIII)V"⟩, 12), (⟨"PavedByNext$Town", "workOf", "(II)I"⟩, 12), (⟨"PavedByNext$Town", "trustOf", "(I)I"⟩, 12), (⟨"PavedByNext$Town", "payAll", "()V"⟩, 12), (⟨"PavedByNext$Town", "pay", "(I)V"⟩, 12), (⟨"PavedByNext", "findBestMap", "(I)I"⟩, 11), (⟨"PavedByNext", "goToNextMap", "(I)Z"⟩, 11), (⟨"PavedByNext", "swapInMap", "(II)V"⟩, 11), (⟨"PavedByNext", "firstNotAsTold", "(LPavedByNext$Town;)I"⟩, 11), (⟨"PavedByNextModel", "refuse", "(I)I"⟩, 20), (⟨"PavedByNextModel", "reads", "()I"⟩, 20), (⟨"PavedByNextModel", "readsStatement", "()Z"⟩, 20), (⟨"PavedByNextModel", "sign", "()I"⟩, 20)]
theorem lw_r1 : ∀ q ∈ lw_privs_1, lw_okq q := List.forall_mem_cons.mpr ⟨lw_p0, List.forall_mem_cons.mpr ⟨lw_p1, List.forall_mem_cons.mpr ⟨lw_p2, List.forall_mem_cons.mpr ⟨lw_p3, List.forall_mem_cons.mpr ⟨lw_p4, List.forall_mem_cons.mpr ⟨lw_p5, List.forall_mem_cons.mpr ⟨lw_p6, List.forall_mem_cons.mpr ⟨lw_p7, List.forall_mem_cons.mpr ⟨lw_p8, List.forall_mem_cons.mpr ⟨lw_p9, List.forall_mem_cons.mpr ⟨lw_p10, List.forall_mem_cons.mpr ⟨lw_p11, List.forall_mem_cons.mpr ⟨lw_p12, List.forall_mem_cons.mpr ⟨lw_p13, List.forall_mem_cons.mpr ⟨lw_p14, List.forall_mem_cons.mpr ⟨lw_p15, fun _ h => absurd h List.not_mem_nil⟩⟩⟩⟩⟩⟩⟩⟩⟩⟩⟩⟩⟩⟩⟩⟩
theorem lw_p16 : lw_okq (⟨"PavedByNextModel", "readsKind", "()Z"⟩, 20) := ⟨⟨by decide +kernel, by decide +kernel⟩, List.mem_of_getElem? (i := 510) (by decide +kernel), List.mem_of_getElem? (i := 604) (by decide +kernel), List.mem_of_getElem? (i := 605) (by decide +kernel)⟩
theorem lw_p17 : lw_okq (⟨"PavedByNextModel", "readsNumber", "(II)Z"⟩, 20) := ⟨⟨by decide +kernel, by decide +kernel⟩, List.mem_of_getElem? (i := 510) (by decide +kernel), List.mem_of_getElem? (i := 611) (by decide +kernel), List.mem_of_getElem? (i := 612) (by decide +kernel)⟩
theorem lw_p18 : lw_okq (⟨"PavedByNextModel", "takes", "(I)Z"⟩, 20) := ⟨⟨by decide +kernel, by decide +kernel⟩, List.mem_of_getElem? (i := 510) (by decide +kernel), List.mem_of_getElem? (i := 618) (by decide +kernel), List.mem_of_getElem? (i := 619) (by decide +kernel)⟩
theorem lw_p19 : lw_okq (⟨"PavedByNextModel", "comes", "(I)Z"⟩, 20) := ⟨⟨by decide +kernel, by decide +kernel⟩, List.mem_of_getElem? (i := 510) (by decide +kernel), List.mem_of_getElem? (i := 625) (by decide +kernel), List.mem_of_getElem? (i := 626) (by decide +kernel)⟩
theorem lw_p20 : lw_okq (⟨"PavedByNextModel", "isStreet", "(I)Z"⟩, 20) := ⟨⟨by decide +kernel, by decide +kernel⟩, List.mem_of_getElem? (i := 510) (by decide +kernel), List.mem_of_getElem? (i := 636) (by decide +kernel), List.mem_of_getElem? (i := 637) (by decide +kernel)⟩
theorem lw_p21 : lw_okq (⟨"PavedByNextModel", "fed", "(I)I"⟩, 20) := ⟨⟨by decide +kernel, by decide +kernel⟩, List.mem_of_getElem? (i := 510) (by decide +kernel), List.mem_of_getElem? (i := 640) (by decide +kernel), List.mem_of_getElem? (i := 641) (by decide +kernel)⟩
theorem lw_p22 : lw_okq (⟨"PavedByNextModel", "get", "(II)I"⟩, 20) := ⟨⟨by decide +kernel, by decide +kernel⟩, List.mem_of_getElem? (i := 510) (by decide +kernel), List.mem_of_getElem? (i := 644) (by decide +kernel), List.mem_of_getElem? (i := 645) (by decide +kernel)⟩
theorem lw_p23 : lw_okq (⟨"PavedByNextModel", "puts", "(III)V"⟩, 20) := ⟨⟨by decide +kernel, by decide +kernel⟩, List.mem_of_getElem? (i := 510) (by decide +kernel), List.mem_of_getElem? (i := 652) (by decide +kernel), List.mem_of_getElem? (i := 653) (by decide +kernel)⟩
theorem lw_p24 : lw_okq (⟨"PavedByNextModel", "becomes", "(IIII)I"⟩, 20) := ⟨⟨by decide +kernel, by decide +kernel⟩, List.mem_of_getElem? (i := 510) (by decide +kernel), List.mem_of_getElem? (i := 660) (by decide +kernel), List.mem_of_getElem? (i := 661) (by decide +kernel)⟩
theorem lw_p25 : lw_okq (⟨"PavedByNextModel", "goes", "()V"⟩, 20) := ⟨⟨by decide +kernel, by decide +kernel⟩, List.mem_of_getElem? (i := 510) (by decide +kernel), List.mem_of_getElem? (i := 672) (by decide +kernel), List.mem_of_getElem? (i := 673) (by decide +kernel)⟩
theorem lw_p26 : lw_okq (⟨"PavedByNextModel", "mendsBy", "(I)I"⟩, 20) := ⟨⟨by decide +kernel, by decide +kernel⟩, List.mem_of_getElem? (i := 510) (by decide +kernel), List.mem_of_getElem? (i := 676) (by decide +kernel), List.mem_of_getElem? (i := 677) (by decide +kernel)⟩
theorem lw_p27 : lw_okq (⟨"PavedByNextModel", "trustOf", "(I)I"⟩, 20) := ⟨⟨by decide +kernel, by decide +kernel⟩, List.mem_of_getElem? (i := 510) (by decide +kernel), List.mem_of_getElem? (i := 680) (by decide +kernel), List.mem_of_getElem? (i := 681) (by decide +kernel)⟩
theorem lw_p28 : lw_okq (⟨"PavedByNextModel", "paysFor", "(I)V"⟩, 20) := ⟨⟨by decide +kernel, by decide +kernel⟩, List.mem_of_getElem? (i := 510) (by decide +kernel), List.mem_of_getElem? (i := 684) (by decide +kernel), List.mem_of_getElem? (i := 685) (by decide +kernel)⟩
theorem lw_p29 : lw_okq (⟨"PavedByNextModel", "allMud", "()I"⟩, 20) := ⟨⟨by decide +kernel, by decide +kernel⟩, List.mem_of_getElem? (i := 510) (by decide +kernel), List.mem_of_getElem? (i := 688) (by decide +kernel), List.mem_of_getElem? (i := 689) (by decide +kernel)⟩
theorem lw_p30 : lw_okq (⟨"PavedByNextModel", "mudOf", "(I)I"⟩, 20) := ⟨⟨by decide +kernel, by decide +kernel⟩, List.mem_of_getElem? (i := 510) (by decide +kernel), List.mem_of_getElem? (i := 692) (by decide +kernel), List.mem_of_getElem? (i := 693) (by decide +kernel)⟩
theorem lw_p31 : lw_okq (⟨"PavedByNextModel", "begins", "()V"⟩, 20) := ⟨⟨by decide +kernel, by decide +kernel⟩, List.mem_of_getElem? (i := 510) (by decide +kernel), List.mem_of_getElem? (i := 700) (by decide +kernel), List.mem_of_getElem? (i := 701) (by decide +kernel)⟩
def lw_privs_2 : List (MethodName × Nat) := [(⟨"PavedByNextModel", "readsKind", "()Z"⟩, 20), (⟨"PavedByNextModel", "readsNumber", "(II)Z"⟩, 20), (⟨"PavedByNextModel", "takes", "(I)Z"⟩, 20), (⟨"PavedByNextModel", "comes", "(I)Z"⟩, 20), (⟨"PavedByNextModel", "isStreet", "(I)Z"⟩, 20), (⟨"PavedByNextModel", "fed", "(I)I"⟩, 20), (⟨"PavedByNextModel", "get", "(II)I"⟩, 20), (⟨"PavedByNextModel", "puts", "(III)V"⟩, 20), (⟨"PavedByNextModel", "becomes", "(IIII)I"⟩, 20), (⟨"PavedByNextModel", "goes", "()V"⟩, 20), (⟨"PavedByNextModel", "mendsBy", "(I)I"⟩, 20), (⟨"PavedByNextModel", "trustOf", "(I)I"⟩, 20), (⟨"PavedByNextModel", "paysFor", "(I)V"⟩, 20), (⟨"PavedByNextModel", "allMud", "()I"⟩, 20), (⟨"PavedByNextModel", "mudOf", "(I)I"⟩, 20), (⟨"PavedByNextModel", "begins", "()V"⟩, 20)]
theorem lw_r2 : ∀ q ∈ lw_privs_2, lw_okq q := List.forall_mem_cons.mpr ⟨lw_p16, List.forall_mem_cons.mpr ⟨lw_p17, List.forall_mem_cons.mpr ⟨lw_p18, List.forall_mem_cons.mpr ⟨lw_p19, List.forall_mem_cons.mpr ⟨lw_p20, List.forall_mem_cons.mpr ⟨lw_p21, List.forall_mem_cons.mpr ⟨lw_p22, List.forall_mem_cons.mpr ⟨lw_p23, List.forall_mem_cons.mpr ⟨lw_p24, List.forall_mem_cons.mpr ⟨lw_p25, List.forall_mem_cons.mpr ⟨lw_p26, List.forall_mem_cons.mpr ⟨lw_p27, List.forall_mem_cons.mpr ⟨lw_p28, List.forall_mem_cons.mpr ⟨lw_p29, List.forall_mem_cons.mpr ⟨lw_p30, List.forall_mem_cons.mpr ⟨lw_p31, fun _ h => absurd h List.not_mem_nil⟩⟩⟩⟩⟩⟩⟩⟩⟩⟩⟩⟩⟩⟩⟩⟩
theorem lw_p32 : lw_okq (⟨"PavedByNextModel", "goesFor", "(I)V"⟩, 20) := ⟨⟨by decide +kernel, by decide +kernel⟩, List.mem_of_getElem? (i := 510) (by decide +kernel), List.mem_of_getElem? (i := 704) (by decide +kernel), List.mem_of_getElem? (i := 705) (by decide +kernel)⟩
theorem lw_p33 : lw_okq (⟨"PavedByNextModel", "ends", "()V"⟩, 20) := ⟨⟨by decide +kernel, by decide +kernel⟩, List.mem_of_getElem? (i := 510) (by decide +kernel), List.mem_of_getElem? (i := 708) (by decide +kernel), List.mem_of_getElem? (i := 709) (by decide +kernel)⟩
theorem lw_p34 : lw_okq (⟨"PavedByNextModel", "isAsThen", "()Z"⟩, 20) := ⟨⟨by decide +kernel, by decide +kernel⟩, List.mem_of_getElem? (i := 510) (by decide +kernel), List.mem_of_getElem? (i := 720) (by decide +kernel), List.mem_of_getElem? (i := 721) (by decide +kernel)⟩
theorem lw_p35 : lw_okq (⟨"PavedByNextModel", "wayOf", "(II)I"⟩, 20) := ⟨⟨by decide +kernel, by decide +kernel⟩, List.mem_of_getElem? (i := 510) (by decide +kernel), List.mem_of_getElem? (i := 728) (by decide +kernel), List.mem_of_getElem? (i := 729) (by decide +kernel)⟩
theorem lw_p36 : lw_okq (⟨"PavedByNextModel", "isOnRing", "(I)Z"⟩, 20) := ⟨⟨by decide +kernel, by decide +kernel⟩, List.mem_of_getElem? (i := 510) (by decide +kernel), List.mem_of_getElem? (i := 736) (by decide +kernel), List.mem_of_getElem? (i := 737) (by decide +kernel)⟩
theorem lw_p37 : lw_okq (⟨"PavedByNextModel", "mudBehind", "(I)I"⟩, 20) := ⟨⟨by decide +kernel, by decide +kernel⟩, List.mem_of_getElem? (i := 510) (by decide +kernel), List.mem_of_getElem? (i := 761) (by decide +kernel), List.mem_of_getElem? (i := 762) (by decide +kernel)⟩
theorem lw_p38 : lw_okq (⟨"PavedByNextModel", "maps", "(III)V"⟩, 20) := ⟨⟨by decide +kernel, by decide +kernel⟩, List.mem_of_getElem? (i := 510) (by decide +kernel), List.mem_of_getElem? (i := 769) (by decide +kernel), List.mem_of_getElem? (i := 770) (by decide +kernel)⟩
theorem lw_p39 : lw_okq (⟨"PavedByNextModel", "isAsTold", "()Z"⟩, 20) := ⟨⟨by decide +kernel, by decide +kernel⟩, List.mem_of_getElem? (i := 510) (by decide +kernel), List.mem_of_getElem? (i := 797) (by decide +kernel), List.mem_of_getElem? (i := 798) (by decide +kernel)⟩
def lw_privs_3 : List (MethodName × Nat) := [(⟨"PavedByNextModel", "goesFor", "(I)V"⟩, 20), (⟨"PavedByNextModel", "ends", "()V"⟩, 20), (⟨"PavedByNextModel", "isAsThen", "()Z"⟩, 20), (⟨"PavedByNextModel", "wayOf", "(II)I"⟩, 20), (⟨"PavedByNextModel", "isOnRing", "(I)Z"⟩, 20), (⟨"PavedByNextModel", "mudBehind", "(I)I"⟩, 20), (⟨"PavedByNextModel", "maps", "(III)V"⟩, 20), (⟨"PavedByNextModel", "isAsTold", "()Z"⟩, 20)]
theorem lw_r3 : ∀ q ∈ lw_privs_3, lw_okq q := List.forall_mem_cons.mpr ⟨lw_p32, List.forall_mem_cons.mpr ⟨lw_p33, List.forall_mem_cons.mpr ⟨lw_p34, List.forall_mem_cons.mpr ⟨lw_p35, List.forall_mem_cons.mpr ⟨lw_p36, List.forall_mem_cons.mpr ⟨lw_p37, List.forall_mem_cons.mpr ⟨lw_p38, List.forall_mem_cons.mpr ⟨lw_p39, fun _ h => absurd h List.not_mem_nil⟩⟩⟩⟩⟩⟩⟩⟩
def lw_privs : List (MethodName × Nat) := lw_privs_1 ++ (lw_privs_2 ++ (lw_privs_3))
def lw_tbl : List Cond := k2_sels lw_privs ++ tables_1
theorem lw_privs_ok : ∀ q ∈ lw_privs, lw_okq q := by
  show ∀ q ∈ lw_privs_1 ++ (lw_privs_2 ++ (lw_privs_3)), lw_okq q
  exact List.forall_mem_append.mpr ⟨lw_r1, List.forall_mem_append.mpr ⟨lw_r2, lw_r3⟩⟩
/-! ===== BEGIN words of one list among another's, by their places ===== -/
theorem goodIn_r {big : List Cond} (ws : List Cond) (ps : List Nat) (hp : ws = ps.filterMap (fun i => big[i]?)) (h : ws.all goodWord = true) : GoodIn big ws := by
  intro w hw
  have h1 := List.all_eq_true.mp h w hw
  rw [hp] at hw
  obtain ⟨i, -, hi⟩ := List.mem_filterMap.mp hw
  have hm : w ∈ big := by first | exact List.mem_of_getElem? hi | exact List.getElem?_mem hi
  exact ⟨hm, good_of_word h1⟩
theorem goodIn_app {big a b : List Cond} (ha : GoodIn big a) (hb : GoodIn big b) : GoodIn big (a ++ b) := fun w h => (List.mem_append.mp h).elim (ha w) (hb w)
theorem goodIn_ca {big a b : List Cond} {c : Cond} (ha : GoodIn big (c :: a)) (hb : GoodIn big b) : GoodIn big (c :: (a ++ b)) := fun w h => (List.mem_cons.mp h).elim (fun e => ha w (List.mem_cons.mpr (Or.inl e))) (fun h => (List.mem_append.mp h).elim (fun h => ha w (List.mem_cons.mpr (Or.inr h))) (hb w))
theorem goodIn_sub {big ws : List Cond} (hm : ∀ w ∈ ws, w ∈ big) (h : ws.all goodWord = true) : GoodIn big ws := fun w hw => ⟨hm w hw, good_of_word (List.all_eq_true.mp h w hw)⟩
/-! ===== END ===== -/

/-! ===== BEGIN printed: names, fields, word lists, decode rows ===== -/
def RX0 : String := "PavedByNext$Text"
def TX0 : u_T := fun k => match k with
  | 0 => ("PavedByNext$Text", "letters", "[C", true)
  | _ => ("PavedByNext$Text", "length", "I", false)
def tyX0 : Nat → FieldType := fun k => match k with
  | 0 => .array .char
  | _ => .int
abbrev wsX00 : List Cond := u_ws RX0 TX0 2
theorem nmX0 : ∀ a, a < 2 → ∀ b, b < 2 → a ≠ b → (TX0 a).2.1 ≠ (TX0 b).2.1 := by decide +kernel
theorem tyX0_ok : ∀ k, k < 2 → parseFieldDescriptor (TX0 k).2.2.1 = some (tyX0 k) := by decide +kernel
abbrev cX0_init : ByteArray := prog_2_method_1_code
def yX0_init : MethodName := ⟨RX0, "<init>", "()V"⟩
abbrev cX0_isFull : ByteArray := prog_2_method_2_code
def yX0_isFull : MethodName := ⟨RX0, "isFull", "()Z"⟩
abbrev cX0_append : ByteArray := prog_2_method_3_code
def yX0_append : MethodName := ⟨RX0, "append", "(C)V"⟩
abbrev cX0_at : ByteArray := prog_2_method_4_code
def yX0_at : MethodName := ⟨RX0, "at", "(I)C"⟩
abbrev cX0_digit : ByteArray := prog_2_method_5_code
def yX0_digit : MethodName := ⟨RX0, "digit", "(I)I"⟩
abbrev cX0_oneOrTwoDigits : ByteArray := prog_2_method_6_code
def yX0_oneOrTwoDigits : MethodName := ⟨RX0, "oneOrTwoDigits", "(I)I"⟩
abbrev cX0_formFault : ByteArray := prog_2_method_7_code
def yX0_formFault : MethodName := ⟨RX0, "formFault", "()I"⟩
abbrev cX0_dueBehind : ByteArray := prog_2_method_8_code
def yX0_dueBehind : MethodName := ⟨RX0, "dueBehind", "(IC)I"⟩
abbrev cX0_dueInStatement : ByteArray := prog_2_method_9_code
def yX0_dueInStatement : MethodName := ⟨RX0, "dueInStatement", "(C)I"⟩
abbrev cX0_isDigit : ByteArray := prog_2_method_10_code
def yX0_isDigit : MethodName := ⟨RX0, "isDigit", "(C)Z"⟩
def RX1 : String := "PavedByNext$Town"
def TX1 : u_T := fun k => match k with
  | 0 => ("PavedByNext$Town", "kind", "[I", true)
  | 1 => ("PavedByNext$Town", "mud", "[I", true)
  | 2 => ("PavedByNext$Town", "wear", "[I", true)
  | 3 => ("PavedByNext$Town", "hands", "[I", true)
  | 4 => ("PavedByNext$Town", "pence", "[I", true)
  | 5 => ("PavedByNext$Town", "mends", "[I", true)
  | 6 => ("PavedByNext$Town", "mended", "[I", true)
  | 7 => ("PavedByNext$Town", "work", "[I", true)
  | 8 => ("PavedByNext$Town", "count", "I", false)
  | 9 => ("PavedByNext$Town", "year", "I", false)
  | 10 => ("PavedByNext$Town", "lazed", "I", false)
  | _ => ("PavedByNext$Town", "left", "I", false)
def tyX1 : Nat → FieldType := fun k => match k with
  | 0 => .array .int
  | 1 => .array .int
  | 2 => .array .int
  | 3 => .array .int
  | 4 => .array .int
  | 5 => .array .int
  | 6 => .array .int
  | 7 => .array .int
  | 8 => .int
  | 9 => .int
  | 10 => .int
  | _ => .int
abbrev wsX10 : List Cond := u_ws RX1 TX1 12
theorem nmX1 : ∀ a, a < 12 → ∀ b, b < 12 → a ≠ b → (TX1 a).2.1 ≠ (TX1 b).2.1 := by decide +kernel
theorem tyX1_ok : ∀ k, k < 12 → parseFieldDescriptor (TX1 k).2.2.1 = some (tyX1 k) := by decide +kernel
abbrev cX1_init : ByteArray := prog_3_method_1_code
def yX1_init : MethodName := ⟨RX1, "<init>", "()V"⟩
abbrev cX1_copyFrom : ByteArray := prog_3_method_2_code
def yX1_copyFrom : MethodName := ⟨RX1, "copyFrom", "(LPavedByNext$Town;)V"⟩
abbrev cX1_isStreet : ByteArray := prog_3_method_3_code
def yX1_isStreet : MethodName := ⟨RX1, "isStreet", "(I)Z"⟩
abbrev cX1_isFull : ByteArray := prog_3_method_4_code
def yX1_isFull : MethodName := ⟨RX1, "isFull", "()Z"⟩
abbrev cX1_tell : ByteArray := prog_3_method_5_code
def yX1_tell : MethodName := ⟨RX1, "tell", "(IIII)Z"⟩
abbrev cX1_add : ByteArray := prog_3_method_6_code
def yX1_add : MethodName := ⟨RX1, "add", "(IIII)V"⟩
abbrev cX1_tellWhoMends : ByteArray := prog_3_method_7_code
def yX1_tellWhoMends : MethodName := ⟨RX1, "tellWhoMends", "(II)Z"⟩
abbrev cX1_tellPence : ByteArray := prog_3_method_8_code
def yX1_tellPence : MethodName := ⟨RX1, "tellPence", "(II)Z"⟩
abbrev cX1_putBehind : ByteArray := prog_3_method_9_code
def yX1_putBehind : MethodName := ⟨RX1, "putBehind", "(II)V"⟩
abbrev cX1_leave : ByteArray := prog_3_method_10_code
def yX1_leave : MethodName := ⟨RX1, "leave", "(I)V"⟩
abbrev cX1_mudBehind : ByteArray := prog_3_method_11_code
def yX1_mudBehind : MethodName := ⟨RX1, "mudBehind", "(I)I"⟩
abbrev cX1_passYear : ByteArray := prog_3_method_12_code
def yX1_passYear : MethodName := ⟨RX1, "passYear", "()V"⟩
abbrev cX1_workOf : ByteArray := prog_3_method_13_code
def yX1_workOf : MethodName := ⟨RX1, "workOf", "(II)I"⟩
abbrev cX1_trustOf : ByteArray := prog_3_method_14_code
def yX1_trustOf : MethodName := ⟨RX1, "trustOf", "(I)I"⟩
abbrev cX1_payAll : ByteArray := prog_3_method_15_code
def yX1_payAll : MethodName := ⟨RX1, "payAll", "()V"⟩
abbrev cX1_pay : ByteArray := prog_3_method_16_code
def yX1_pay : MethodName := ⟨RX1, "pay", "(I)V"⟩
abbrev cX1_mudOf : ByteArray := prog_3_method_17_code
def yX1_mudOf : MethodName := ⟨RX1, "mudOf", "(I)I"⟩
abbrev cX1_mudOfAll : ByteArray := prog_3_method_18_code
def yX1_mudOfAll : MethodName := ⟨RX1, "mudOfAll", "()I"⟩
abbrev cX1_penceOfAll : ByteArray := prog_3_method_19_code
def yX1_penceOfAll : MethodName := ⟨RX1, "penceOfAll", "()I"⟩
abbrev cX1_muddiest : ByteArray := prog_3_method_20_code
def yX1_muddiest : MethodName := ⟨RX1, "muddiest", "()I"⟩
abbrev cX1_liesLike : ByteArray := prog_3_method_21_code
def yX1_liesLike : MethodName := ⟨RX1, "liesLike", "(LPavedByNext$Town;)Z"⟩
abbrev cX1_fed : ByteArray := prog_3_method_22_code
def yX1_fed : MethodName := ⟨RX1, "fed", "(I)I"⟩
abbrev cX1_stepFrom : ByteArray := prog_3_method_23_code
def yX1_stepFrom : MethodName := ⟨RX1, "stepFrom", "(I)I"⟩
abbrev cX1_isOnRing : ByteArray := prog_3_method_24_code
def yX1_isOnRing : MethodName := ⟨RX1, "isOnRing", "(I)Z"⟩
abbrev cX1_leastOnTheWayFrom : ByteArray := prog_3_method_25_code
def yX1_leastOnTheWayFrom : MethodName := ⟨RX1, "leastOnTheWayFrom", "(I)I"⟩
def RX2 : String := "PavedByNext"
def TX2 : u_T := fun k => match k with
  | 0 => ("PavedByNext", "now", "LPavedByNext$Town;", true)
  | 1 => ("PavedByNext", "kept", "LPavedByNext$Town;", true)
  | 2 => ("PavedByNext", "trial", "LPavedByNext$Town;", true)
  | 3 => ("PavedByNext", "rival", "LPavedByNext$Town;", true)
  | 4 => ("PavedByNext", "text", "LPavedByNext$Text;", true)
  | 5 => ("PavedByNext", "map", "[I", true)
  | 6 => ("PavedByNext", "bestOfMaps", "[I", true)
  | 7 => ("PavedByNext", "told", "[I", true)
  | 8 => ("PavedByNext", "refused", "[I", true)
  | 9 => ("PavedByNext", "toldLength", "I", false)
  | _ => ("PavedByNext", "imageTaken", "Z", false)
def tyX2 : Nat → FieldType := fun k => match k with
  | 0 => .object "PavedByNext$Town"
  | 1 => .object "PavedByNext$Town"
  | 2 => .object "PavedByNext$Town"
  | 3 => .object "PavedByNext$Town"
  | 4 => .object "PavedByNext$Text"
  | 5 => .array .int
  | 6 => .array .int
  | 7 => .array .int
  | 8 => .array .int
  | 9 => .int
  | _ => .boolean
abbrev wsX20 : List Cond := u_ws RX2 TX2 11
theorem nmX2 : ∀ a, a < 11 → ∀ b, b < 11 → a ≠ b → (TX2 a).2.1 ≠ (TX2 b).2.1 := by decide +kernel
theorem tyX2_ok : ∀ k, k < 11 → parseFieldDescriptor (TX2 k).2.2.1 = some (tyX2 k) := by decide +kernel
abbrev cX2_init : ByteArray := prog_1_method_1_code
def yX2_init : MethodName := ⟨RX2, "<init>", "()V"⟩
abbrev cX2_letter : ByteArray := prog_1_method_2_code
def yX2_letter : MethodName := ⟨RX2, "letter", "(I)I"⟩
abbrev cX2_town : ByteArray := prog_1_method_3_code
def yX2_town : MethodName := ⟨RX2, "town", "()I"⟩
abbrev cX2_street : ByteArray := prog_1_method_4_code
def yX2_street : MethodName := ⟨RX2, "street", "(II)I"⟩
abbrev cX2_mends : ByteArray := prog_1_method_5_code
def yX2_mends : MethodName := ⟨RX2, "mends", "(II)I"⟩
abbrev cX2_pence : ByteArray := prog_1_method_6_code
def yX2_pence : MethodName := ⟨RX2, "pence", "(II)I"⟩
abbrev cX2_hands : ByteArray := prog_1_method_7_code
def yX2_hands : MethodName := ⟨RX2, "hands", "(II)I"⟩
abbrev cX2_year : ByteArray := prog_1_method_8_code
def yX2_year : MethodName := ⟨RX2, "year", "()I"⟩
abbrev cX2_mud : ByteArray := prog_1_method_9_code
def yX2_mud : MethodName := ⟨RX2, "mud", "(II)I"⟩
abbrev cX2_worst : ByteArray := prog_1_method_10_code
def yX2_worst : MethodName := ⟨RX2, "worst", "(II)I"⟩
abbrev cX2_again : ByteArray := prog_1_method_11_code
def yX2_again : MethodName := ⟨RX2, "again", "()I"⟩
abbrev cX2_way : ByteArray := prog_1_method_12_code
def yX2_way : MethodName := ⟨RX2, "way", "(II)I"⟩
abbrev cX2_ring : ByteArray := prog_1_method_13_code
def yX2_ring : MethodName := ⟨RX2, "ring", "()I"⟩
abbrev cX2_tail : ByteArray := prog_1_method_14_code
def yX2_tail : MethodName := ⟨RX2, "tail", "(I)I"⟩
abbrev cX2_rings : ByteArray := prog_1_method_15_code
def yX2_rings : MethodName := ⟨RX2, "rings", "()I"⟩
abbrev cX2_never : ByteArray := prog_1_method_16_code
def yX2_never : MethodName := ⟨RX2, "never", "()I"⟩
abbrev cX2_felt : ByteArray := prog_1_method_17_code
def yX2_felt : MethodName := ⟨RX2, "felt", "(II)I"⟩
abbrev cX2_worth : ByteArray := prog_1_method_18_code
def yX2_worth : MethodName := ⟨RX2, "worth", "(II)I"⟩
abbrev cX2_bestMap : ByteArray := prog_1_method_19_code
def yX2_bestMap : MethodName := ⟨RX2, "bestMap", "(II)I"⟩
abbrev cX2_change : ByteArray := prog_1_method_20_code
def yX2_change : MethodName := ⟨RX2, "change", "(I)I"⟩
abbrev cX2_cure : ByteArray := prog_1_method_21_code
def yX2_cure : MethodName := ⟨RX2, "cure", "(II)I"⟩
abbrev cX2_putIn : ByteArray := prog_1_method_22_code
def yX2_putIn : MethodName := ⟨RX2, "putIn", "(III)I"⟩
abbrev cX2_takeOut : ByteArray := prog_1_method_23_code
def yX2_takeOut : MethodName := ⟨RX2, "takeOut", "(II)I"⟩
abbrev cX2_row : ByteArray := prog_1_method_24_code
def yX2_row : MethodName := ⟨RX2, "row", "(I)I"⟩
abbrev cX2_fitting : ByteArray := prog_1_method_25_code
def yX2_fitting : MethodName := ⟨RX2, "fitting", "(II)I"⟩
abbrev cX2_judge : ByteArray := prog_1_method_26_code
def yX2_judge : MethodName := ⟨RX2, "judge", "()I"⟩
abbrev cX2_seeds : ByteArray := prog_1_method_27_code
def yX2_seeds : MethodName := ⟨RX2, "seeds", "(II)I"⟩
abbrev cX2_image : ByteArray := prog_1_method_28_code
def yX2_image : MethodName := ⟨RX2, "image", "()I"⟩
abbrev cX2_on : ByteArray := prog_1_method_29_code
def yX2_on : MethodName := ⟨RX2, "on", "()I"⟩
abbrev cX2_count : ByteArray := prog_1_method_30_code
def yX2_count : MethodName := ⟨RX2, "count", "(I)I"⟩
abbrev cX2_refuse : ByteArray := prog_1_method_31_code
def yX2_refuse : MethodName := ⟨RX2, "refuse", "(I)I"⟩
abbrev cX2_refusalOf : ByteArray := prog_1_method_32_code
def yX2_refusalOf : MethodName := ⟨RX2, "refusalOf", "(ZIII)I"⟩
abbrev cX2_readTown : ByteArray := prog_1_method_33_code
def yX2_readTown : MethodName := ⟨RX2, "readTown", "()I"⟩
abbrev cX2_comesToTrial : ByteArray := prog_1_method_34_code
def yX2_comesToTrial : MethodName := ⟨RX2, "comesToTrial", "(I)Z"⟩
abbrev cX2_firstNotAsTold : ByteArray := prog_1_method_35_code
def yX2_firstNotAsTold : MethodName := ⟨RX2, "firstNotAsTold", "(LPavedByNext$Town;)I"⟩
abbrev cX2_findBestMap : ByteArray := prog_1_method_36_code
def yX2_findBestMap : MethodName := ⟨RX2, "findBestMap", "(I)I"⟩
abbrev cX2_goToNextMap : ByteArray := prog_1_method_37_code
def yX2_goToNextMap : MethodName := ⟨RX2, "goToNextMap", "(I)Z"⟩
abbrev cX2_swapInMap : ByteArray := prog_1_method_38_code
def yX2_swapInMap : MethodName := ⟨RX2, "swapInMap", "(II)V"⟩
def RX3 : String := "PavedByNextModel"
def TX3 : u_T := fun k => match k with
  | 0 => ("PavedByNextModel", "refusals", "[I", true)
  | 1 => ("PavedByNextModel", "s", "[I", true)
  | 2 => ("PavedByNextModel", "image", "[I", true)
  | 3 => ("PavedByNextModel", "read", "[I", true)
  | 4 => ("PavedByNextModel", "mind", "[I", true)
  | 5 => ("PavedByNextModel", "isImage", "Z", false)
  | 6 => ("PavedByNextModel", "lazed", "I", false)
  | 7 => ("PavedByNextModel", "empty", "I", false)
  | 8 => ("PavedByNextModel", "tape", "[I", true)
  | 9 => ("PavedByNextModel", "told", "[I", true)
  | 10 => ("PavedByNextModel", "taped", "I", false)
  | 11 => ("PavedByNextModel", "at", "I", false)
  | 12 => ("PavedByNextModel", "mended", "[I", true)
  | 13 => ("PavedByNextModel", "then", "[I", true)
  | 14 => ("PavedByNextModel", "muds", "[I", true)
  | 15 => ("PavedByNextModel", "map", "[I", true)
  | 16 => ("PavedByNextModel", "bestMap", "[I", true)
  | 17 => ("PavedByNextModel", "leastMud", "I", false)
  | 18 => ("PavedByNextModel", "row", "[I", true)
  | _ => ("PavedByNextModel", "rowed", "I", false)
def tyX3 : Nat → FieldType := fun k => match k with
  | 0 => .array .int
  | 1 => .array .int
  | 2 => .array .int
  | 3 => .array .int
  | 4 => .array .int
  | 5 => .boolean
  | 6 => .int
  | 7 => .int
  | 8 => .array .int
  | 9 => .array .int
  | 10 => .int
  | 11 => .int
  | 12 => .array .int
  | 13 => .array .int
  | 14 => .array .int
  | 15 => .array .int
  | 16 => .array .int
  | 17 => .int
  | 18 => .array .int
  | _ => .int
abbrev wsX30 : List Cond := u_ws RX3 TX3 20
theorem nmX3 : ∀ a, a < 20 → ∀ b, b < 20 → a ≠ b → (TX3 a).2.1 ≠ (TX3 b).2.1 := by decide +kernel
theorem tyX3_ok : ∀ k, k < 20 → parseFieldDescriptor (TX3 k).2.2.1 = some (tyX3 k) := by decide +kernel
abbrev cX3_init : ByteArray := prog_5_method_1_code
def yX3_init : MethodName := ⟨RX3, "<init>", "()V"⟩
abbrev cX3_refuse : ByteArray := prog_5_method_2_code
def yX3_refuse : MethodName := ⟨RX3, "refuse", "(I)I"⟩
abbrev cX3_isIn : ByteArray := prog_5_method_3_code
def yX3_isIn : MethodName := ⟨RX3, "isIn", "(II)Z"⟩
abbrev cX3_within : ByteArray := prog_5_method_4_code
def yX3_within : MethodName := ⟨RX3, "within", "(III)I"⟩
abbrev cX3_lays : ByteArray := prog_5_method_5_code
def yX3_lays : MethodName := ⟨RX3, "lays", "([I[I)V"⟩
abbrev cX3_begins : ByteArray := prog_5_method_6_code
def yX3_begins : MethodName := ⟨RX3, "begins", "()V"⟩
abbrev cX3_ends : ByteArray := prog_5_method_7_code
def yX3_ends : MethodName := ⟨RX3, "ends", "()V"⟩
abbrev cX3_isStreet : ByteArray := prog_5_method_8_code
def yX3_isStreet : MethodName := ⟨RX3, "isStreet", "(I)Z"⟩
abbrev cX3_get : ByteArray := prog_5_method_9_code
def yX3_get : MethodName := ⟨RX3, "get", "(II)I"⟩
abbrev cX3_puts : ByteArray := prog_5_method_10_code
def yX3_puts : MethodName := ⟨RX3, "puts", "(III)V"⟩
abbrev cX3_letter : ByteArray := prog_5_method_11_code
def yX3_letter : MethodName := ⟨RX3, "letter", "(I)I"⟩
abbrev cX3_sign : ByteArray := prog_5_method_12_code
def yX3_sign : MethodName := ⟨RX3, "sign", "()I"⟩
abbrev cX3_takes : ByteArray := prog_5_method_13_code
def yX3_takes : MethodName := ⟨RX3, "takes", "(I)Z"⟩
abbrev cX3_readsNumber : ByteArray := prog_5_method_14_code
def yX3_readsNumber : MethodName := ⟨RX3, "readsNumber", "(II)Z"⟩
abbrev cX3_kindOf : ByteArray := prog_5_method_15_code
def yX3_kindOf : MethodName := ⟨RX3, "kindOf", "(I)I"⟩
abbrev cX3_readsKind : ByteArray := prog_5_method_16_code
def yX3_readsKind : MethodName := ⟨RX3, "readsKind", "()Z"⟩
abbrev cX3_readsStatement : ByteArray := prog_5_method_17_code
def yX3_readsStatement : MethodName := ⟨RX3, "readsStatement", "()Z"⟩
abbrev cX3_setIn : ByteArray := prog_5_method_18_code
def yX3_setIn : MethodName := ⟨RX3, "setIn", "([IIII)V"⟩
abbrev cX3_comes : ByteArray := prog_5_method_19_code
def yX3_comes : MethodName := ⟨RX3, "comes", "(I)Z"⟩
abbrev cX3_reads : ByteArray := prog_5_method_20_code
def yX3_reads : MethodName := ⟨RX3, "reads", "()I"⟩
abbrev cX3_town : ByteArray := prog_5_method_21_code
def yX3_town : MethodName := ⟨RX3, "town", "()I"⟩
abbrev cX3_trustOf : ByteArray := prog_5_method_22_code
def yX3_trustOf : MethodName := ⟨RX3, "trustOf", "(I)I"⟩
abbrev cX3_mendsBy : ByteArray := prog_5_method_23_code
def yX3_mendsBy : MethodName := ⟨RX3, "mendsBy", "(I)I"⟩
abbrev cX3_paysFor : ByteArray := prog_5_method_24_code
def yX3_paysFor : MethodName := ⟨RX3, "paysFor", "(I)V"⟩
abbrev cX3_goes : ByteArray := prog_5_method_25_code
def yX3_goes : MethodName := ⟨RX3, "goes", "()V"⟩
abbrev cX3_goesFor : ByteArray := prog_5_method_26_code
def yX3_goesFor : MethodName := ⟨RX3, "goesFor", "(I)V"⟩
abbrev cX3_mudOf : ByteArray := prog_5_method_27_code
def yX3_mudOf : MethodName := ⟨RX3, "mudOf", "(I)I"⟩
abbrev cX3_allMud : ByteArray := prog_5_method_28_code
def yX3_allMud : MethodName := ⟨RX3, "allMud", "()I"⟩
abbrev cX3_mudBehind : ByteArray := prog_5_method_29_code
def yX3_mudBehind : MethodName := ⟨RX3, "mudBehind", "(I)I"⟩
abbrev cX3_fed : ByteArray := prog_5_method_30_code
def yX3_fed : MethodName := ⟨RX3, "fed", "(I)I"⟩
abbrev cX3_street : ByteArray := prog_5_method_31_code
def yX3_street : MethodName := ⟨RX3, "street", "(II)I"⟩
abbrev cX3_mends : ByteArray := prog_5_method_32_code
def yX3_mends : MethodName := ⟨RX3, "mends", "(II)I"⟩
abbrev cX3_becomes : ByteArray := prog_5_method_33_code
def yX3_becomes : MethodName := ⟨RX3, "becomes", "(IIII)I"⟩
abbrev cX3_pence : ByteArray := prog_5_method_34_code
def yX3_pence : MethodName := ⟨RX3, "pence", "(II)I"⟩
abbrev cX3_hands : ByteArray := prog_5_method_35_code
def yX3_hands : MethodName := ⟨RX3, "hands", "(II)I"⟩
abbrev cX3_year : ByteArray := prog_5_method_36_code
def yX3_year : MethodName := ⟨RX3, "year", "()I"⟩
abbrev cX3_mud : ByteArray := prog_5_method_37_code
def yX3_mud : MethodName := ⟨RX3, "mud", "(II)I"⟩
abbrev cX3_worst : ByteArray := prog_5_method_38_code
def yX3_worst : MethodName := ⟨RX3, "worst", "(II)I"⟩
abbrev cX3_isAsThen : ByteArray := prog_5_method_39_code
def yX3_isAsThen : MethodName := ⟨RX3, "isAsThen", "()Z"⟩
abbrev cX3_again : ByteArray := prog_5_method_40_code
def yX3_again : MethodName := ⟨RX3, "again", "()I"⟩
abbrev cX3_wayOf : ByteArray := prog_5_method_41_code
def yX3_wayOf : MethodName := ⟨RX3, "wayOf", "(II)I"⟩
abbrev cX3_isOnRing : ByteArray := prog_5_method_42_code
def yX3_isOnRing : MethodName := ⟨RX3, "isOnRing", "(I)Z"⟩
abbrev cX3_way : ByteArray := prog_5_method_43_code
def yX3_way : MethodName := ⟨RX3, "way", "(II)I"⟩
abbrev cX3_ring : ByteArray := prog_5_method_44_code
def yX3_ring : MethodName := ⟨RX3, "ring", "()I"⟩
abbrev cX3_tail : ByteArray := prog_5_method_45_code
def yX3_tail : MethodName := ⟨RX3, "tail", "(I)I"⟩
abbrev cX3_rings : ByteArray := prog_5_method_46_code
def yX3_rings : MethodName := ⟨RX3, "rings", "()I"⟩
abbrev cX3_never : ByteArray := prog_5_method_47_code
def yX3_never : MethodName := ⟨RX3, "never", "()I"⟩
abbrev cX3_felt : ByteArray := prog_5_method_48_code
def yX3_felt : MethodName := ⟨RX3, "felt", "(II)I"⟩
abbrev cX3_worth : ByteArray := prog_5_method_49_code
def yX3_worth : MethodName := ⟨RX3, "worth", "(II)I"⟩
abbrev cX3_maps : ByteArray := prog_5_method_50_code
def yX3_maps : MethodName := ⟨RX3, "maps", "(III)V"⟩
abbrev cX3_bestMap : ByteArray := prog_5_method_51_code
def yX3_bestMap : MethodName := ⟨RX3, "bestMap", "(II)I"⟩
abbrev cX3_change : ByteArray := prog_5_method_52_code
def yX3_change : MethodName := ⟨RX3, "change", "(I)I"⟩
abbrev cX3_cure : ByteArray := prog_5_method_53_code
def yX3_cure : MethodName := ⟨RX3, "cure", "(II)I"⟩
abbrev cX3_putIn : ByteArray := prog_5_method_54_code
def yX3_putIn : MethodName := ⟨RX3, "putIn", "(III)I"⟩
abbrev cX3_takeOut : ByteArray := prog_5_method_55_code
def yX3_takeOut : MethodName := ⟨RX3, "takeOut", "(II)I"⟩
abbrev cX3_row : ByteArray := prog_5_method_56_code
def yX3_row : MethodName := ⟨RX3, "row", "(I)I"⟩
abbrev cX3_isAsTold : ByteArray := prog_5_method_57_code
def yX3_isAsTold : MethodName := ⟨RX3, "isAsTold", "()Z"⟩
abbrev cX3_fitting : ByteArray := prog_5_method_58_code
def yX3_fitting : MethodName := ⟨RX3, "fitting", "(II)I"⟩
abbrev cX3_judge : ByteArray := prog_5_method_59_code
def yX3_judge : MethodName := ⟨RX3, "judge", "()I"⟩
abbrev cX3_seeds : ByteArray := prog_5_method_60_code
def yX3_seeds : MethodName := ⟨RX3, "seeds", "(II)I"⟩
abbrev cX3_image : ByteArray := prog_5_method_61_code
def yX3_image : MethodName := ⟨RX3, "image", "()I"⟩
abbrev cX3_on : ByteArray := prog_5_method_62_code
def yX3_on : MethodName := ⟨RX3, "on", "()I"⟩
abbrev cX3_count : ByteArray := prog_5_method_63_code
def yX3_count : MethodName := ⟨RX3, "count", "(I)I"⟩
def RJ11 : String := "java/lang/Character"
def TJ11 : u_T := fun k => match k with
  | _ => ("", "", "", false)
def tyJ11 : Nat → FieldType := fun k => match k with
  | _ => .int
abbrev wsJ110 : List Cond := u_ws RJ11 TJ11 0
theorem nmJ11 : ∀ a, a < 0 → ∀ b, b < 0 → a ≠ b → (TJ11 a).2.1 ≠ (TJ11 b).2.1 := by decide +kernel
theorem tyJ11_ok : ∀ k, k < 0 → parseFieldDescriptor (TJ11 k).2.2.1 = some (tyJ11 k) := by decide +kernel
abbrev cJ11_isValidCodePoint_9a6ad : ByteArray := prog_6_method_11_code
def yJ11_isValidCodePoint_9a6ad : MethodName := ⟨RJ11, "isValidCodePoint", "(I)Z"⟩
abbrev cJ11_highSurrogate_5068e : ByteArray := prog_6_method_28_code
def yJ11_highSurrogate_5068e : MethodName := ⟨RJ11, "highSurrogate", "(I)C"⟩
abbrev cJ11_lowSurrogate_5068e : ByteArray := prog_6_method_29_code
def yJ11_lowSurrogate_5068e : MethodName := ⟨RJ11, "lowSurrogate", "(I)C"⟩
def RJ9 : String := "java/lang/Math"
def TJ9 : u_T := fun k => match k with
  | _ => ("", "", "", false)
def tyJ9 : Nat → FieldType := fun k => match k with
  | _ => .int
abbrev wsJ90 : List Cond := u_ws RJ9 TJ9 0
theorem nmJ9 : ∀ a, a < 0 → ∀ b, b < 0 → a ≠ b → (TJ9 a).2.1 ≠ (TJ9 b).2.1 := by decide +kernel
theorem tyJ9_ok : ∀ k, k < 0 → parseFieldDescriptor (TJ9 k).2.2.1 = some (tyJ9 k) := by decide +kernel
abbrev cJ9_max_7cf53 : ByteArray := prog_7_method_65_code
def yJ9_max_7cf53 : MethodName := ⟨RJ9, "max", "(II)I"⟩
abbrev cJ9_min_7cf53 : ByteArray := prog_7_method_69_code
def yJ9_min_7cf53 : MethodName := ⟨RJ9, "min", "(II)I"⟩
def RJ0 : String := "java/lang/String"
def TJ0 : u_T := fun k => match k with
  | _ => ("", "", "", false)
def tyJ0 : Nat → FieldType := fun k => match k with
  | _ => .int
abbrev wsJ00 : List Cond := u_ws RJ0 TJ0 0
theorem nmJ0 : ∀ a, a < 0 → ∀ b, b < 0 → a ≠ b → (TJ0 a).2.1 ≠ (TJ0 b).2.1 := by decide +kernel
theorem tyJ0_ok : ∀ k, k < 0 → parseFieldDescriptor (TJ0 k).2.2.1 = some (tyJ0 k) := by decide +kernel
abbrev cJ0_length_8abf5 : ByteArray := prog_8_method_54_code
def yJ0_length_8abf5 : MethodName := ⟨RJ0, "length", "()I"⟩
abbrev cJ0_indexOf_0f7a4 : ByteArray := prog_8_method_79_code
def yJ0_indexOf_0f7a4 : MethodName := ⟨RJ0, "indexOf", "(I)I"⟩
abbrev cJ0_indexOf_7cf53 : ByteArray := prog_8_method_80_code
def yJ0_indexOf_7cf53 : MethodName := ⟨RJ0, "indexOf", "(II)I"⟩
abbrev cJ0_coder_7d493 : ByteArray := prog_8_method_152_code
def yJ0_coder_7d493 : MethodName := ⟨RJ0, "coder", "()B"⟩
abbrev cJ0_isLatin1_aae02 : ByteArray := prog_8_method_154_code
def yJ0_isLatin1_aae02 : MethodName := ⟨RJ0, "isLatin1", "()Z"⟩
abbrev cJ0_checkBoundsBeginEnd_23922 : ByteArray := prog_8_method_158_code
def yJ0_checkBoundsBeginEnd_23922 : MethodName := ⟨RJ0, "checkBoundsBeginEnd", "(III)V"⟩
def RJ1 : String := "java/lang/StringLatin1"
def TJ1 : u_T := fun k => match k with
  | _ => ("", "", "", false)
def tyJ1 : Nat → FieldType := fun k => match k with
  | _ => .int
abbrev wsJ10 : List Cond := u_ws RJ1 TJ1 0
theorem nmJ1 : ∀ a, a < 0 → ∀ b, b < 0 → a ≠ b → (TJ1 a).2.1 ≠ (TJ1 b).2.1 := by decide +kernel
theorem tyJ1_ok : ∀ k, k < 0 → parseFieldDescriptor (TJ1 k).2.2.1 = some (tyJ1 k) := by decide +kernel
abbrev cJ1_canEncode_9a6ad : ByteArray := prog_9_method_4_code
def yJ1_canEncode_9a6ad : MethodName := ⟨RJ1, "canEncode", "(I)Z"⟩
abbrev cJ1_indexOf_4cfef : ByteArray := prog_9_method_22_code
def yJ1_indexOf_4cfef : MethodName := ⟨RJ1, "indexOf", "([BIII)I"⟩
abbrev cJ1_indexOfChar_4cfef : ByteArray := prog_9_method_23_code
def yJ1_indexOfChar_4cfef : MethodName := ⟨RJ1, "indexOfChar", "([BIII)I"⟩
def RJ2 : String := "java/lang/StringUTF16"
def TJ2 : u_T := fun k => match k with
  | _ => ("", "", "", false)
def tyJ2 : Nat → FieldType := fun k => match k with
  | _ => .int
abbrev wsJ20 : List Cond := u_ws RJ2 TJ2 0
theorem nmJ2 : ∀ a, a < 0 → ∀ b, b < 0 → a ≠ b → (TJ2 a).2.1 ≠ (TJ2 b).2.1 := by decide +kernel
theorem tyJ2_ok : ∀ k, k < 0 → parseFieldDescriptor (TJ2 k).2.2.1 = some (tyJ2 k) := by decide +kernel
abbrev cJ2_getChar_3b067 : ByteArray := prog_10_method_5_code
def yJ2_getChar_3b067 : MethodName := ⟨RJ2, "getChar", "([BI)C"⟩
abbrev cJ2_length_9d52b : ByteArray := prog_10_method_6_code
def yJ2_length_9d52b : MethodName := ⟨RJ2, "length", "([B)I"⟩
abbrev cJ2_indexOf_4cfef : ByteArray := prog_10_method_40_code
def yJ2_indexOf_4cfef : MethodName := ⟨RJ2, "indexOf", "([BIII)I"⟩
abbrev cJ2_indexOfChar_4cfef : ByteArray := prog_10_method_47_code
def yJ2_indexOfChar_4cfef : MethodName := ⟨RJ2, "indexOfChar", "([BIII)I"⟩
abbrev cJ2_indexOfCharUnsafe_4cfef : ByteArray := prog_10_method_48_code
def yJ2_indexOfCharUnsafe_4cfef : MethodName := ⟨RJ2, "indexOfCharUnsafe", "([BIII)I"⟩
abbrev cJ2_indexOfSupplementary_4cfef : ByteArray := prog_10_method_49_code
def yJ2_indexOfSupplementary_4cfef : MethodName := ⟨RJ2, "indexOfSupplementary", "([BIII)I"⟩
abbrev cJ2_checkBoundsBeginEnd_d044e : ByteArray := prog_10_method_93_code
def yJ2_checkBoundsBeginEnd_d044e : MethodName := ⟨RJ2, "checkBoundsBeginEnd", "(II[B)V"⟩
def RJ10 : String := "java/lang/System"
def TJ10 : u_T := fun k => match k with
  | _ => ("", "", "", false)
def tyJ10 : Nat → FieldType := fun k => match k with
  | _ => .int
abbrev wsJ100 : List Cond := u_ws RJ10 TJ10 0
theorem nmJ10 : ∀ a, a < 0 → ∀ b, b < 0 → a ≠ b → (TJ10 a).2.1 ≠ (TJ10 b).2.1 := by decide +kernel
theorem tyJ10_ok : ∀ k, k < 0 → parseFieldDescriptor (TJ10 k).2.2.1 = some (tyJ10 k) := by decide +kernel
def RJ3 : String := "jdk/internal/util/Preconditions"
def TJ3 : u_T := fun k => match k with
  | _ => ("", "", "", false)
def tyJ3 : Nat → FieldType := fun k => match k with
  | _ => .int
abbrev wsJ30 : List Cond := u_ws RJ3 TJ3 0
theorem nmJ3 : ∀ a, a < 0 → ∀ b, b < 0 → a ≠ b → (TJ3 a).2.1 ≠ (TJ3 b).2.1 := by decide +kernel
theorem tyJ3_ok : ∀ k, k < 0 → parseFieldDescriptor (TJ3 k).2.2.1 = some (tyJ3 k) := by decide +kernel
abbrev cJ3_checkFromToIndex_8c36e : ByteArray := prog_12_method_12_code
def yJ3_checkFromToIndex_8c36e : MethodName := ⟨RJ3, "checkFromToIndex", "(IIILjava/util/function/BiFunction;)I"⟩
def RL : String := "PavedByNextLaw"
abbrev cL_law : ByteArray := code
def yL_law : MethodName := ⟨RL, "law", "([I)Z"⟩
abbrev vwCl : List vw_C := [(RX0, TX0, 2), (RX1, TX1, 12), (RX2, TX2, 11), (RX3, TX3, 20)]
end
section
theorem dX0_init_0 : decode cX0_init 0 = .ok (.aload_n 0, 1) := by decide +kernel
theorem dX0_init_1 : decode cX0_init 1 = .ok (.invokespecial 3, 3) := by decide +kernel
theorem dX0_init_4 : decode cX0_init 4 = .ok (.aload_n 0, 1) := by decide +kernel
theorem dX0_init_5 : decode cX0_init 5 = .ok (.bipush 64, 2) := by decide +kernel
theorem dX0_init_7 : decode cX0_init 7 = .ok (.newarray .char, 2) := by decide +kernel
theorem dX0_init_9 : decode cX0_init 9 = .ok (.putfield 9, 3) := by decide +kernel
theorem dX0_init_12 : decode cX0_init 12 = .ok (.return_, 1) := by decide +kernel
theorem dX0_isFull_0 : decode cX0_isFull 0 = .ok (.aload_n 0, 1) := by decide +kernel
theorem dX0_isFull_1 : decode cX0_isFull 1 = .ok (.getfield 15, 3) := by decide +kernel
theorem dX0_isFull_4 : decode cX0_isFull 4 = .ok (.aload_n 0, 1) := by decide +kernel
theorem dX0_isFull_5 : decode cX0_isFull 5 = .ok (.getfield 9, 3) := by decide +kernel
theorem dX0_isFull_8 : decode cX0_isFull 8 = .ok (.arraylength, 1) := by decide +kernel
theorem dX0_isFull_9 : decode cX0_isFull 9 = .ok (.if_icmp .lt 7, 3) := by decide +kernel
theorem dX0_isFull_12 : decode cX0_isFull 12 = .ok (.iconst 1, 1) := by decide +kernel
theorem dX0_isFull_13 : decode cX0_isFull 13 = .ok (.goto 4, 3) := by decide +kernel
theorem dX0_isFull_16 : decode cX0_isFull 16 = .ok (.iconst 0, 1) := by decide +kernel
theorem dX0_isFull_17 : decode cX0_isFull 17 = .ok (.ireturn, 1) := by decide +kernel
theorem dX0_append_0 : decode cX0_append 0 = .ok (.aload_n 0, 1) := by decide +kernel
theorem dX0_append_1 : decode cX0_append 1 = .ok (.invokevirtual 19, 3) := by decide +kernel
theorem dX0_append_4 : decode cX0_append 4 = .ok (.ifCond .ne 23, 3) := by decide +kernel
theorem dX0_append_7 : decode cX0_append 7 = .ok (.aload_n 0, 1) := by decide +kernel
theorem dX0_append_8 : decode cX0_append 8 = .ok (.getfield 9, 3) := by decide +kernel
theorem dX0_append_11 : decode cX0_append 11 = .ok (.aload_n 0, 1) := by decide +kernel
theorem dX0_append_12 : decode cX0_append 12 = .ok (.getfield 15, 3) := by decide +kernel
theorem dX0_append_15 : decode cX0_append 15 = .ok (.iload_n 1, 1) := by decide +kernel
theorem dX0_append_16 : decode cX0_append 16 = .ok (.castore, 1) := by decide +kernel
theorem dX0_append_17 : decode cX0_append 17 = .ok (.aload_n 0, 1) := by decide +kernel
theorem dX0_append_18 : decode cX0_append 18 = .ok (.dup, 1) := by decide +kernel
theorem dX0_append_19 : decode cX0_append 19 = .ok (.getfield 15, 3) := by decide +kernel
theorem dX0_append_22 : decode cX0_append 22 = .ok (.iconst 1, 1) := by decide +kernel
theorem dX0_append_23 : decode cX0_append 23 = .ok (.iadd, 1) := by decide +kernel
theorem dX0_append_24 : decode cX0_append 24 = .ok (.putfield 15, 3) := by decide +kernel
theorem dX0_append_27 : decode cX0_append 27 = .ok (.return_, 1) := by decide +kernel
theorem dX0_at_0 : decode cX0_at 0 = .ok (.iload_n 1, 1) := by decide +kernel
theorem dX0_at_1 : decode cX0_at 1 = .ok (.ifCond .lt 29, 3) := by decide +kernel
theorem dX0_at_4 : decode cX0_at 4 = .ok (.iload_n 1, 1) := by decide +kernel
theorem dX0_at_5 : decode cX0_at 5 = .ok (.aload_n 0, 1) := by decide +kernel
theorem dX0_at_6 : decode cX0_at 6 = .ok (.getfield 15, 3) := by decide +kernel
theorem dX0_at_9 : decode cX0_at 9 = .ok (.if_icmp .ge 21, 3) := by decide +kernel
theorem dX0_at_12 : decode cX0_at 12 = .ok (.iload_n 1, 1) := by decide +kernel
theorem dX0_at_13 : decode cX0_at 13 = .ok (.aload_n 0, 1) := by decide +kernel
theorem dX0_at_14 : decode cX0_at 14 = .ok (.getfield 9, 3) := by decide +kernel
theorem dX0_at_17 : decode cX0_at 17 = .ok (.arraylength, 1) := by decide +kernel
theorem dX0_at_18 : decode cX0_at 18 = .ok (.if_icmp .ge 12, 3) := by decide +kernel
theorem dX0_at_21 : decode cX0_at 21 = .ok (.aload_n 0, 1) := by decide +kernel
theorem dX0_at_22 : decode cX0_at 22 = .ok (.getfield 9, 3) := by decide +kernel
theorem dX0_at_25 : decode cX0_at 25 = .ok (.iload_n 1, 1) := by decide +kernel
theorem dX0_at_26 : decode cX0_at 26 = .ok (.caload, 1) := by decide +kernel
theorem dX0_at_27 : decode cX0_at 27 = .ok (.goto 4, 3) := by decide +kernel
theorem dX0_at_30 : decode cX0_at 30 = .ok (.iconst 0, 1) := by decide +kernel
theorem dX0_at_31 : decode cX0_at 31 = .ok (.ireturn, 1) := by decide +kernel
theorem dX0_digit_0 : decode cX0_digit 0 = .ok (.aload_n 0, 1) := by decide +kernel
theorem dX0_digit_1 : decode cX0_digit 1 = .ok (.iload_n 1, 1) := by decide +kernel
theorem dX0_digit_2 : decode cX0_digit 2 = .ok (.invokevirtual 23, 3) := by decide +kernel
theorem dX0_digit_5 : decode cX0_digit 5 = .ok (.invokestatic 27, 3) := by decide +kernel
theorem dX0_digit_8 : decode cX0_digit 8 = .ok (.ifCond .eq 14, 3) := by decide +kernel
theorem dX0_digit_11 : decode cX0_digit 11 = .ok (.aload_n 0, 1) := by decide +kernel
theorem dX0_digit_12 : decode cX0_digit 12 = .ok (.iload_n 1, 1) := by decide +kernel
theorem dX0_digit_13 : decode cX0_digit 13 = .ok (.invokevirtual 23, 3) := by decide +kernel
theorem dX0_digit_16 : decode cX0_digit 16 = .ok (.bipush 48, 2) := by decide +kernel
theorem dX0_digit_18 : decode cX0_digit 18 = .ok (.isub, 1) := by decide +kernel
theorem dX0_digit_19 : decode cX0_digit 19 = .ok (.goto 4, 3) := by decide +kernel
theorem dX0_digit_22 : decode cX0_digit 22 = .ok (.iconst 0, 1) := by decide +kernel
theorem dX0_digit_23 : decode cX0_digit 23 = .ok (.ireturn, 1) := by decide +kernel
theorem dX0_oneOrTwoDigits_0 : decode cX0_oneOrTwoDigits 0 = .ok (.aload_n 0, 1) := by decide +kernel
theorem dX0_oneOrTwoDigits_1 : decode cX0_oneOrTwoDigits 1 = .ok (.iload_n 1, 1) := by decide +kernel
theorem dX0_oneOrTwoDigits_2 : decode cX0_oneOrTwoDigits 2 = .ok (.invokevirtual 31, 3) := by decide +kernel
theorem dX0_oneOrTwoDigits_5 : decode cX0_oneOrTwoDigits 5 = .ok (.istore_n 2, 1) := by decide +kernel
theorem dX0_oneOrTwoDigits_6 : decode cX0_oneOrTwoDigits 6 = .ok (.aload_n 0, 1) := by decide +kernel
theorem dX0_oneOrTwoDigits_7 : decode cX0_oneOrTwoDigits 7 = .ok (.iload_n 1, 1) := by decide +kernel
theorem dX0_oneOrTwoDigits_8 : decode cX0_oneOrTwoDigits 8 = .ok (.iconst 1, 1) := by decide +kernel
theorem dX0_oneOrTwoDigits_9 : decode cX0_oneOrTwoDigits 9 = .ok (.iadd, 1) := by decide +kernel
theorem dX0_oneOrTwoDigits_10 : decode cX0_oneOrTwoDigits 10 = .ok (.invokevirtual 23, 3) := by decide +kernel
theorem dX0_oneOrTwoDigits_13 : decode cX0_oneOrTwoDigits 13 = .ok (.invokestatic 27, 3) := by decide +kernel
theorem dX0_oneOrTwoDigits_16 : decode cX0_oneOrTwoDigits 16 = .ok (.ifCond .eq 18, 3) := by decide +kernel
theorem dX0_oneOrTwoDigits_19 : decode cX0_oneOrTwoDigits 19 = .ok (.bipush 10, 2) := by decide +kernel
theorem dX0_oneOrTwoDigits_21 : decode cX0_oneOrTwoDigits 21 = .ok (.iload_n 2, 1) := by decide +kernel
theorem dX0_oneOrTwoDigits_22 : decode cX0_oneOrTwoDigits 22 = .ok (.imul, 1) := by decide +kernel
theorem dX0_oneOrTwoDigits_23 : decode cX0_oneOrTwoDigits 23 = .ok (.aload_n 0, 1) := by decide +kernel
theorem dX0_oneOrTwoDigits_24 : decode cX0_oneOrTwoDigits 24 = .ok (.iload_n 1, 1) := by decide +kernel
theorem dX0_oneOrTwoDigits_25 : decode cX0_oneOrTwoDigits 25 = .ok (.iconst 1, 1) := by decide +kernel
theorem dX0_oneOrTwoDigits_26 : decode cX0_oneOrTwoDigits 26 = .ok (.iadd, 1) := by decide +kernel
theorem dX0_oneOrTwoDigits_27 : decode cX0_oneOrTwoDigits 27 = .ok (.invokevirtual 31, 3) := by decide +kernel
theorem dX0_oneOrTwoDigits_30 : decode cX0_oneOrTwoDigits 30 = .ok (.iadd, 1) := by decide +kernel
theorem dX0_oneOrTwoDigits_31 : decode cX0_oneOrTwoDigits 31 = .ok (.goto 4, 3) := by decide +kernel
theorem dX0_oneOrTwoDigits_34 : decode cX0_oneOrTwoDigits 34 = .ok (.iload_n 2, 1) := by decide +kernel
theorem dX0_oneOrTwoDigits_35 : decode cX0_oneOrTwoDigits 35 = .ok (.ireturn, 1) := by decide +kernel
theorem dX0_formFault_0 : decode cX0_formFault 0 = .ok (.iconst 0, 1) := by decide +kernel
theorem dX0_formFault_1 : decode cX0_formFault 1 = .ok (.istore_n 1, 1) := by decide +kernel
theorem dX0_formFault_2 : decode cX0_formFault 2 = .ok (.iconst 0, 1) := by decide +kernel
theorem dX0_formFault_3 : decode cX0_formFault 3 = .ok (.istore_n 2, 1) := by decide +kernel
theorem dX0_formFault_4 : decode cX0_formFault 4 = .ok (.iload_n 2, 1) := by decide +kernel
theorem dX0_formFault_5 : decode cX0_formFault 5 = .ok (.aload_n 0, 1) := by decide +kernel
theorem dX0_formFault_6 : decode cX0_formFault 6 = .ok (.getfield 15, 3) := by decide +kernel
theorem dX0_formFault_9 : decode cX0_formFault 9 = .ok (.if_icmp .ge 26, 3) := by decide +kernel
theorem dX0_formFault_12 : decode cX0_formFault 12 = .ok (.iload_n 1, 1) := by decide +kernel
theorem dX0_formFault_13 : decode cX0_formFault 13 = .ok (.aload_n 0, 1) := by decide +kernel
theorem dX0_formFault_14 : decode cX0_formFault 14 = .ok (.iload_n 2, 1) := by decide +kernel
theorem dX0_formFault_15 : decode cX0_formFault 15 = .ok (.invokevirtual 23, 3) := by decide +kernel
theorem dX0_formFault_18 : decode cX0_formFault 18 = .ok (.invokestatic 35, 3) := by decide +kernel
theorem dX0_formFault_21 : decode cX0_formFault 21 = .ok (.istore_n 1, 1) := by decide +kernel
theorem dX0_formFault_22 : decode cX0_formFault 22 = .ok (.iload_n 1, 1) := by decide +kernel
theorem dX0_formFault_23 : decode cX0_formFault 23 = .ok (.iconst (-1), 1) := by decide +kernel
theorem dX0_formFault_24 : decode cX0_formFault 24 = .ok (.if_icmp .ne 5, 3) := by decide +kernel
theorem dX0_formFault_27 : decode cX0_formFault 27 = .ok (.iload_n 2, 1) := by decide +kernel
theorem dX0_formFault_28 : decode cX0_formFault 28 = .ok (.ireturn, 1) := by decide +kernel
theorem dX0_formFault_29 : decode cX0_formFault 29 = .ok (.iinc 2 1, 3) := by decide +kernel
theorem dX0_formFault_32 : decode cX0_formFault 32 = .ok (.goto (-28), 3) := by decide +kernel
theorem dX0_formFault_35 : decode cX0_formFault 35 = .ok (.iload_n 1, 1) := by decide +kernel
theorem dX0_formFault_36 : decode cX0_formFault 36 = .ok (.ifCond .ne 14, 3) := by decide +kernel
theorem dX0_formFault_39 : decode cX0_formFault 39 = .ok (.aload_n 0, 1) := by decide +kernel
theorem dX0_formFault_40 : decode cX0_formFault 40 = .ok (.getfield 15, 3) := by decide +kernel
theorem dX0_formFault_43 : decode cX0_formFault 43 = .ok (.ifCond .le 7, 3) := by decide +kernel
theorem dX0_formFault_46 : decode cX0_formFault 46 = .ok (.iconst (-1), 1) := by decide +kernel
theorem dX0_formFault_47 : decode cX0_formFault 47 = .ok (.goto 7, 3) := by decide +kernel
theorem dX0_formFault_50 : decode cX0_formFault 50 = .ok (.aload_n 0, 1) := by decide +kernel
theorem dX0_formFault_51 : decode cX0_formFault 51 = .ok (.getfield 15, 3) := by decide +kernel
theorem dX0_formFault_54 : decode cX0_formFault 54 = .ok (.ireturn, 1) := by decide +kernel
theorem dX0_dueBehind_0 : decode cX0_dueBehind 0 = .ok (.iload_n 0, 1) := by decide +kernel
theorem dX0_dueBehind_1 : decode cX0_dueBehind 1 = .ok (.tableswitch 172 0 9 #[55, 60, 75, 88, 101, 172, 114, 128, 141, 155], 55) := by decide +kernel
theorem dX0_dueBehind_56 : decode cX0_dueBehind 56 = .ok (.iload_n 1, 1) := by decide +kernel
theorem dX0_dueBehind_57 : decode cX0_dueBehind 57 = .ok (.invokestatic 39, 3) := by decide +kernel
theorem dX0_dueBehind_60 : decode cX0_dueBehind 60 = .ok (.ireturn, 1) := by decide +kernel
theorem dX0_dueBehind_61 : decode cX0_dueBehind 61 = .ok (.ldc 43, 2) := by decide +kernel
theorem dX0_dueBehind_63 : decode cX0_dueBehind 63 = .ok (.iload_n 1, 1) := by decide +kernel
theorem dX0_dueBehind_64 : decode cX0_dueBehind 64 = .ok (.invokevirtual 45, 3) := by decide +kernel
theorem dX0_dueBehind_67 : decode cX0_dueBehind 67 = .ok (.ifCond .lt 7, 3) := by decide +kernel
theorem dX0_dueBehind_70 : decode cX0_dueBehind 70 = .ok (.iconst 2, 1) := by decide +kernel
theorem dX0_dueBehind_71 : decode cX0_dueBehind 71 = .ok (.goto 4, 3) := by decide +kernel
theorem dX0_dueBehind_74 : decode cX0_dueBehind 74 = .ok (.iconst (-1), 1) := by decide +kernel
theorem dX0_dueBehind_75 : decode cX0_dueBehind 75 = .ok (.ireturn, 1) := by decide +kernel
theorem dX0_dueBehind_76 : decode cX0_dueBehind 76 = .ok (.iload_n 1, 1) := by decide +kernel
theorem dX0_dueBehind_77 : decode cX0_dueBehind 77 = .ok (.invokestatic 27, 3) := by decide +kernel
theorem dX0_dueBehind_80 : decode cX0_dueBehind 80 = .ok (.ifCond .eq 7, 3) := by decide +kernel
theorem dX0_dueBehind_83 : decode cX0_dueBehind 83 = .ok (.iconst 3, 1) := by decide +kernel
theorem dX0_dueBehind_84 : decode cX0_dueBehind 84 = .ok (.goto 4, 3) := by decide +kernel
theorem dX0_dueBehind_87 : decode cX0_dueBehind 87 = .ok (.iconst (-1), 1) := by decide +kernel
theorem dX0_dueBehind_88 : decode cX0_dueBehind 88 = .ok (.ireturn, 1) := by decide +kernel
theorem dX0_dueBehind_89 : decode cX0_dueBehind 89 = .ok (.iload_n 1, 1) := by decide +kernel
theorem dX0_dueBehind_90 : decode cX0_dueBehind 90 = .ok (.invokestatic 27, 3) := by decide +kernel
theorem dX0_dueBehind_93 : decode cX0_dueBehind 93 = .ok (.ifCond .eq 7, 3) := by decide +kernel
theorem dX0_dueBehind_96 : decode cX0_dueBehind 96 = .ok (.iconst 4, 1) := by decide +kernel
theorem dX0_dueBehind_97 : decode cX0_dueBehind 97 = .ok (.goto 4, 3) := by decide +kernel
theorem dX0_dueBehind_100 : decode cX0_dueBehind 100 = .ok (.iconst (-1), 1) := by decide +kernel
theorem dX0_dueBehind_101 : decode cX0_dueBehind 101 = .ok (.ireturn, 1) := by decide +kernel
theorem dX0_dueBehind_102 : decode cX0_dueBehind 102 = .ok (.iload_n 1, 1) := by decide +kernel
theorem dX0_dueBehind_103 : decode cX0_dueBehind 103 = .ok (.invokestatic 27, 3) := by decide +kernel
theorem dX0_dueBehind_106 : decode cX0_dueBehind 106 = .ok (.ifCond .eq 7, 3) := by decide +kernel
theorem dX0_dueBehind_109 : decode cX0_dueBehind 109 = .ok (.iconst 5, 1) := by decide +kernel
theorem dX0_dueBehind_110 : decode cX0_dueBehind 110 = .ok (.goto 4, 3) := by decide +kernel
theorem dX0_dueBehind_113 : decode cX0_dueBehind 113 = .ok (.iconst (-1), 1) := by decide +kernel
theorem dX0_dueBehind_114 : decode cX0_dueBehind 114 = .ok (.ireturn, 1) := by decide +kernel
theorem dX0_dueBehind_115 : decode cX0_dueBehind 115 = .ok (.iload_n 1, 1) := by decide +kernel
theorem dX0_dueBehind_116 : decode cX0_dueBehind 116 = .ok (.invokestatic 27, 3) := by decide +kernel
theorem dX0_dueBehind_119 : decode cX0_dueBehind 119 = .ok (.ifCond .eq 8, 3) := by decide +kernel
theorem dX0_dueBehind_122 : decode cX0_dueBehind 122 = .ok (.bipush 7, 2) := by decide +kernel
theorem dX0_dueBehind_124 : decode cX0_dueBehind 124 = .ok (.goto 4, 3) := by decide +kernel
theorem dX0_dueBehind_127 : decode cX0_dueBehind 127 = .ok (.iconst (-1), 1) := by decide +kernel
theorem dX0_dueBehind_128 : decode cX0_dueBehind 128 = .ok (.ireturn, 1) := by decide +kernel
theorem dX0_dueBehind_129 : decode cX0_dueBehind 129 = .ok (.iload_n 1, 1) := by decide +kernel
theorem dX0_dueBehind_130 : decode cX0_dueBehind 130 = .ok (.bipush 44, 2) := by decide +kernel
theorem dX0_dueBehind_132 : decode cX0_dueBehind 132 = .ok (.if_icmp .ne 8, 3) := by decide +kernel
theorem dX0_dueBehind_135 : decode cX0_dueBehind 135 = .ok (.bipush 8, 2) := by decide +kernel
theorem dX0_dueBehind_137 : decode cX0_dueBehind 137 = .ok (.goto 4, 3) := by decide +kernel
theorem dX0_dueBehind_140 : decode cX0_dueBehind 140 = .ok (.iconst (-1), 1) := by decide +kernel
theorem dX0_dueBehind_141 : decode cX0_dueBehind 141 = .ok (.ireturn, 1) := by decide +kernel
theorem dX0_dueBehind_142 : decode cX0_dueBehind 142 = .ok (.iload_n 1, 1) := by decide +kernel
theorem dX0_dueBehind_143 : decode cX0_dueBehind 143 = .ok (.invokestatic 27, 3) := by decide +kernel
theorem dX0_dueBehind_146 : decode cX0_dueBehind 146 = .ok (.ifCond .eq 8, 3) := by decide +kernel
theorem dX0_dueBehind_149 : decode cX0_dueBehind 149 = .ok (.bipush 9, 2) := by decide +kernel
theorem dX0_dueBehind_151 : decode cX0_dueBehind 151 = .ok (.goto 4, 3) := by decide +kernel
theorem dX0_dueBehind_154 : decode cX0_dueBehind 154 = .ok (.iconst (-1), 1) := by decide +kernel
theorem dX0_dueBehind_155 : decode cX0_dueBehind 155 = .ok (.ireturn, 1) := by decide +kernel
theorem dX0_dueBehind_156 : decode cX0_dueBehind 156 = .ok (.iload_n 1, 1) := by decide +kernel
theorem dX0_dueBehind_157 : decode cX0_dueBehind 157 = .ok (.invokestatic 27, 3) := by decide +kernel
theorem dX0_dueBehind_160 : decode cX0_dueBehind 160 = .ok (.ifCond .eq 7, 3) := by decide +kernel
theorem dX0_dueBehind_163 : decode cX0_dueBehind 163 = .ok (.iconst 5, 1) := by decide +kernel
theorem dX0_dueBehind_164 : decode cX0_dueBehind 164 = .ok (.goto 8, 3) := by decide +kernel
theorem dX0_dueBehind_167 : decode cX0_dueBehind 167 = .ok (.iconst 5, 1) := by decide +kernel
theorem dX0_dueBehind_168 : decode cX0_dueBehind 168 = .ok (.iload_n 1, 1) := by decide +kernel
theorem dX0_dueBehind_169 : decode cX0_dueBehind 169 = .ok (.invokestatic 35, 3) := by decide +kernel
theorem dX0_dueBehind_172 : decode cX0_dueBehind 172 = .ok (.ireturn, 1) := by decide +kernel
theorem dX0_dueBehind_173 : decode cX0_dueBehind 173 = .ok (.iload_n 1, 1) := by decide +kernel
theorem dX0_dueBehind_174 : decode cX0_dueBehind 174 = .ok (.bipush 59, 2) := by decide +kernel
theorem dX0_dueBehind_176 : decode cX0_dueBehind 176 = .ok (.if_icmp .ne 7, 3) := by decide +kernel
theorem dX0_dueBehind_179 : decode cX0_dueBehind 179 = .ok (.iconst 0, 1) := by decide +kernel
theorem dX0_dueBehind_180 : decode cX0_dueBehind 180 = .ok (.goto 4, 3) := by decide +kernel
theorem dX0_dueBehind_183 : decode cX0_dueBehind 183 = .ok (.iconst (-1), 1) := by decide +kernel
theorem dX0_dueBehind_184 : decode cX0_dueBehind 184 = .ok (.ireturn, 1) := by decide +kernel
theorem dX0_dueInStatement_0 : decode cX0_dueInStatement 0 = .ok (.iload_n 0, 1) := by decide +kernel
theorem dX0_dueInStatement_1 : decode cX0_dueInStatement 1 = .ok (.lookupswitch 42 #[(109, 37), (112, 39), (115, 35)], 35) := by decide +kernel
theorem dX0_dueInStatement_36 : decode cX0_dueInStatement 36 = .ok (.iconst 1, 1) := by decide +kernel
theorem dX0_dueInStatement_37 : decode cX0_dueInStatement 37 = .ok (.ireturn, 1) := by decide +kernel
theorem dX0_dueInStatement_38 : decode cX0_dueInStatement 38 = .ok (.iconst 3, 1) := by decide +kernel
theorem dX0_dueInStatement_39 : decode cX0_dueInStatement 39 = .ok (.ireturn, 1) := by decide +kernel
theorem dX0_dueInStatement_40 : decode cX0_dueInStatement 40 = .ok (.bipush 6, 2) := by decide +kernel
theorem dX0_dueInStatement_42 : decode cX0_dueInStatement 42 = .ok (.ireturn, 1) := by decide +kernel
theorem dX0_dueInStatement_43 : decode cX0_dueInStatement 43 = .ok (.iconst (-1), 1) := by decide +kernel
theorem dX0_dueInStatement_44 : decode cX0_dueInStatement 44 = .ok (.ireturn, 1) := by decide +kernel
theorem dX0_isDigit_0 : decode cX0_isDigit 0 = .ok (.iload_n 0, 1) := by decide +kernel
theorem dX0_isDigit_1 : decode cX0_isDigit 1 = .ok (.bipush 48, 2) := by decide +kernel
theorem dX0_isDigit_3 : decode cX0_isDigit 3 = .ok (.if_icmp .lt 13, 3) := by decide +kernel
theorem dX0_isDigit_6 : decode cX0_isDigit 6 = .ok (.iload_n 0, 1) := by decide +kernel
theorem dX0_isDigit_7 : decode cX0_isDigit 7 = .ok (.bipush 57, 2) := by decide +kernel
theorem dX0_isDigit_9 : decode cX0_isDigit 9 = .ok (.if_icmp .gt 7, 3) := by decide +kernel
theorem dX0_isDigit_12 : decode cX0_isDigit 12 = .ok (.iconst 1, 1) := by decide +kernel
theorem dX0_isDigit_13 : decode cX0_isDigit 13 = .ok (.goto 4, 3) := by decide +kernel
theorem dX0_isDigit_16 : decode cX0_isDigit 16 = .ok (.iconst 0, 1) := by decide +kernel
theorem dX0_isDigit_17 : decode cX0_isDigit 17 = .ok (.ireturn, 1) := by decide +kernel
theorem dX1_init_0 : decode cX1_init 0 = .ok (.aload_n 0, 1) := by decide +kernel
theorem dX1_init_1 : decode cX1_init 1 = .ok (.invokespecial 3, 3) := by decide +kernel
theorem dX1_init_4 : decode cX1_init 4 = .ok (.aload_n 0, 1) := by decide +kernel
theorem dX1_init_5 : decode cX1_init 5 = .ok (.bipush 6, 2) := by decide +kernel
theorem dX1_init_7 : decode cX1_init 7 = .ok (.newarray .int, 2) := by decide +kernel
theorem dX1_init_9 : decode cX1_init 9 = .ok (.putfield 9, 3) := by decide +kernel
theorem dX1_init_12 : decode cX1_init 12 = .ok (.aload_n 0, 1) := by decide +kernel
theorem dX1_init_13 : decode cX1_init 13 = .ok (.bipush 6, 2) := by decide +kernel
theorem dX1_init_15 : decode cX1_init 15 = .ok (.newarray .int, 2) := by decide +kernel
theorem dX1_init_17 : decode cX1_init 17 = .ok (.putfield 15, 3) := by decide +kernel
theorem dX1_init_20 : decode cX1_init 20 = .ok (.aload_n 0, 1) := by decide +kernel
theorem dX1_init_21 : decode cX1_init 21 = .ok (.bipush 6, 2) := by decide +kernel
theorem dX1_init_23 : decode cX1_init 23 = .ok (.newarray .int, 2) := by decide +kernel
theorem dX1_init_25 : decode cX1_init 25 = .ok (.putfield 18, 3) := by decide +kernel
theorem dX1_init_28 : decode cX1_init 28 = .ok (.aload_n 0, 1) := by decide +kernel
theorem dX1_init_29 : decode cX1_init 29 = .ok (.bipush 6, 2) := by decide +kernel
theorem dX1_init_31 : decode cX1_init 31 = .ok (.newarray .int, 2) := by decide +kernel
theorem dX1_init_33 : decode cX1_init 33 = .ok (.putfield 21, 3) := by decide +kernel
theorem dX1_init_36 : decode cX1_init 36 = .ok (.aload_n 0, 1) := by decide +kernel
theorem dX1_init_37 : decode cX1_init 37 = .ok (.bipush 6, 2) := by decide +kernel
theorem dX1_init_39 : decode cX1_init 39 = .ok (.newarray .int, 2) := by decide +kernel
theorem dX1_init_41 : decode cX1_init 41 = .ok (.putfield 24, 3) := by decide +kernel
theorem dX1_init_44 : decode cX1_init 44 = .ok (.aload_n 0, 1) := by decide +kernel
theorem dX1_init_45 : decode cX1_init 45 = .ok (.bipush 6, 2) := by decide +kernel
theorem dX1_init_47 : decode cX1_init 47 = .ok (.newarray .int, 2) := by decide +kernel
theorem dX1_init_49 : decode cX1_init 49 = .ok (.putfield 27, 3) := by decide +kernel
theorem dX1_init_52 : decode cX1_init 52 = .ok (.aload_n 0, 1) := by decide +kernel
theorem dX1_init_53 : decode cX1_init 53 = .ok (.bipush 6, 2) := by decide +kernel
theorem dX1_init_55 : decode cX1_init 55 = .ok (.newarray .int, 2) := by decide +kernel
theorem dX1_init_57 : decode cX1_init 57 = .ok (.putfield 30, 3) := by decide +kernel
theorem dX1_init_60 : decode cX1_init 60 = .ok (.aload_n 0, 1) := by decide +kernel
theorem dX1_init_61 : decode cX1_init 61 = .ok (.bipush 6, 2) := by decide +kernel
theorem dX1_init_63 : decode cX1_init 63 = .ok (.newarray .int, 2) := by decide +kernel
theorem dX1_init_65 : decode cX1_init 65 = .ok (.putfield 33, 3) := by decide +kernel
theorem dX1_init_68 : decode cX1_init 68 = .ok (.aload_n 0, 1) := by decide +kernel
theorem dX1_init_69 : decode cX1_init 69 = .ok (.iconst (-1), 1) := by decide +kernel
theorem dX1_init_70 : decode cX1_init 70 = .ok (.putfield 36, 3) := by decide +kernel
theorem dX1_init_73 : decode cX1_init 73 = .ok (.aload_n 0, 1) := by decide +kernel
theorem dX1_init_74 : decode cX1_init 74 = .ok (.iconst (-1), 1) := by decide +kernel
theorem dX1_init_75 : decode cX1_init 75 = .ok (.putfield 40, 3) := by decide +kernel
theorem dX1_init_78 : decode cX1_init 78 = .ok (.return_, 1) := by decide +kernel
theorem dX1_copyFrom_0 : decode cX1_copyFrom 0 = .ok (.aload_n 1, 1) := by decide +kernel
theorem dX1_copyFrom_1 : decode cX1_copyFrom 1 = .ok (.getfield 9, 3) := by decide +kernel
theorem dX1_copyFrom_4 : decode cX1_copyFrom 4 = .ok (.iconst 0, 1) := by decide +kernel
theorem dX1_copyFrom_5 : decode cX1_copyFrom 5 = .ok (.aload_n 0, 1) := by decide +kernel
theorem dX1_copyFrom_6 : decode cX1_copyFrom 6 = .ok (.getfield 9, 3) := by decide +kernel
theorem dX1_copyFrom_9 : decode cX1_copyFrom 9 = .ok (.iconst 0, 1) := by decide +kernel
theorem dX1_copyFrom_10 : decode cX1_copyFrom 10 = .ok (.bipush 6, 2) := by decide +kernel
theorem dX1_copyFrom_12 : decode cX1_copyFrom 12 = .ok (.invokestatic 43, 3) := by decide +kernel
theorem dX1_copyFrom_15 : decode cX1_copyFrom 15 = .ok (.aload_n 1, 1) := by decide +kernel
theorem dX1_copyFrom_16 : decode cX1_copyFrom 16 = .ok (.getfield 15, 3) := by decide +kernel
theorem dX1_copyFrom_19 : decode cX1_copyFrom 19 = .ok (.iconst 0, 1) := by decide +kernel
theorem dX1_copyFrom_20 : decode cX1_copyFrom 20 = .ok (.aload_n 0, 1) := by decide +kernel
theorem dX1_copyFrom_21 : decode cX1_copyFrom 21 = .ok (.getfield 15, 3) := by decide +kernel
theorem dX1_copyFrom_24 : decode cX1_copyFrom 24 = .ok (.iconst 0, 1) := by decide +kernel
theorem dX1_copyFrom_25 : decode cX1_copyFrom 25 = .ok (.bipush 6, 2) := by decide +kernel
theorem dX1_copyFrom_27 : decode cX1_copyFrom 27 = .ok (.invokestatic 43, 3) := by decide +kernel
theorem dX1_copyFrom_30 : decode cX1_copyFrom 30 = .ok (.aload_n 1, 1) := by decide +kernel
theorem dX1_copyFrom_31 : decode cX1_copyFrom 31 = .ok (.getfield 18, 3) := by decide +kernel
theorem dX1_copyFrom_34 : decode cX1_copyFrom 34 = .ok (.iconst 0, 1) := by decide +kernel
theorem dX1_copyFrom_35 : decode cX1_copyFrom 35 = .ok (.aload_n 0, 1) := by decide +kernel
theorem dX1_copyFrom_36 : decode cX1_copyFrom 36 = .ok (.getfield 18, 3) := by decide +kernel
theorem dX1_copyFrom_39 : decode cX1_copyFrom 39 = .ok (.iconst 0, 1) := by decide +kernel
theorem dX1_copyFrom_40 : decode cX1_copyFrom 40 = .ok (.bipush 6, 2) := by decide +kernel
theorem dX1_copyFrom_42 : decode cX1_copyFrom 42 = .ok (.invokestatic 43, 3) := by decide +kernel
theorem dX1_copyFrom_45 : decode cX1_copyFrom 45 = .ok (.aload_n 1, 1) := by decide +kernel
theorem dX1_copyFrom_46 : decode cX1_copyFrom 46 = .ok (.getfield 21, 3) := by decide +kernel
theorem dX1_copyFrom_49 : decode cX1_copyFrom 49 = .ok (.iconst 0, 1) := by decide +kernel
theorem dX1_copyFrom_50 : decode cX1_copyFrom 50 = .ok (.aload_n 0, 1) := by decide +kernel
theorem dX1_copyFrom_51 : decode cX1_copyFrom 51 = .ok (.getfield 21, 3) := by decide +kernel
theorem dX1_copyFrom_54 : decode cX1_copyFrom 54 = .ok (.iconst 0, 1) := by decide +kernel
theorem dX1_copyFrom_55 : decode cX1_copyFrom 55 = .ok (.bipush 6, 2) := by decide +kernel
theorem dX1_copyFrom_57 : decode cX1_copyFrom 57 = .ok (.invokestatic 43, 3) := by decide +kernel
theorem dX1_copyFrom_60 : decode cX1_copyFrom 60 = .ok (.aload_n 1, 1) := by decide +kernel
theorem dX1_copyFrom_61 : decode cX1_copyFrom 61 = .ok (.getfield 24, 3) := by decide +kernel
theorem dX1_copyFrom_64 : decode cX1_copyFrom 64 = .ok (.iconst 0, 1) := by decide +kernel
theorem dX1_copyFrom_65 : decode cX1_copyFrom 65 = .ok (.aload_n 0, 1) := by decide +kernel
theorem dX1_copyFrom_66 : decode cX1_copyFrom 66 = .ok (.getfield 24, 3) := by decide +kernel
theorem dX1_copyFrom_69 : decode cX1_copyFrom 69 = .ok (.iconst 0, 1) := by decide +kernel
theorem dX1_copyFrom_70 : decode cX1_copyFrom 70 = .ok (.bipush 6, 2) := by decide +kernel
theorem dX1_copyFrom_72 : decode cX1_copyFrom 72 = .ok (.invokestatic 43, 3) := by decide +kernel
theorem dX1_copyFrom_75 : decode cX1_copyFrom 75 = .ok (.aload_n 1, 1) := by decide +kernel
theorem dX1_copyFrom_76 : decode cX1_copyFrom 76 = .ok (.getfield 27, 3) := by decide +kernel
theorem dX1_copyFrom_79 : decode cX1_copyFrom 79 = .ok (.iconst 0, 1) := by decide +kernel
theorem dX1_copyFrom_80 : decode cX1_copyFrom 80 = .ok (.aload_n 0, 1) := by decide +kernel
theorem dX1_copyFrom_81 : decode cX1_copyFrom 81 = .ok (.getfield 27, 3) := by decide +kernel
theorem dX1_copyFrom_84 : decode cX1_copyFrom 84 = .ok (.iconst 0, 1) := by decide +kernel
theorem dX1_copyFrom_85 : decode cX1_copyFrom 85 = .ok (.bipush 6, 2) := by decide +kernel
theorem dX1_copyFrom_87 : decode cX1_copyFrom 87 = .ok (.invokestatic 43, 3) := by decide +kernel
theorem dX1_copyFrom_90 : decode cX1_copyFrom 90 = .ok (.aload_n 1, 1) := by decide +kernel
theorem dX1_copyFrom_91 : decode cX1_copyFrom 91 = .ok (.getfield 30, 3) := by decide +kernel
theorem dX1_copyFrom_94 : decode cX1_copyFrom 94 = .ok (.iconst 0, 1) := by decide +kernel
theorem dX1_copyFrom_95 : decode cX1_copyFrom 95 = .ok (.aload_n 0, 1) := by decide +kernel
theorem dX1_copyFrom_96 : decode cX1_copyFrom 96 = .ok (.getfield 30, 3) := by decide +kernel
theorem dX1_copyFrom_99 : decode cX1_copyFrom 99 = .ok (.iconst 0, 1) := by decide +kernel
theorem dX1_copyFrom_100 : decode cX1_copyFrom 100 = .ok (.bipush 6, 2) := by decide +kernel
theorem dX1_copyFrom_102 : decode cX1_copyFrom 102 = .ok (.invokestatic 43, 3) := by decide +kernel
theorem dX1_copyFrom_105 : decode cX1_copyFrom 105 = .ok (.aload_n 0, 1) := by decide +kernel
theorem dX1_copyFrom_106 : decode cX1_copyFrom 106 = .ok (.aload_n 1, 1) := by decide +kernel
theorem dX1_copyFrom_107 : decode cX1_copyFrom 107 = .ok (.getfield 49, 3) := by decide +kernel
theorem dX1_copyFrom_110 : decode cX1_copyFrom 110 = .ok (.putfield 49, 3) := by decide +kernel
theorem dX1_copyFrom_113 : decode cX1_copyFrom 113 = .ok (.aload_n 0, 1) := by decide +kernel
theorem dX1_copyFrom_114 : decode cX1_copyFrom 114 = .ok (.aload_n 1, 1) := by decide +kernel
theorem dX1_copyFrom_115 : decode cX1_copyFrom 115 = .ok (.getfield 52, 3) := by decide +kernel
theorem dX1_copyFrom_118 : decode cX1_copyFrom 118 = .ok (.putfield 52, 3) := by decide +kernel
theorem dX1_copyFrom_121 : decode cX1_copyFrom 121 = .ok (.aload_n 0, 1) := by decide +kernel
theorem dX1_copyFrom_122 : decode cX1_copyFrom 122 = .ok (.aload_n 1, 1) := by decide +kernel
theorem dX1_copyFrom_123 : decode cX1_copyFrom 123 = .ok (.getfield 36, 3) := by decide +kernel
theorem dX1_copyFrom_126 : decode cX1_copyFrom 126 = .ok (.putfield 36, 3) := by decide +kernel
theorem dX1_copyFrom_129 : decode cX1_copyFrom 129 = .ok (.aload_n 0, 1) := by decide +kernel
theorem dX1_copyFrom_130 : decode cX1_copyFrom 130 = .ok (.aload_n 1, 1) := by decide +kernel
theorem dX1_copyFrom_131 : decode cX1_copyFrom 131 = .ok (.getfield 40, 3) := by decide +kernel
theorem dX1_copyFrom_134 : decode cX1_copyFrom 134 = .ok (.putfield 40, 3) := by decide +kernel
theorem dX1_copyFrom_137 : decode cX1_copyFrom 137 = .ok (.return_, 1) := by decide +kernel
theorem dX1_isStreet_0 : decode cX1_isStreet 0 = .ok (.iload_n 1, 1) := by decide +kernel
theorem dX1_isStreet_1 : decode cX1_isStreet 1 = .ok (.ifCond .lt 15, 3) := by decide +kernel
theorem dX1_isStreet_4 : decode cX1_isStreet 4 = .ok (.iload_n 1, 1) := by decide +kernel
theorem dX1_isStreet_5 : decode cX1_isStreet 5 = .ok (.aload_n 0, 1) := by decide +kernel
theorem dX1_isStreet_6 : decode cX1_isStreet 6 = .ok (.getfield 49, 3) := by decide +kernel
theorem dX1_isStreet_9 : decode cX1_isStreet 9 = .ok (.if_icmp .ge 7, 3) := by decide +kernel
theorem dX1_isStreet_12 : decode cX1_isStreet 12 = .ok (.iconst 1, 1) := by decide +kernel
theorem dX1_isStreet_13 : decode cX1_isStreet 13 = .ok (.goto 4, 3) := by decide +kernel
theorem dX1_isStreet_16 : decode cX1_isStreet 16 = .ok (.iconst 0, 1) := by decide +kernel
theorem dX1_isStreet_17 : decode cX1_isStreet 17 = .ok (.ireturn, 1) := by decide +kernel
theorem dX1_isFull_0 : decode cX1_isFull 0 = .ok (.aload_n 0, 1) := by decide +kernel
theorem dX1_isFull_1 : decode cX1_isFull 1 = .ok (.getfield 49, 3) := by decide +kernel
theorem dX1_isFull_4 : decode cX1_isFull 4 = .ok (.bipush 6, 2) := by decide +kernel
theorem dX1_isFull_6 : decode cX1_isFull 6 = .ok (.if_icmp .lt 7, 3) := by decide +kernel
theorem dX1_isFull_9 : decode cX1_isFull 9 = .ok (.iconst 1, 1) := by decide +kernel
theorem dX1_isFull_10 : decode cX1_isFull 10 = .ok (.goto 4, 3) := by decide +kernel
theorem dX1_isFull_13 : decode cX1_isFull 13 = .ok (.iconst 0, 1) := by decide +kernel
theorem dX1_isFull_14 : decode cX1_isFull 14 = .ok (.ireturn, 1) := by decide +kernel
theorem dX1_tell_0 : decode cX1_tell 0 = .ok (.aload_n 0, 1) := by decide +kernel
theorem dX1_tell_1 : decode cX1_tell 1 = .ok (.invokevirtual 55, 3) := by decide +kernel
theorem dX1_tell_4 : decode cX1_tell 4 = .ok (.ifCond .ne 14, 3) := by decide +kernel
theorem dX1_tell_7 : decode cX1_tell 7 = .ok (.iload_n 3, 1) := by decide +kernel
theorem dX1_tell_8 : decode cX1_tell 8 = .ok (.iconst 3, 1) := by decide +kernel
theorem dX1_tell_9 : decode cX1_tell 9 = .ok (.if_icmp .gt 9, 3) := by decide +kernel
theorem dX1_tell_12 : decode cX1_tell 12 = .ok (.iload 4, 2) := by decide +kernel
theorem dX1_tell_14 : decode cX1_tell 14 = .ok (.iconst 4, 1) := by decide +kernel
theorem dX1_tell_15 : decode cX1_tell 15 = .ok (.if_icmp .le 5, 3) := by decide +kernel
theorem dX1_tell_18 : decode cX1_tell 18 = .ok (.iconst 0, 1) := by decide +kernel
theorem dX1_tell_19 : decode cX1_tell 19 = .ok (.ireturn, 1) := by decide +kernel
theorem dX1_tell_20 : decode cX1_tell 20 = .ok (.aload_n 0, 1) := by decide +kernel
theorem dX1_tell_21 : decode cX1_tell 21 = .ok (.getfield 49, 3) := by decide +kernel
theorem dX1_tell_24 : decode cX1_tell 24 = .ok (.iconst 1, 1) := by decide +kernel
theorem dX1_tell_25 : decode cX1_tell 25 = .ok (.isub, 1) := by decide +kernel
theorem dX1_tell_26 : decode cX1_tell 26 = .ok (.istore 5, 2) := by decide +kernel
theorem dX1_tell_28 : decode cX1_tell 28 = .ok (.aload_n 0, 1) := by decide +kernel
theorem dX1_tell_29 : decode cX1_tell 29 = .ok (.iload 5, 2) := by decide +kernel
theorem dX1_tell_31 : decode cX1_tell 31 = .ok (.invokevirtual 59, 3) := by decide +kernel
theorem dX1_tell_34 : decode cX1_tell 34 = .ok (.ifCond .eq 24, 3) := by decide +kernel
theorem dX1_tell_37 : decode cX1_tell 37 = .ok (.aload_n 0, 1) := by decide +kernel
theorem dX1_tell_38 : decode cX1_tell 38 = .ok (.getfield 27, 3) := by decide +kernel
theorem dX1_tell_41 : decode cX1_tell 41 = .ok (.iload 5, 2) := by decide +kernel
theorem dX1_tell_43 : decode cX1_tell 43 = .ok (.iaload, 1) := by decide +kernel
theorem dX1_tell_44 : decode cX1_tell 44 = .ok (.ifCond .ne 14, 3) := by decide +kernel
theorem dX1_tell_47 : decode cX1_tell 47 = .ok (.aload_n 0, 1) := by decide +kernel
theorem dX1_tell_48 : decode cX1_tell 48 = .ok (.getfield 27, 3) := by decide +kernel
theorem dX1_tell_51 : decode cX1_tell 51 = .ok (.iload 5, 2) := by decide +kernel
theorem dX1_tell_53 : decode cX1_tell 53 = .ok (.aload_n 0, 1) := by decide +kernel
theorem dX1_tell_54 : decode cX1_tell 54 = .ok (.getfield 49, 3) := by decide +kernel
theorem dX1_tell_57 : decode cX1_tell 57 = .ok (.iastore, 1) := by decide +kernel
theorem dX1_tell_58 : decode cX1_tell 58 = .ok (.aload_n 0, 1) := by decide +kernel
theorem dX1_tell_59 : decode cX1_tell 59 = .ok (.iload_n 1, 1) := by decide +kernel
theorem dX1_tell_60 : decode cX1_tell 60 = .ok (.iload_n 2, 1) := by decide +kernel
theorem dX1_tell_61 : decode cX1_tell 61 = .ok (.iload_n 3, 1) := by decide +kernel
theorem dX1_tell_62 : decode cX1_tell 62 = .ok (.iload 4, 2) := by decide +kernel
theorem dX1_tell_64 : decode cX1_tell 64 = .ok (.invokevirtual 63, 3) := by decide +kernel
theorem dX1_tell_67 : decode cX1_tell 67 = .ok (.iconst 1, 1) := by decide +kernel
theorem dX1_tell_68 : decode cX1_tell 68 = .ok (.ireturn, 1) := by decide +kernel
theorem dX1_add_0 : decode cX1_add 0 = .ok (.aload_n 0, 1) := by decide +kernel
theorem dX1_add_1 : decode cX1_add 1 = .ok (.invokevirtual 55, 3) := by decide +kernel
theorem dX1_add_4 : decode cX1_add 4 = .ok (.ifCond .eq 4, 3) := by decide +kernel
theorem dX1_add_7 : decode cX1_add 7 = .ok (.return_, 1) := by decide +kernel
theorem dX1_add_8 : decode cX1_add 8 = .ok (.aload_n 0, 1) := by decide +kernel
theorem dX1_add_9 : decode cX1_add 9 = .ok (.getfield 9, 3) := by decide +kernel
theorem dX1_add_12 : decode cX1_add 12 = .ok (.aload_n 0, 1) := by decide +kernel
theorem dX1_add_13 : decode cX1_add 13 = .ok (.getfield 49, 3) := by decide +kernel
theorem dX1_add_16 : decode cX1_add 16 = .ok (.iload_n 1, 1) := by decide +kernel
theorem dX1_add_17 : decode cX1_add 17 = .ok (.iastore, 1) := by decide +kernel
theorem dX1_add_18 : decode cX1_add 18 = .ok (.aload_n 0, 1) := by decide +kernel
theorem dX1_add_19 : decode cX1_add 19 = .ok (.getfield 15, 3) := by decide +kernel
theorem dX1_add_22 : decode cX1_add 22 = .ok (.aload_n 0, 1) := by decide +kernel
theorem dX1_add_23 : decode cX1_add 23 = .ok (.getfield 49, 3) := by decide +kernel
theorem dX1_add_26 : decode cX1_add 26 = .ok (.iload_n 2, 1) := by decide +kernel
theorem dX1_add_27 : decode cX1_add 27 = .ok (.iastore, 1) := by decide +kernel
theorem dX1_add_28 : decode cX1_add 28 = .ok (.aload_n 0, 1) := by decide +kernel
theorem dX1_add_29 : decode cX1_add 29 = .ok (.getfield 18, 3) := by decide +kernel
theorem dX1_add_32 : decode cX1_add 32 = .ok (.aload_n 0, 1) := by decide +kernel
theorem dX1_add_33 : decode cX1_add 33 = .ok (.getfield 49, 3) := by decide +kernel
theorem dX1_add_36 : decode cX1_add 36 = .ok (.iload_n 3, 1) := by decide +kernel
theorem dX1_add_37 : decode cX1_add 37 = .ok (.iastore, 1) := by decide +kernel
theorem dX1_add_38 : decode cX1_add 38 = .ok (.aload_n 0, 1) := by decide +kernel
theorem dX1_add_39 : decode cX1_add 39 = .ok (.getfield 21, 3) := by decide +kernel
theorem dX1_add_42 : decode cX1_add 42 = .ok (.aload_n 0, 1) := by decide +kernel
theorem dX1_add_43 : decode cX1_add 43 = .ok (.getfield 49, 3) := by decide +kernel
theorem dX1_add_46 : decode cX1_add 46 = .ok (.iload 4, 2) := by decide +kernel
theorem dX1_add_48 : decode cX1_add 48 = .ok (.iastore, 1) := by decide +kernel
theorem dX1_add_49 : decode cX1_add 49 = .ok (.aload_n 0, 1) := by decide +kernel
theorem dX1_add_50 : decode cX1_add 50 = .ok (.getfield 24, 3) := by decide +kernel
theorem dX1_add_53 : decode cX1_add 53 = .ok (.aload_n 0, 1) := by decide +kernel
theorem dX1_add_54 : decode cX1_add 54 = .ok (.getfield 49, 3) := by decide +kernel
theorem dX1_add_57 : decode cX1_add 57 = .ok (.bipush 9, 2) := by decide +kernel
theorem dX1_add_59 : decode cX1_add 59 = .ok (.iastore, 1) := by decide +kernel
theorem dX1_add_60 : decode cX1_add 60 = .ok (.aload_n 0, 1) := by decide +kernel
theorem dX1_add_61 : decode cX1_add 61 = .ok (.getfield 27, 3) := by decide +kernel
theorem dX1_add_64 : decode cX1_add 64 = .ok (.aload_n 0, 1) := by decide +kernel
theorem dX1_add_65 : decode cX1_add 65 = .ok (.getfield 49, 3) := by decide +kernel
theorem dX1_add_68 : decode cX1_add 68 = .ok (.iconst 0, 1) := by decide +kernel
theorem dX1_add_69 : decode cX1_add 69 = .ok (.iastore, 1) := by decide +kernel
theorem dX1_add_70 : decode cX1_add 70 = .ok (.aload_n 0, 1) := by decide +kernel
theorem dX1_add_71 : decode cX1_add 71 = .ok (.getfield 30, 3) := by decide +kernel
theorem dX1_add_74 : decode cX1_add 74 = .ok (.aload_n 0, 1) := by decide +kernel
theorem dX1_add_75 : decode cX1_add 75 = .ok (.getfield 49, 3) := by decide +kernel
theorem dX1_add_78 : decode cX1_add 78 = .ok (.iconst 0, 1) := by decide +kernel
theorem dX1_add_79 : decode cX1_add 79 = .ok (.iastore, 1) := by decide +kernel
theorem dX1_add_80 : decode cX1_add 80 = .ok (.aload_n 0, 1) := by decide +kernel
theorem dX1_add_81 : decode cX1_add 81 = .ok (.dup, 1) := by decide +kernel
theorem dX1_add_82 : decode cX1_add 82 = .ok (.getfield 49, 3) := by decide +kernel
theorem dX1_add_85 : decode cX1_add 85 = .ok (.iconst 1, 1) := by decide +kernel
theorem dX1_add_86 : decode cX1_add 86 = .ok (.iadd, 1) := by decide +kernel
theorem dX1_add_87 : decode cX1_add 87 = .ok (.putfield 49, 3) := by decide +kernel
theorem dX1_add_90 : decode cX1_add 90 = .ok (.return_, 1) := by decide +kernel
theorem dX1_tellWhoMends_0 : decode cX1_tellWhoMends 0 = .ok (.aload_n 0, 1) := by decide +kernel
theorem dX1_tellWhoMends_1 : decode cX1_tellWhoMends 1 = .ok (.iload_n 1, 1) := by decide +kernel
theorem dX1_tellWhoMends_2 : decode cX1_tellWhoMends 2 = .ok (.invokevirtual 59, 3) := by decide +kernel
theorem dX1_tellWhoMends_5 : decode cX1_tellWhoMends 5 = .ok (.ifCond .eq 11, 3) := by decide +kernel
theorem dX1_tellWhoMends_8 : decode cX1_tellWhoMends 8 = .ok (.aload_n 0, 1) := by decide +kernel
theorem dX1_tellWhoMends_9 : decode cX1_tellWhoMends 9 = .ok (.iload_n 2, 1) := by decide +kernel
theorem dX1_tellWhoMends_10 : decode cX1_tellWhoMends 10 = .ok (.invokevirtual 59, 3) := by decide +kernel
theorem dX1_tellWhoMends_13 : decode cX1_tellWhoMends 13 = .ok (.ifCond .ne 5, 3) := by decide +kernel
theorem dX1_tellWhoMends_16 : decode cX1_tellWhoMends 16 = .ok (.iconst 0, 1) := by decide +kernel
theorem dX1_tellWhoMends_17 : decode cX1_tellWhoMends 17 = .ok (.ireturn, 1) := by decide +kernel
theorem dX1_tellWhoMends_18 : decode cX1_tellWhoMends 18 = .ok (.aload_n 0, 1) := by decide +kernel
theorem dX1_tellWhoMends_19 : decode cX1_tellWhoMends 19 = .ok (.getfield 27, 3) := by decide +kernel
theorem dX1_tellWhoMends_22 : decode cX1_tellWhoMends 22 = .ok (.iload_n 1, 1) := by decide +kernel
theorem dX1_tellWhoMends_23 : decode cX1_tellWhoMends 23 = .ok (.iload_n 2, 1) := by decide +kernel
theorem dX1_tellWhoMends_24 : decode cX1_tellWhoMends 24 = .ok (.iastore, 1) := by decide +kernel
theorem dX1_tellWhoMends_25 : decode cX1_tellWhoMends 25 = .ok (.iconst 1, 1) := by decide +kernel
theorem dX1_tellWhoMends_26 : decode cX1_tellWhoMends 26 = .ok (.ireturn, 1) := by decide +kernel
theorem dX1_tellPence_0 : decode cX1_tellPence 0 = .ok (.aload_n 0, 1) := by decide +kernel
theorem dX1_tellPence_1 : decode cX1_tellPence 1 = .ok (.iload_n 1, 1) := by decide +kernel
theorem dX1_tellPence_2 : decode cX1_tellPence 2 = .ok (.invokevirtual 59, 3) := by decide +kernel
theorem dX1_tellPence_5 : decode cX1_tellPence 5 = .ok (.ifCond .ne 5, 3) := by decide +kernel
theorem dX1_tellPence_8 : decode cX1_tellPence 8 = .ok (.iconst 0, 1) := by decide +kernel
theorem dX1_tellPence_9 : decode cX1_tellPence 9 = .ok (.ireturn, 1) := by decide +kernel
theorem dX1_tellPence_10 : decode cX1_tellPence 10 = .ok (.aload_n 0, 1) := by decide +kernel
theorem dX1_tellPence_11 : decode cX1_tellPence 11 = .ok (.getfield 24, 3) := by decide +kernel
theorem dX1_tellPence_14 : decode cX1_tellPence 14 = .ok (.iload_n 1, 1) := by decide +kernel
theorem dX1_tellPence_15 : decode cX1_tellPence 15 = .ok (.iload_n 2, 1) := by decide +kernel
theorem dX1_tellPence_16 : decode cX1_tellPence 16 = .ok (.iastore, 1) := by decide +kernel
theorem dX1_tellPence_17 : decode cX1_tellPence 17 = .ok (.iconst 1, 1) := by decide +kernel
theorem dX1_tellPence_18 : decode cX1_tellPence 18 = .ok (.ireturn, 1) := by decide +kernel
theorem dX1_putBehind_0 : decode cX1_putBehind 0 = .ok (.aload_n 0, 1) := by decide +kernel
theorem dX1_putBehind_1 : decode cX1_putBehind 1 = .ok (.invokevirtual 55, 3) := by decide +kernel
theorem dX1_putBehind_4 : decode cX1_putBehind 4 = .ok (.ifCond .ne 11, 3) := by decide +kernel
theorem dX1_putBehind_7 : decode cX1_putBehind 7 = .ok (.aload_n 0, 1) := by decide +kernel
theorem dX1_putBehind_8 : decode cX1_putBehind 8 = .ok (.iload_n 1, 1) := by decide +kernel
theorem dX1_putBehind_9 : decode cX1_putBehind 9 = .ok (.invokevirtual 59, 3) := by decide +kernel
theorem dX1_putBehind_12 : decode cX1_putBehind 12 = .ok (.ifCond .ne 4, 3) := by decide +kernel
theorem dX1_putBehind_15 : decode cX1_putBehind 15 = .ok (.return_, 1) := by decide +kernel
theorem dX1_putBehind_16 : decode cX1_putBehind 16 = .ok (.aload_n 0, 1) := by decide +kernel
theorem dX1_putBehind_17 : decode cX1_putBehind 17 = .ok (.getfield 49, 3) := by decide +kernel
theorem dX1_putBehind_20 : decode cX1_putBehind 20 = .ok (.istore_n 3, 1) := by decide +kernel
theorem dX1_putBehind_21 : decode cX1_putBehind 21 = .ok (.aload_n 0, 1) := by decide +kernel
theorem dX1_putBehind_22 : decode cX1_putBehind 22 = .ok (.iconst 0, 1) := by decide +kernel
theorem dX1_putBehind_23 : decode cX1_putBehind 23 = .ok (.iconst 0, 1) := by decide +kernel
theorem dX1_putBehind_24 : decode cX1_putBehind 24 = .ok (.iconst 0, 1) := by decide +kernel
theorem dX1_putBehind_25 : decode cX1_putBehind 25 = .ok (.iload_n 2, 1) := by decide +kernel
theorem dX1_putBehind_26 : decode cX1_putBehind 26 = .ok (.invokevirtual 63, 3) := by decide +kernel
theorem dX1_putBehind_29 : decode cX1_putBehind 29 = .ok (.aload_n 0, 1) := by decide +kernel
theorem dX1_putBehind_30 : decode cX1_putBehind 30 = .ok (.getfield 24, 3) := by decide +kernel
theorem dX1_putBehind_33 : decode cX1_putBehind 33 = .ok (.iload_n 3, 1) := by decide +kernel
theorem dX1_putBehind_34 : decode cX1_putBehind 34 = .ok (.iconst 0, 1) := by decide +kernel
theorem dX1_putBehind_35 : decode cX1_putBehind 35 = .ok (.iastore, 1) := by decide +kernel
theorem dX1_putBehind_36 : decode cX1_putBehind 36 = .ok (.aload_n 0, 1) := by decide +kernel
theorem dX1_putBehind_37 : decode cX1_putBehind 37 = .ok (.getfield 27, 3) := by decide +kernel
theorem dX1_putBehind_40 : decode cX1_putBehind 40 = .ok (.iload_n 3, 1) := by decide +kernel
theorem dX1_putBehind_41 : decode cX1_putBehind 41 = .ok (.aload_n 0, 1) := by decide +kernel
theorem dX1_putBehind_42 : decode cX1_putBehind 42 = .ok (.getfield 27, 3) := by decide +kernel
theorem dX1_putBehind_45 : decode cX1_putBehind 45 = .ok (.iload_n 1, 1) := by decide +kernel
theorem dX1_putBehind_46 : decode cX1_putBehind 46 = .ok (.iaload, 1) := by decide +kernel
theorem dX1_putBehind_47 : decode cX1_putBehind 47 = .ok (.iastore, 1) := by decide +kernel
theorem dX1_putBehind_48 : decode cX1_putBehind 48 = .ok (.aload_n 0, 1) := by decide +kernel
theorem dX1_putBehind_49 : decode cX1_putBehind 49 = .ok (.getfield 27, 3) := by decide +kernel
theorem dX1_putBehind_52 : decode cX1_putBehind 52 = .ok (.iload_n 1, 1) := by decide +kernel
theorem dX1_putBehind_53 : decode cX1_putBehind 53 = .ok (.iload_n 3, 1) := by decide +kernel
theorem dX1_putBehind_54 : decode cX1_putBehind 54 = .ok (.iastore, 1) := by decide +kernel
theorem dX1_putBehind_55 : decode cX1_putBehind 55 = .ok (.return_, 1) := by decide +kernel
theorem dX1_leave_0 : decode cX1_leave 0 = .ok (.aload_n 0, 1) := by decide +kernel
theorem dX1_leave_1 : decode cX1_leave 1 = .ok (.iload_n 1, 1) := by decide +kernel
theorem dX1_leave_2 : decode cX1_leave 2 = .ok (.putfield 40, 3) := by decide +kernel
theorem dX1_leave_5 : decode cX1_leave 5 = .ok (.iconst 0, 1) := by decide +kernel
theorem dX1_leave_6 : decode cX1_leave 6 = .ok (.istore_n 2, 1) := by decide +kernel
theorem dX1_leave_7 : decode cX1_leave 7 = .ok (.iload_n 2, 1) := by decide +kernel
theorem dX1_leave_8 : decode cX1_leave 8 = .ok (.aload_n 0, 1) := by decide +kernel
theorem dX1_leave_9 : decode cX1_leave 9 = .ok (.getfield 49, 3) := by decide +kernel
theorem dX1_leave_12 : decode cX1_leave 12 = .ok (.if_icmp .ge 30, 3) := by decide +kernel
theorem dX1_leave_15 : decode cX1_leave 15 = .ok (.aload_n 0, 1) := by decide +kernel
theorem dX1_leave_16 : decode cX1_leave 16 = .ok (.getfield 27, 3) := by decide +kernel
theorem dX1_leave_19 : decode cX1_leave 19 = .ok (.iload_n 2, 1) := by decide +kernel
theorem dX1_leave_20 : decode cX1_leave 20 = .ok (.iaload, 1) := by decide +kernel
theorem dX1_leave_21 : decode cX1_leave 21 = .ok (.iload_n 1, 1) := by decide +kernel
theorem dX1_leave_22 : decode cX1_leave 22 = .ok (.if_icmp .ne 14, 3) := by decide +kernel
theorem dX1_leave_25 : decode cX1_leave 25 = .ok (.aload_n 0, 1) := by decide +kernel
theorem dX1_leave_26 : decode cX1_leave 26 = .ok (.getfield 27, 3) := by decide +kernel
theorem dX1_leave_29 : decode cX1_leave 29 = .ok (.iload_n 2, 1) := by decide +kernel
theorem dX1_leave_30 : decode cX1_leave 30 = .ok (.aload_n 0, 1) := by decide +kernel
theorem dX1_leave_31 : decode cX1_leave 31 = .ok (.iload_n 1, 1) := by decide +kernel
theorem dX1_leave_32 : decode cX1_leave 32 = .ok (.invokevirtual 67, 3) := by decide +kernel
theorem dX1_leave_35 : decode cX1_leave 35 = .ok (.iastore, 1) := by decide +kernel
theorem dX1_leave_36 : decode cX1_leave 36 = .ok (.iinc 2 1, 3) := by decide +kernel
theorem dX1_leave_39 : decode cX1_leave 39 = .ok (.goto (-32), 3) := by decide +kernel
theorem dX1_leave_42 : decode cX1_leave 42 = .ok (.return_, 1) := by decide +kernel
theorem dX1_mudBehind_0 : decode cX1_mudBehind 0 = .ok (.iconst 0, 1) := by decide +kernel
theorem dX1_mudBehind_1 : decode cX1_mudBehind 1 = .ok (.istore_n 2, 1) := by decide +kernel
theorem dX1_mudBehind_2 : decode cX1_mudBehind 2 = .ok (.iload_n 2, 1) := by decide +kernel
theorem dX1_mudBehind_3 : decode cX1_mudBehind 3 = .ok (.iload_n 1, 1) := by decide +kernel
theorem dX1_mudBehind_4 : decode cX1_mudBehind 4 = .ok (.if_icmp .ge 13, 3) := by decide +kernel
theorem dX1_mudBehind_7 : decode cX1_mudBehind 7 = .ok (.aload_n 0, 1) := by decide +kernel
theorem dX1_mudBehind_8 : decode cX1_mudBehind 8 = .ok (.invokevirtual 71, 3) := by decide +kernel
theorem dX1_mudBehind_11 : decode cX1_mudBehind 11 = .ok (.iinc 2 1, 3) := by decide +kernel
theorem dX1_mudBehind_14 : decode cX1_mudBehind 14 = .ok (.goto (-12), 3) := by decide +kernel
theorem dX1_mudBehind_17 : decode cX1_mudBehind 17 = .ok (.aload_n 0, 1) := by decide +kernel
theorem dX1_mudBehind_18 : decode cX1_mudBehind 18 = .ok (.invokevirtual 74, 3) := by decide +kernel
theorem dX1_mudBehind_21 : decode cX1_mudBehind 21 = .ok (.ireturn, 1) := by decide +kernel
theorem dX1_passYear_0 : decode cX1_passYear 0 = .ok (.iconst 0, 1) := by decide +kernel
theorem dX1_passYear_1 : decode cX1_passYear 1 = .ok (.istore_n 1, 1) := by decide +kernel
theorem dX1_passYear_2 : decode cX1_passYear 2 = .ok (.iload_n 1, 1) := by decide +kernel
theorem dX1_passYear_3 : decode cX1_passYear 3 = .ok (.aload_n 0, 1) := by decide +kernel
theorem dX1_passYear_4 : decode cX1_passYear 4 = .ok (.getfield 49, 3) := by decide +kernel
theorem dX1_passYear_7 : decode cX1_passYear 7 = .ok (.if_icmp .ge 40, 3) := by decide +kernel
theorem dX1_passYear_10 : decode cX1_passYear 10 = .ok (.aload_n 0, 1) := by decide +kernel
theorem dX1_passYear_11 : decode cX1_passYear 11 = .ok (.getfield 15, 3) := by decide +kernel
theorem dX1_passYear_14 : decode cX1_passYear 14 = .ok (.iload_n 1, 1) := by decide +kernel
theorem dX1_passYear_15 : decode cX1_passYear 15 = .ok (.bipush 9, 2) := by decide +kernel
theorem dX1_passYear_17 : decode cX1_passYear 17 = .ok (.aload_n 0, 1) := by decide +kernel
theorem dX1_passYear_18 : decode cX1_passYear 18 = .ok (.getfield 15, 3) := by decide +kernel
theorem dX1_passYear_21 : decode cX1_passYear 21 = .ok (.iload_n 1, 1) := by decide +kernel
theorem dX1_passYear_22 : decode cX1_passYear 22 = .ok (.iaload, 1) := by decide +kernel
theorem dX1_passYear_23 : decode cX1_passYear 23 = .ok (.aload_n 0, 1) := by decide +kernel
theorem dX1_passYear_24 : decode cX1_passYear 24 = .ok (.getfield 18, 3) := by decide +kernel
theorem dX1_passYear_27 : decode cX1_passYear 27 = .ok (.iload_n 1, 1) := by decide +kernel
theorem dX1_passYear_28 : decode cX1_passYear 28 = .ok (.iaload, 1) := by decide +kernel
theorem dX1_passYear_29 : decode cX1_passYear 29 = .ok (.iadd, 1) := by decide +kernel
theorem dX1_passYear_30 : decode cX1_passYear 30 = .ok (.invokestatic 78, 3) := by decide +kernel
theorem dX1_passYear_33 : decode cX1_passYear 33 = .ok (.iastore, 1) := by decide +kernel
theorem dX1_passYear_34 : decode cX1_passYear 34 = .ok (.aload_n 0, 1) := by decide +kernel
theorem dX1_passYear_35 : decode cX1_passYear 35 = .ok (.getfield 33, 3) := by decide +kernel
theorem dX1_passYear_38 : decode cX1_passYear 38 = .ok (.iload_n 1, 1) := by decide +kernel
theorem dX1_passYear_39 : decode cX1_passYear 39 = .ok (.iconst 0, 1) := by decide +kernel
theorem dX1_passYear_40 : decode cX1_passYear 40 = .ok (.iastore, 1) := by decide +kernel
theorem dX1_passYear_41 : decode cX1_passYear 41 = .ok (.iinc 1 1, 3) := by decide +kernel
theorem dX1_passYear_44 : decode cX1_passYear 44 = .ok (.goto (-42), 3) := by decide +kernel
theorem dX1_passYear_47 : decode cX1_passYear 47 = .ok (.iconst 0, 1) := by decide +kernel
theorem dX1_passYear_48 : decode cX1_passYear 48 = .ok (.istore_n 1, 1) := by decide +kernel
theorem dX1_passYear_49 : decode cX1_passYear 49 = .ok (.iload_n 1, 1) := by decide +kernel
theorem dX1_passYear_50 : decode cX1_passYear 50 = .ok (.aload_n 0, 1) := by decide +kernel
theorem dX1_passYear_51 : decode cX1_passYear 51 = .ok (.getfield 49, 3) := by decide +kernel
theorem dX1_passYear_54 : decode cX1_passYear 54 = .ok (.if_icmp .ge 44, 3) := by decide +kernel
theorem dX1_passYear_57 : decode cX1_passYear 57 = .ok (.aload_n 0, 1) := by decide +kernel
theorem dX1_passYear_58 : decode cX1_passYear 58 = .ok (.getfield 27, 3) := by decide +kernel
theorem dX1_passYear_61 : decode cX1_passYear 61 = .ok (.iload_n 1, 1) := by decide +kernel
theorem dX1_passYear_62 : decode cX1_passYear 62 = .ok (.iaload, 1) := by decide +kernel
theorem dX1_passYear_63 : decode cX1_passYear 63 = .ok (.istore_n 2, 1) := by decide +kernel
theorem dX1_passYear_64 : decode cX1_passYear 64 = .ok (.aload_n 0, 1) := by decide +kernel
theorem dX1_passYear_65 : decode cX1_passYear 65 = .ok (.iload_n 2, 1) := by decide +kernel
theorem dX1_passYear_66 : decode cX1_passYear 66 = .ok (.invokevirtual 59, 3) := by decide +kernel
theorem dX1_passYear_69 : decode cX1_passYear 69 = .ok (.ifCond .eq 23, 3) := by decide +kernel
theorem dX1_passYear_72 : decode cX1_passYear 72 = .ok (.aload_n 0, 1) := by decide +kernel
theorem dX1_passYear_73 : decode cX1_passYear 73 = .ok (.getfield 33, 3) := by decide +kernel
theorem dX1_passYear_76 : decode cX1_passYear 76 = .ok (.iload_n 2, 1) := by decide +kernel
theorem dX1_passYear_77 : decode cX1_passYear 77 = .ok (.dup2, 1) := by decide +kernel
theorem dX1_passYear_78 : decode cX1_passYear 78 = .ok (.iaload, 1) := by decide +kernel
theorem dX1_passYear_79 : decode cX1_passYear 79 = .ok (.aload_n 0, 1) := by decide +kernel
theorem dX1_passYear_80 : decode cX1_passYear 80 = .ok (.iload_n 1, 1) := by decide +kernel
theorem dX1_passYear_81 : decode cX1_passYear 81 = .ok (.aload_n 0, 1) := by decide +kernel
theorem dX1_passYear_82 : decode cX1_passYear 82 = .ok (.getfield 15, 3) := by decide +kernel
theorem dX1_passYear_85 : decode cX1_passYear 85 = .ok (.iload_n 2, 1) := by decide +kernel
theorem dX1_passYear_86 : decode cX1_passYear 86 = .ok (.iaload, 1) := by decide +kernel
theorem dX1_passYear_87 : decode cX1_passYear 87 = .ok (.invokevirtual 84, 3) := by decide +kernel
theorem dX1_passYear_90 : decode cX1_passYear 90 = .ok (.iadd, 1) := by decide +kernel
theorem dX1_passYear_91 : decode cX1_passYear 91 = .ok (.iastore, 1) := by decide +kernel
theorem dX1_passYear_92 : decode cX1_passYear 92 = .ok (.iinc 1 1, 3) := by decide +kernel
theorem dX1_passYear_95 : decode cX1_passYear 95 = .ok (.goto (-46), 3) := by decide +kernel
theorem dX1_passYear_98 : decode cX1_passYear 98 = .ok (.iconst 0, 1) := by decide +kernel
theorem dX1_passYear_99 : decode cX1_passYear 99 = .ok (.istore_n 1, 1) := by decide +kernel
theorem dX1_passYear_100 : decode cX1_passYear 100 = .ok (.iload_n 1, 1) := by decide +kernel
theorem dX1_passYear_101 : decode cX1_passYear 101 = .ok (.aload_n 0, 1) := by decide +kernel
theorem dX1_passYear_102 : decode cX1_passYear 102 = .ok (.getfield 49, 3) := by decide +kernel
theorem dX1_passYear_105 : decode cX1_passYear 105 = .ok (.if_icmp .ge 44, 3) := by decide +kernel
theorem dX1_passYear_108 : decode cX1_passYear 108 = .ok (.aload_n 0, 1) := by decide +kernel
theorem dX1_passYear_109 : decode cX1_passYear 109 = .ok (.getfield 30, 3) := by decide +kernel
theorem dX1_passYear_112 : decode cX1_passYear 112 = .ok (.iload_n 1, 1) := by decide +kernel
theorem dX1_passYear_113 : decode cX1_passYear 113 = .ok (.aload_n 0, 1) := by decide +kernel
theorem dX1_passYear_114 : decode cX1_passYear 114 = .ok (.getfield 33, 3) := by decide +kernel
theorem dX1_passYear_117 : decode cX1_passYear 117 = .ok (.iload_n 1, 1) := by decide +kernel
theorem dX1_passYear_118 : decode cX1_passYear 118 = .ok (.iaload, 1) := by decide +kernel
theorem dX1_passYear_119 : decode cX1_passYear 119 = .ok (.iastore, 1) := by decide +kernel
theorem dX1_passYear_120 : decode cX1_passYear 120 = .ok (.aload_n 0, 1) := by decide +kernel
theorem dX1_passYear_121 : decode cX1_passYear 121 = .ok (.getfield 15, 3) := by decide +kernel
theorem dX1_passYear_124 : decode cX1_passYear 124 = .ok (.iload_n 1, 1) := by decide +kernel
theorem dX1_passYear_125 : decode cX1_passYear 125 = .ok (.iconst 0, 1) := by decide +kernel
theorem dX1_passYear_126 : decode cX1_passYear 126 = .ok (.aload_n 0, 1) := by decide +kernel
theorem dX1_passYear_127 : decode cX1_passYear 127 = .ok (.getfield 15, 3) := by decide +kernel
theorem dX1_passYear_130 : decode cX1_passYear 130 = .ok (.iload_n 1, 1) := by decide +kernel
theorem dX1_passYear_131 : decode cX1_passYear 131 = .ok (.iaload, 1) := by decide +kernel
theorem dX1_passYear_132 : decode cX1_passYear 132 = .ok (.aload_n 0, 1) := by decide +kernel
theorem dX1_passYear_133 : decode cX1_passYear 133 = .ok (.getfield 33, 3) := by decide +kernel
theorem dX1_passYear_136 : decode cX1_passYear 136 = .ok (.iload_n 1, 1) := by decide +kernel
theorem dX1_passYear_137 : decode cX1_passYear 137 = .ok (.iaload, 1) := by decide +kernel
theorem dX1_passYear_138 : decode cX1_passYear 138 = .ok (.isub, 1) := by decide +kernel
theorem dX1_passYear_139 : decode cX1_passYear 139 = .ok (.invokestatic 87, 3) := by decide +kernel
theorem dX1_passYear_142 : decode cX1_passYear 142 = .ok (.iastore, 1) := by decide +kernel
theorem dX1_passYear_143 : decode cX1_passYear 143 = .ok (.iinc 1 1, 3) := by decide +kernel
theorem dX1_passYear_146 : decode cX1_passYear 146 = .ok (.goto (-46), 3) := by decide +kernel
theorem dX1_passYear_149 : decode cX1_passYear 149 = .ok (.aload_n 0, 1) := by decide +kernel
theorem dX1_passYear_150 : decode cX1_passYear 150 = .ok (.invokevirtual 90, 3) := by decide +kernel
theorem dX1_passYear_153 : decode cX1_passYear 153 = .ok (.aload_n 0, 1) := by decide +kernel
theorem dX1_passYear_154 : decode cX1_passYear 154 = .ok (.dup, 1) := by decide +kernel
theorem dX1_passYear_155 : decode cX1_passYear 155 = .ok (.getfield 52, 3) := by decide +kernel
theorem dX1_passYear_158 : decode cX1_passYear 158 = .ok (.iconst 1, 1) := by decide +kernel
theorem dX1_passYear_159 : decode cX1_passYear 159 = .ok (.iadd, 1) := by decide +kernel
theorem dX1_passYear_160 : decode cX1_passYear 160 = .ok (.putfield 52, 3) := by decide +kernel
theorem dX1_passYear_163 : decode cX1_passYear 163 = .ok (.return_, 1) := by decide +kernel
theorem dX1_workOf_0 : decode cX1_workOf 0 = .ok (.iload_n 1, 1) := by decide +kernel
theorem dX1_workOf_1 : decode cX1_workOf 1 = .ok (.aload_n 0, 1) := by decide +kernel
theorem dX1_workOf_2 : decode cX1_workOf 2 = .ok (.getfield 36, 3) := by decide +kernel
theorem dX1_workOf_5 : decode cX1_workOf 5 = .ok (.if_icmp .eq 11, 3) := by decide +kernel
theorem dX1_workOf_8 : decode cX1_workOf 8 = .ok (.iload_n 1, 1) := by decide +kernel
theorem dX1_workOf_9 : decode cX1_workOf 9 = .ok (.aload_n 0, 1) := by decide +kernel
theorem dX1_workOf_10 : decode cX1_workOf 10 = .ok (.getfield 40, 3) := by decide +kernel
theorem dX1_workOf_13 : decode cX1_workOf 13 = .ok (.if_icmp .ne 5, 3) := by decide +kernel
theorem dX1_workOf_16 : decode cX1_workOf 16 = .ok (.iconst 0, 1) := by decide +kernel
theorem dX1_workOf_17 : decode cX1_workOf 17 = .ok (.ireturn, 1) := by decide +kernel
theorem dX1_workOf_18 : decode cX1_workOf 18 = .ok (.aload_n 0, 1) := by decide +kernel
theorem dX1_workOf_19 : decode cX1_workOf 19 = .ok (.getfield 21, 3) := by decide +kernel
theorem dX1_workOf_22 : decode cX1_workOf 22 = .ok (.iload_n 1, 1) := by decide +kernel
theorem dX1_workOf_23 : decode cX1_workOf 23 = .ok (.iaload, 1) := by decide +kernel
theorem dX1_workOf_24 : decode cX1_workOf 24 = .ok (.istore_n 3, 1) := by decide +kernel
theorem dX1_workOf_25 : decode cX1_workOf 25 = .ok (.aload_n 0, 1) := by decide +kernel
theorem dX1_workOf_26 : decode cX1_workOf 26 = .ok (.getfield 9, 3) := by decide +kernel
theorem dX1_workOf_29 : decode cX1_workOf 29 = .ok (.iload_n 1, 1) := by decide +kernel
theorem dX1_workOf_30 : decode cX1_workOf 30 = .ok (.iaload, 1) := by decide +kernel
theorem dX1_workOf_31 : decode cX1_workOf 31 = .ok (.tableswitch 91 1 5 #[33, 48, 54, 71, 75], 33) := by decide +kernel
theorem dX1_workOf_64 : decode cX1_workOf 64 = .ok (.aload_n 0, 1) := by decide +kernel
theorem dX1_workOf_65 : decode cX1_workOf 65 = .ok (.getfield 52, 3) := by decide +kernel
theorem dX1_workOf_68 : decode cX1_workOf 68 = .ok (.iconst 2, 1) := by decide +kernel
theorem dX1_workOf_69 : decode cX1_workOf 69 = .ok (.irem, 1) := by decide +kernel
theorem dX1_workOf_70 : decode cX1_workOf 70 = .ok (.ifCond .ne 7, 3) := by decide +kernel
theorem dX1_workOf_73 : decode cX1_workOf 73 = .ok (.iload_n 3, 1) := by decide +kernel
theorem dX1_workOf_74 : decode cX1_workOf 74 = .ok (.goto 4, 3) := by decide +kernel
theorem dX1_workOf_77 : decode cX1_workOf 77 = .ok (.iconst 0, 1) := by decide +kernel
theorem dX1_workOf_78 : decode cX1_workOf 78 = .ok (.ireturn, 1) := by decide +kernel
theorem dX1_workOf_79 : decode cX1_workOf 79 = .ok (.aload_n 0, 1) := by decide +kernel
theorem dX1_workOf_80 : decode cX1_workOf 80 = .ok (.iload_n 1, 1) := by decide +kernel
theorem dX1_workOf_81 : decode cX1_workOf 81 = .ok (.invokevirtual 93, 3) := by decide +kernel
theorem dX1_workOf_84 : decode cX1_workOf 84 = .ok (.ireturn, 1) := by decide +kernel
theorem dX1_workOf_85 : decode cX1_workOf 85 = .ok (.aload_n 0, 1) := by decide +kernel
theorem dX1_workOf_86 : decode cX1_workOf 86 = .ok (.getfield 24, 3) := by decide +kernel
theorem dX1_workOf_89 : decode cX1_workOf 89 = .ok (.iload_n 1, 1) := by decide +kernel
theorem dX1_workOf_90 : decode cX1_workOf 90 = .ok (.iaload, 1) := by decide +kernel
theorem dX1_workOf_91 : decode cX1_workOf 91 = .ok (.ifCond .le 9, 3) := by decide +kernel
theorem dX1_workOf_94 : decode cX1_workOf 94 = .ok (.iload_n 3, 1) := by decide +kernel
theorem dX1_workOf_95 : decode cX1_workOf 95 = .ok (.iconst 1, 1) := by decide +kernel
theorem dX1_workOf_96 : decode cX1_workOf 96 = .ok (.iadd, 1) := by decide +kernel
theorem dX1_workOf_97 : decode cX1_workOf 97 = .ok (.goto 4, 3) := by decide +kernel
theorem dX1_workOf_100 : decode cX1_workOf 100 = .ok (.iconst 0, 1) := by decide +kernel
theorem dX1_workOf_101 : decode cX1_workOf 101 = .ok (.ireturn, 1) := by decide +kernel
theorem dX1_workOf_102 : decode cX1_workOf 102 = .ok (.iconst 2, 1) := by decide +kernel
theorem dX1_workOf_103 : decode cX1_workOf 103 = .ok (.iload_n 3, 1) := by decide +kernel
theorem dX1_workOf_104 : decode cX1_workOf 104 = .ok (.imul, 1) := by decide +kernel
theorem dX1_workOf_105 : decode cX1_workOf 105 = .ok (.ireturn, 1) := by decide +kernel
theorem dX1_workOf_106 : decode cX1_workOf 106 = .ok (.iload_n 2, 1) := by decide +kernel
theorem dX1_workOf_107 : decode cX1_workOf 107 = .ok (.bipush 6, 2) := by decide +kernel
theorem dX1_workOf_109 : decode cX1_workOf 109 = .ok (.if_icmp .lt 7, 3) := by decide +kernel
theorem dX1_workOf_112 : decode cX1_workOf 112 = .ok (.iload_n 3, 1) := by decide +kernel
theorem dX1_workOf_113 : decode cX1_workOf 113 = .ok (.goto 8, 3) := by decide +kernel
theorem dX1_workOf_116 : decode cX1_workOf 116 = .ok (.aload_n 0, 1) := by decide +kernel
theorem dX1_workOf_117 : decode cX1_workOf 117 = .ok (.iload_n 1, 1) := by decide +kernel
theorem dX1_workOf_118 : decode cX1_workOf 118 = .ok (.invokevirtual 93, 3) := by decide +kernel
theorem dX1_workOf_121 : decode cX1_workOf 121 = .ok (.ireturn, 1) := by decide +kernel
theorem dX1_workOf_122 : decode cX1_workOf 122 = .ok (.iload_n 3, 1) := by decide +kernel
theorem dX1_workOf_123 : decode cX1_workOf 123 = .ok (.ireturn, 1) := by decide +kernel
theorem dX1_trustOf_0 : decode cX1_trustOf 0 = .ok (.aload_n 0, 1) := by decide +kernel
theorem dX1_trustOf_1 : decode cX1_trustOf 1 = .ok (.getfield 21, 3) := by decide +kernel
theorem dX1_trustOf_4 : decode cX1_trustOf 4 = .ok (.iload_n 1, 1) := by decide +kernel
theorem dX1_trustOf_5 : decode cX1_trustOf 5 = .ok (.iaload, 1) := by decide +kernel
theorem dX1_trustOf_6 : decode cX1_trustOf 6 = .ok (.aload_n 0, 1) := by decide +kernel
theorem dX1_trustOf_7 : decode cX1_trustOf 7 = .ok (.getfield 30, 3) := by decide +kernel
theorem dX1_trustOf_10 : decode cX1_trustOf 10 = .ok (.iload_n 1, 1) := by decide +kernel
theorem dX1_trustOf_11 : decode cX1_trustOf 11 = .ok (.iaload, 1) := by decide +kernel
theorem dX1_trustOf_12 : decode cX1_trustOf 12 = .ok (.iconst 1, 1) := by decide +kernel
theorem dX1_trustOf_13 : decode cX1_trustOf 13 = .ok (.iadd, 1) := by decide +kernel
theorem dX1_trustOf_14 : decode cX1_trustOf 14 = .ok (.invokestatic 78, 3) := by decide +kernel
theorem dX1_trustOf_17 : decode cX1_trustOf 17 = .ok (.ireturn, 1) := by decide +kernel
theorem dX1_payAll_0 : decode cX1_payAll 0 = .ok (.iconst 0, 1) := by decide +kernel
theorem dX1_payAll_1 : decode cX1_payAll 1 = .ok (.istore_n 1, 1) := by decide +kernel
theorem dX1_payAll_2 : decode cX1_payAll 2 = .ok (.iconst 0, 1) := by decide +kernel
theorem dX1_payAll_3 : decode cX1_payAll 3 = .ok (.istore_n 2, 1) := by decide +kernel
theorem dX1_payAll_4 : decode cX1_payAll 4 = .ok (.iload_n 2, 1) := by decide +kernel
theorem dX1_payAll_5 : decode cX1_payAll 5 = .ok (.aload_n 0, 1) := by decide +kernel
theorem dX1_payAll_6 : decode cX1_payAll 6 = .ok (.getfield 49, 3) := by decide +kernel
theorem dX1_payAll_9 : decode cX1_payAll 9 = .ok (.if_icmp .ge 42, 3) := by decide +kernel
theorem dX1_payAll_12 : decode cX1_payAll 12 = .ok (.aload_n 0, 1) := by decide +kernel
theorem dX1_payAll_13 : decode cX1_payAll 13 = .ok (.getfield 9, 3) := by decide +kernel
theorem dX1_payAll_16 : decode cX1_payAll 16 = .ok (.iload_n 2, 1) := by decide +kernel
theorem dX1_payAll_17 : decode cX1_payAll 17 = .ok (.iaload, 1) := by decide +kernel
theorem dX1_payAll_18 : decode cX1_payAll 18 = .ok (.iconst 3, 1) := by decide +kernel
theorem dX1_payAll_19 : decode cX1_payAll 19 = .ok (.if_icmp .ne 26, 3) := by decide +kernel
theorem dX1_payAll_22 : decode cX1_payAll 22 = .ok (.aload_n 0, 1) := by decide +kernel
theorem dX1_payAll_23 : decode cX1_payAll 23 = .ok (.getfield 24, 3) := by decide +kernel
theorem dX1_payAll_26 : decode cX1_payAll 26 = .ok (.iload_n 2, 1) := by decide +kernel
theorem dX1_payAll_27 : decode cX1_payAll 27 = .ok (.iaload, 1) := by decide +kernel
theorem dX1_payAll_28 : decode cX1_payAll 28 = .ok (.ifCond .le 17, 3) := by decide +kernel
theorem dX1_payAll_31 : decode cX1_payAll 31 = .ok (.iload_n 2, 1) := by decide +kernel
theorem dX1_payAll_32 : decode cX1_payAll 32 = .ok (.aload_n 0, 1) := by decide +kernel
theorem dX1_payAll_33 : decode cX1_payAll 33 = .ok (.getfield 40, 3) := by decide +kernel
theorem dX1_payAll_36 : decode cX1_payAll 36 = .ok (.if_icmp .eq 9, 3) := by decide +kernel
theorem dX1_payAll_39 : decode cX1_payAll 39 = .ok (.iload_n 1, 1) := by decide +kernel
theorem dX1_payAll_40 : decode cX1_payAll 40 = .ok (.iconst 1, 1) := by decide +kernel
theorem dX1_payAll_41 : decode cX1_payAll 41 = .ok (.iload_n 2, 1) := by decide +kernel
theorem dX1_payAll_42 : decode cX1_payAll 42 = .ok (.ishl, 1) := by decide +kernel
theorem dX1_payAll_43 : decode cX1_payAll 43 = .ok (.ior, 1) := by decide +kernel
theorem dX1_payAll_44 : decode cX1_payAll 44 = .ok (.istore_n 1, 1) := by decide +kernel
theorem dX1_payAll_45 : decode cX1_payAll 45 = .ok (.iinc 2 1, 3) := by decide +kernel
theorem dX1_payAll_48 : decode cX1_payAll 48 = .ok (.goto (-44), 3) := by decide +kernel
theorem dX1_payAll_51 : decode cX1_payAll 51 = .ok (.iconst 0, 1) := by decide +kernel
theorem dX1_payAll_52 : decode cX1_payAll 52 = .ok (.istore_n 2, 1) := by decide +kernel
theorem dX1_payAll_53 : decode cX1_payAll 53 = .ok (.iload_n 2, 1) := by decide +kernel
theorem dX1_payAll_54 : decode cX1_payAll 54 = .ok (.aload_n 0, 1) := by decide +kernel
theorem dX1_payAll_55 : decode cX1_payAll 55 = .ok (.getfield 49, 3) := by decide +kernel
theorem dX1_payAll_58 : decode cX1_payAll 58 = .ok (.if_icmp .ge 23, 3) := by decide +kernel
theorem dX1_payAll_61 : decode cX1_payAll 61 = .ok (.iload_n 1, 1) := by decide +kernel
theorem dX1_payAll_62 : decode cX1_payAll 62 = .ok (.iload_n 2, 1) := by decide +kernel
theorem dX1_payAll_63 : decode cX1_payAll 63 = .ok (.ishr, 1) := by decide +kernel
theorem dX1_payAll_64 : decode cX1_payAll 64 = .ok (.iconst 1, 1) := by decide +kernel
theorem dX1_payAll_65 : decode cX1_payAll 65 = .ok (.iand, 1) := by decide +kernel
theorem dX1_payAll_66 : decode cX1_payAll 66 = .ok (.iconst 1, 1) := by decide +kernel
theorem dX1_payAll_67 : decode cX1_payAll 67 = .ok (.if_icmp .ne 8, 3) := by decide +kernel
theorem dX1_payAll_70 : decode cX1_payAll 70 = .ok (.aload_n 0, 1) := by decide +kernel
theorem dX1_payAll_71 : decode cX1_payAll 71 = .ok (.iload_n 2, 1) := by decide +kernel
theorem dX1_payAll_72 : decode cX1_payAll 72 = .ok (.invokevirtual 96, 3) := by decide +kernel
theorem dX1_payAll_75 : decode cX1_payAll 75 = .ok (.iinc 2 1, 3) := by decide +kernel
theorem dX1_payAll_78 : decode cX1_payAll 78 = .ok (.goto (-25), 3) := by decide +kernel
theorem dX1_payAll_81 : decode cX1_payAll 81 = .ok (.return_, 1) := by decide +kernel
theorem dX1_pay_0 : decode cX1_pay 0 = .ok (.iconst 0, 1) := by decide +kernel
theorem dX1_pay_1 : decode cX1_pay 1 = .ok (.istore_n 2, 1) := by decide +kernel
theorem dX1_pay_2 : decode cX1_pay 2 = .ok (.iload_n 2, 1) := by decide +kernel
theorem dX1_pay_3 : decode cX1_pay 3 = .ok (.aload_n 0, 1) := by decide +kernel
theorem dX1_pay_4 : decode cX1_pay 4 = .ok (.getfield 49, 3) := by decide +kernel
theorem dX1_pay_7 : decode cX1_pay 7 = .ok (.if_icmp .ge 57, 3) := by decide +kernel
theorem dX1_pay_10 : decode cX1_pay 10 = .ok (.aload_n 0, 1) := by decide +kernel
theorem dX1_pay_11 : decode cX1_pay 11 = .ok (.getfield 27, 3) := by decide +kernel
theorem dX1_pay_14 : decode cX1_pay 14 = .ok (.iload_n 2, 1) := by decide +kernel
theorem dX1_pay_15 : decode cX1_pay 15 = .ok (.iaload, 1) := by decide +kernel
theorem dX1_pay_16 : decode cX1_pay 16 = .ok (.iload_n 1, 1) := by decide +kernel
theorem dX1_pay_17 : decode cX1_pay 17 = .ok (.if_icmp .ne 41, 3) := by decide +kernel
theorem dX1_pay_20 : decode cX1_pay 20 = .ok (.iload_n 2, 1) := by decide +kernel
theorem dX1_pay_21 : decode cX1_pay 21 = .ok (.aload_n 0, 1) := by decide +kernel
theorem dX1_pay_22 : decode cX1_pay 22 = .ok (.getfield 40, 3) := by decide +kernel
theorem dX1_pay_25 : decode cX1_pay 25 = .ok (.if_icmp .eq 33, 3) := by decide +kernel
theorem dX1_pay_28 : decode cX1_pay 28 = .ok (.aload_n 0, 1) := by decide +kernel
theorem dX1_pay_29 : decode cX1_pay 29 = .ok (.getfield 24, 3) := by decide +kernel
theorem dX1_pay_32 : decode cX1_pay 32 = .ok (.iload_n 1, 1) := by decide +kernel
theorem dX1_pay_33 : decode cX1_pay 33 = .ok (.dup2, 1) := by decide +kernel
theorem dX1_pay_34 : decode cX1_pay 34 = .ok (.iaload, 1) := by decide +kernel
theorem dX1_pay_35 : decode cX1_pay 35 = .ok (.iconst 1, 1) := by decide +kernel
theorem dX1_pay_36 : decode cX1_pay 36 = .ok (.isub, 1) := by decide +kernel
theorem dX1_pay_37 : decode cX1_pay 37 = .ok (.iastore, 1) := by decide +kernel
theorem dX1_pay_38 : decode cX1_pay 38 = .ok (.aload_n 0, 1) := by decide +kernel
theorem dX1_pay_39 : decode cX1_pay 39 = .ok (.getfield 24, 3) := by decide +kernel
theorem dX1_pay_42 : decode cX1_pay 42 = .ok (.iload_n 2, 1) := by decide +kernel
theorem dX1_pay_43 : decode cX1_pay 43 = .ok (.bipush 99, 2) := by decide +kernel
theorem dX1_pay_45 : decode cX1_pay 45 = .ok (.aload_n 0, 1) := by decide +kernel
theorem dX1_pay_46 : decode cX1_pay 46 = .ok (.getfield 24, 3) := by decide +kernel
theorem dX1_pay_49 : decode cX1_pay 49 = .ok (.iload_n 2, 1) := by decide +kernel
theorem dX1_pay_50 : decode cX1_pay 50 = .ok (.iaload, 1) := by decide +kernel
theorem dX1_pay_51 : decode cX1_pay 51 = .ok (.iconst 1, 1) := by decide +kernel
theorem dX1_pay_52 : decode cX1_pay 52 = .ok (.iadd, 1) := by decide +kernel
theorem dX1_pay_53 : decode cX1_pay 53 = .ok (.invokestatic 78, 3) := by decide +kernel
theorem dX1_pay_56 : decode cX1_pay 56 = .ok (.iastore, 1) := by decide +kernel
theorem dX1_pay_57 : decode cX1_pay 57 = .ok (.return_, 1) := by decide +kernel
theorem dX1_pay_58 : decode cX1_pay 58 = .ok (.iinc 2 1, 3) := by decide +kernel
theorem dX1_pay_61 : decode cX1_pay 61 = .ok (.goto (-59), 3) := by decide +kernel
theorem dX1_pay_64 : decode cX1_pay 64 = .ok (.return_, 1) := by decide +kernel
theorem dX1_mudOf_0 : decode cX1_mudOf 0 = .ok (.aload_n 0, 1) := by decide +kernel
theorem dX1_mudOf_1 : decode cX1_mudOf 1 = .ok (.iload_n 1, 1) := by decide +kernel
theorem dX1_mudOf_2 : decode cX1_mudOf 2 = .ok (.invokevirtual 59, 3) := by decide +kernel
theorem dX1_mudOf_5 : decode cX1_mudOf 5 = .ok (.ifCond .eq 12, 3) := by decide +kernel
theorem dX1_mudOf_8 : decode cX1_mudOf 8 = .ok (.aload_n 0, 1) := by decide +kernel
theorem dX1_mudOf_9 : decode cX1_mudOf 9 = .ok (.getfield 15, 3) := by decide +kernel
theorem dX1_mudOf_12 : decode cX1_mudOf 12 = .ok (.iload_n 1, 1) := by decide +kernel
theorem dX1_mudOf_13 : decode cX1_mudOf 13 = .ok (.iaload, 1) := by decide +kernel
theorem dX1_mudOf_14 : decode cX1_mudOf 14 = .ok (.goto 4, 3) := by decide +kernel
theorem dX1_mudOf_17 : decode cX1_mudOf 17 = .ok (.iconst 0, 1) := by decide +kernel
theorem dX1_mudOf_18 : decode cX1_mudOf 18 = .ok (.ireturn, 1) := by decide +kernel
theorem dX1_mudOfAll_0 : decode cX1_mudOfAll 0 = .ok (.iconst 0, 1) := by decide +kernel
theorem dX1_mudOfAll_1 : decode cX1_mudOfAll 1 = .ok (.istore_n 1, 1) := by decide +kernel
theorem dX1_mudOfAll_2 : decode cX1_mudOfAll 2 = .ok (.iconst 0, 1) := by decide +kernel
theorem dX1_mudOfAll_3 : decode cX1_mudOfAll 3 = .ok (.istore_n 2, 1) := by decide +kernel
theorem dX1_mudOfAll_4 : decode cX1_mudOfAll 4 = .ok (.iload_n 2, 1) := by decide +kernel
theorem dX1_mudOfAll_5 : decode cX1_mudOfAll 5 = .ok (.aload_n 0, 1) := by decide +kernel
theorem dX1_mudOfAll_6 : decode cX1_mudOfAll 6 = .ok (.getfield 49, 3) := by decide +kernel
theorem dX1_mudOfAll_9 : decode cX1_mudOfAll 9 = .ok (.if_icmp .ge 18, 3) := by decide +kernel
theorem dX1_mudOfAll_12 : decode cX1_mudOfAll 12 = .ok (.iload_n 1, 1) := by decide +kernel
theorem dX1_mudOfAll_13 : decode cX1_mudOfAll 13 = .ok (.aload_n 0, 1) := by decide +kernel
theorem dX1_mudOfAll_14 : decode cX1_mudOfAll 14 = .ok (.getfield 15, 3) := by decide +kernel
theorem dX1_mudOfAll_17 : decode cX1_mudOfAll 17 = .ok (.iload_n 2, 1) := by decide +kernel
theorem dX1_mudOfAll_18 : decode cX1_mudOfAll 18 = .ok (.iaload, 1) := by decide +kernel
theorem dX1_mudOfAll_19 : decode cX1_mudOfAll 19 = .ok (.iadd, 1) := by decide +kernel
theorem dX1_mudOfAll_20 : decode cX1_mudOfAll 20 = .ok (.istore_n 1, 1) := by decide +kernel
theorem dX1_mudOfAll_21 : decode cX1_mudOfAll 21 = .ok (.iinc 2 1, 3) := by decide +kernel
theorem dX1_mudOfAll_24 : decode cX1_mudOfAll 24 = .ok (.goto (-20), 3) := by decide +kernel
theorem dX1_mudOfAll_27 : decode cX1_mudOfAll 27 = .ok (.iload_n 1, 1) := by decide +kernel
theorem dX1_mudOfAll_28 : decode cX1_mudOfAll 28 = .ok (.ireturn, 1) := by decide +kernel
theorem dX1_penceOfAll_0 : decode cX1_penceOfAll 0 = .ok (.iconst 0, 1) := by decide +kernel
theorem dX1_penceOfAll_1 : decode cX1_penceOfAll 1 = .ok (.istore_n 1, 1) := by decide +kernel
theorem dX1_penceOfAll_2 : decode cX1_penceOfAll 2 = .ok (.iconst 0, 1) := by decide +kernel
theorem dX1_penceOfAll_3 : decode cX1_penceOfAll 3 = .ok (.istore_n 2, 1) := by decide +kernel
theorem dX1_penceOfAll_4 : decode cX1_penceOfAll 4 = .ok (.iload_n 2, 1) := by decide +kernel
theorem dX1_penceOfAll_5 : decode cX1_penceOfAll 5 = .ok (.aload_n 0, 1) := by decide +kernel
theorem dX1_penceOfAll_6 : decode cX1_penceOfAll 6 = .ok (.getfield 49, 3) := by decide +kernel
theorem dX1_penceOfAll_9 : decode cX1_penceOfAll 9 = .ok (.if_icmp .ge 18, 3) := by decide +kernel
theorem dX1_penceOfAll_12 : decode cX1_penceOfAll 12 = .ok (.iload_n 1, 1) := by decide +kernel
theorem dX1_penceOfAll_13 : decode cX1_penceOfAll 13 = .ok (.aload_n 0, 1) := by decide +kernel
theorem dX1_penceOfAll_14 : decode cX1_penceOfAll 14 = .ok (.getfield 24, 3) := by decide +kernel
theorem dX1_penceOfAll_17 : decode cX1_penceOfAll 17 = .ok (.iload_n 2, 1) := by decide +kernel
theorem dX1_penceOfAll_18 : decode cX1_penceOfAll 18 = .ok (.iaload, 1) := by decide +kernel
theorem dX1_penceOfAll_19 : decode cX1_penceOfAll 19 = .ok (.iadd, 1) := by decide +kernel
theorem dX1_penceOfAll_20 : decode cX1_penceOfAll 20 = .ok (.istore_n 1, 1) := by decide +kernel
theorem dX1_penceOfAll_21 : decode cX1_penceOfAll 21 = .ok (.iinc 2 1, 3) := by decide +kernel
theorem dX1_penceOfAll_24 : decode cX1_penceOfAll 24 = .ok (.goto (-20), 3) := by decide +kernel
theorem dX1_penceOfAll_27 : decode cX1_penceOfAll 27 = .ok (.iload_n 1, 1) := by decide +kernel
theorem dX1_penceOfAll_28 : decode cX1_penceOfAll 28 = .ok (.ireturn, 1) := by decide +kernel
theorem dX1_muddiest_0 : decode cX1_muddiest 0 = .ok (.iconst (-1), 1) := by decide +kernel
theorem dX1_muddiest_1 : decode cX1_muddiest 1 = .ok (.istore_n 1, 1) := by decide +kernel
theorem dX1_muddiest_2 : decode cX1_muddiest 2 = .ok (.iconst 0, 1) := by decide +kernel
theorem dX1_muddiest_3 : decode cX1_muddiest 3 = .ok (.istore_n 2, 1) := by decide +kernel
theorem dX1_muddiest_4 : decode cX1_muddiest 4 = .ok (.iload_n 2, 1) := by decide +kernel
theorem dX1_muddiest_5 : decode cX1_muddiest 5 = .ok (.aload_n 0, 1) := by decide +kernel
theorem dX1_muddiest_6 : decode cX1_muddiest 6 = .ok (.getfield 49, 3) := by decide +kernel
theorem dX1_muddiest_9 : decode cX1_muddiest 9 = .ok (.if_icmp .ge 30, 3) := by decide +kernel
theorem dX1_muddiest_12 : decode cX1_muddiest 12 = .ok (.iload_n 1, 1) := by decide +kernel
theorem dX1_muddiest_13 : decode cX1_muddiest 13 = .ok (.iconst (-1), 1) := by decide +kernel
theorem dX1_muddiest_14 : decode cX1_muddiest 14 = .ok (.if_icmp .eq 17, 3) := by decide +kernel
theorem dX1_muddiest_17 : decode cX1_muddiest 17 = .ok (.aload_n 0, 1) := by decide +kernel
theorem dX1_muddiest_18 : decode cX1_muddiest 18 = .ok (.getfield 15, 3) := by decide +kernel
theorem dX1_muddiest_21 : decode cX1_muddiest 21 = .ok (.iload_n 2, 1) := by decide +kernel
theorem dX1_muddiest_22 : decode cX1_muddiest 22 = .ok (.iaload, 1) := by decide +kernel
theorem dX1_muddiest_23 : decode cX1_muddiest 23 = .ok (.aload_n 0, 1) := by decide +kernel
theorem dX1_muddiest_24 : decode cX1_muddiest 24 = .ok (.iload_n 1, 1) := by decide +kernel
theorem dX1_muddiest_25 : decode cX1_muddiest 25 = .ok (.invokevirtual 100, 3) := by decide +kernel
theorem dX1_muddiest_28 : decode cX1_muddiest 28 = .ok (.if_icmp .le 5, 3) := by decide +kernel
theorem dX1_muddiest_31 : decode cX1_muddiest 31 = .ok (.iload_n 2, 1) := by decide +kernel
theorem dX1_muddiest_32 : decode cX1_muddiest 32 = .ok (.istore_n 1, 1) := by decide +kernel
theorem dX1_muddiest_33 : decode cX1_muddiest 33 = .ok (.iinc 2 1, 3) := by decide +kernel
theorem dX1_muddiest_36 : decode cX1_muddiest 36 = .ok (.goto (-32), 3) := by decide +kernel
theorem dX1_muddiest_39 : decode cX1_muddiest 39 = .ok (.iload_n 1, 1) := by decide +kernel
theorem dX1_muddiest_40 : decode cX1_muddiest 40 = .ok (.ireturn, 1) := by decide +kernel
theorem dX1_liesLike_0 : decode cX1_liesLike 0 = .ok (.iconst 0, 1) := by decide +kernel
theorem dX1_liesLike_1 : decode cX1_liesLike 1 = .ok (.istore_n 2, 1) := by decide +kernel
theorem dX1_liesLike_2 : decode cX1_liesLike 2 = .ok (.iload_n 2, 1) := by decide +kernel
theorem dX1_liesLike_3 : decode cX1_liesLike 3 = .ok (.aload_n 0, 1) := by decide +kernel
theorem dX1_liesLike_4 : decode cX1_liesLike 4 = .ok (.getfield 49, 3) := by decide +kernel
theorem dX1_liesLike_7 : decode cX1_liesLike 7 = .ok (.if_icmp .ge 41, 3) := by decide +kernel
theorem dX1_liesLike_10 : decode cX1_liesLike 10 = .ok (.aload_n 0, 1) := by decide +kernel
theorem dX1_liesLike_11 : decode cX1_liesLike 11 = .ok (.getfield 15, 3) := by decide +kernel
theorem dX1_liesLike_14 : decode cX1_liesLike 14 = .ok (.iload_n 2, 1) := by decide +kernel
theorem dX1_liesLike_15 : decode cX1_liesLike 15 = .ok (.iaload, 1) := by decide +kernel
theorem dX1_liesLike_16 : decode cX1_liesLike 16 = .ok (.aload_n 1, 1) := by decide +kernel
theorem dX1_liesLike_17 : decode cX1_liesLike 17 = .ok (.getfield 15, 3) := by decide +kernel
theorem dX1_liesLike_20 : decode cX1_liesLike 20 = .ok (.iload_n 2, 1) := by decide +kernel
theorem dX1_liesLike_21 : decode cX1_liesLike 21 = .ok (.iaload, 1) := by decide +kernel
theorem dX1_liesLike_22 : decode cX1_liesLike 22 = .ok (.if_icmp .ne 18, 3) := by decide +kernel
theorem dX1_liesLike_25 : decode cX1_liesLike 25 = .ok (.aload_n 0, 1) := by decide +kernel
theorem dX1_liesLike_26 : decode cX1_liesLike 26 = .ok (.getfield 30, 3) := by decide +kernel
theorem dX1_liesLike_29 : decode cX1_liesLike 29 = .ok (.iload_n 2, 1) := by decide +kernel
theorem dX1_liesLike_30 : decode cX1_liesLike 30 = .ok (.iaload, 1) := by decide +kernel
theorem dX1_liesLike_31 : decode cX1_liesLike 31 = .ok (.aload_n 1, 1) := by decide +kernel
theorem dX1_liesLike_32 : decode cX1_liesLike 32 = .ok (.getfield 30, 3) := by decide +kernel
theorem dX1_liesLike_35 : decode cX1_liesLike 35 = .ok (.iload_n 2, 1) := by decide +kernel
theorem dX1_liesLike_36 : decode cX1_liesLike 36 = .ok (.iaload, 1) := by decide +kernel
theorem dX1_liesLike_37 : decode cX1_liesLike 37 = .ok (.if_icmp .eq 5, 3) := by decide +kernel
theorem dX1_liesLike_40 : decode cX1_liesLike 40 = .ok (.iconst 0, 1) := by decide +kernel
theorem dX1_liesLike_41 : decode cX1_liesLike 41 = .ok (.ireturn, 1) := by decide +kernel
theorem dX1_liesLike_42 : decode cX1_liesLike 42 = .ok (.iinc 2 1, 3) := by decide +kernel
theorem dX1_liesLike_45 : decode cX1_liesLike 45 = .ok (.goto (-43), 3) := by decide +kernel
theorem dX1_liesLike_48 : decode cX1_liesLike 48 = .ok (.iconst 1, 1) := by decide +kernel
theorem dX1_liesLike_49 : decode cX1_liesLike 49 = .ok (.ireturn, 1) := by decide +kernel
theorem dX1_fed_0 : decode cX1_fed 0 = .ok (.iconst 0, 1) := by decide +kernel
theorem dX1_fed_1 : decode cX1_fed 1 = .ok (.istore_n 2, 1) := by decide +kernel
theorem dX1_fed_2 : decode cX1_fed 2 = .ok (.iconst 0, 1) := by decide +kernel
theorem dX1_fed_3 : decode cX1_fed 3 = .ok (.istore_n 3, 1) := by decide +kernel
theorem dX1_fed_4 : decode cX1_fed 4 = .ok (.iload_n 3, 1) := by decide +kernel
theorem dX1_fed_5 : decode cX1_fed 5 = .ok (.aload_n 0, 1) := by decide +kernel
theorem dX1_fed_6 : decode cX1_fed 6 = .ok (.getfield 49, 3) := by decide +kernel
theorem dX1_fed_9 : decode cX1_fed 9 = .ok (.if_icmp .ge 22, 3) := by decide +kernel
theorem dX1_fed_12 : decode cX1_fed 12 = .ok (.aload_n 0, 1) := by decide +kernel
theorem dX1_fed_13 : decode cX1_fed 13 = .ok (.getfield 27, 3) := by decide +kernel
theorem dX1_fed_16 : decode cX1_fed 16 = .ok (.iload_n 3, 1) := by decide +kernel
theorem dX1_fed_17 : decode cX1_fed 17 = .ok (.iaload, 1) := by decide +kernel
theorem dX1_fed_18 : decode cX1_fed 18 = .ok (.iload_n 1, 1) := by decide +kernel
theorem dX1_fed_19 : decode cX1_fed 19 = .ok (.if_icmp .ne 6, 3) := by decide +kernel
theorem dX1_fed_22 : decode cX1_fed 22 = .ok (.iinc 2 1, 3) := by decide +kernel
theorem dX1_fed_25 : decode cX1_fed 25 = .ok (.iinc 3 1, 3) := by decide +kernel
theorem dX1_fed_28 : decode cX1_fed 28 = .ok (.goto (-24), 3) := by decide +kernel
theorem dX1_fed_31 : decode cX1_fed 31 = .ok (.iload_n 2, 1) := by decide +kernel
theorem dX1_fed_32 : decode cX1_fed 32 = .ok (.ireturn, 1) := by decide +kernel
theorem dX1_stepFrom_0 : decode cX1_stepFrom 0 = .ok (.aload_n 0, 1) := by decide +kernel
theorem dX1_stepFrom_1 : decode cX1_stepFrom 1 = .ok (.iload_n 1, 1) := by decide +kernel
theorem dX1_stepFrom_2 : decode cX1_stepFrom 2 = .ok (.invokevirtual 59, 3) := by decide +kernel
theorem dX1_stepFrom_5 : decode cX1_stepFrom 5 = .ok (.ifCond .eq 12, 3) := by decide +kernel
theorem dX1_stepFrom_8 : decode cX1_stepFrom 8 = .ok (.aload_n 0, 1) := by decide +kernel
theorem dX1_stepFrom_9 : decode cX1_stepFrom 9 = .ok (.getfield 27, 3) := by decide +kernel
theorem dX1_stepFrom_12 : decode cX1_stepFrom 12 = .ok (.iload_n 1, 1) := by decide +kernel
theorem dX1_stepFrom_13 : decode cX1_stepFrom 13 = .ok (.iaload, 1) := by decide +kernel
theorem dX1_stepFrom_14 : decode cX1_stepFrom 14 = .ok (.goto 4, 3) := by decide +kernel
theorem dX1_stepFrom_17 : decode cX1_stepFrom 17 = .ok (.iconst (-1), 1) := by decide +kernel
theorem dX1_stepFrom_18 : decode cX1_stepFrom 18 = .ok (.ireturn, 1) := by decide +kernel
theorem dX1_isOnRing_0 : decode cX1_isOnRing 0 = .ok (.iload_n 1, 1) := by decide +kernel
theorem dX1_isOnRing_1 : decode cX1_isOnRing 1 = .ok (.istore_n 2, 1) := by decide +kernel
theorem dX1_isOnRing_2 : decode cX1_isOnRing 2 = .ok (.iconst 0, 1) := by decide +kernel
theorem dX1_isOnRing_3 : decode cX1_isOnRing 3 = .ok (.istore_n 3, 1) := by decide +kernel
theorem dX1_isOnRing_4 : decode cX1_isOnRing 4 = .ok (.iload_n 3, 1) := by decide +kernel
theorem dX1_isOnRing_5 : decode cX1_isOnRing 5 = .ok (.aload_n 0, 1) := by decide +kernel
theorem dX1_isOnRing_6 : decode cX1_isOnRing 6 = .ok (.getfield 49, 3) := by decide +kernel
theorem dX1_isOnRing_9 : decode cX1_isOnRing 9 = .ok (.if_icmp .ge 22, 3) := by decide +kernel
theorem dX1_isOnRing_12 : decode cX1_isOnRing 12 = .ok (.aload_n 0, 1) := by decide +kernel
theorem dX1_isOnRing_13 : decode cX1_isOnRing 13 = .ok (.iload_n 2, 1) := by decide +kernel
theorem dX1_isOnRing_14 : decode cX1_isOnRing 14 = .ok (.invokevirtual 67, 3) := by decide +kernel
theorem dX1_isOnRing_17 : decode cX1_isOnRing 17 = .ok (.istore_n 2, 1) := by decide +kernel
theorem dX1_isOnRing_18 : decode cX1_isOnRing 18 = .ok (.iload_n 2, 1) := by decide +kernel
theorem dX1_isOnRing_19 : decode cX1_isOnRing 19 = .ok (.iload_n 1, 1) := by decide +kernel
theorem dX1_isOnRing_20 : decode cX1_isOnRing 20 = .ok (.if_icmp .ne 5, 3) := by decide +kernel
theorem dX1_isOnRing_23 : decode cX1_isOnRing 23 = .ok (.iconst 1, 1) := by decide +kernel
theorem dX1_isOnRing_24 : decode cX1_isOnRing 24 = .ok (.ireturn, 1) := by decide +kernel
theorem dX1_isOnRing_25 : decode cX1_isOnRing 25 = .ok (.iinc 3 1, 3) := by decide +kernel
theorem dX1_isOnRing_28 : decode cX1_isOnRing 28 = .ok (.goto (-24), 3) := by decide +kernel
theorem dX1_isOnRing_31 : decode cX1_isOnRing 31 = .ok (.iconst 0, 1) := by decide +kernel
theorem dX1_isOnRing_32 : decode cX1_isOnRing 32 = .ok (.ireturn, 1) := by decide +kernel
theorem dX1_leastOnTheWayFrom_0 : decode cX1_leastOnTheWayFrom 0 = .ok (.iload_n 1, 1) := by decide +kernel
theorem dX1_leastOnTheWayFrom_1 : decode cX1_leastOnTheWayFrom 1 = .ok (.istore_n 2, 1) := by decide +kernel
theorem dX1_leastOnTheWayFrom_2 : decode cX1_leastOnTheWayFrom 2 = .ok (.iload_n 1, 1) := by decide +kernel
theorem dX1_leastOnTheWayFrom_3 : decode cX1_leastOnTheWayFrom 3 = .ok (.istore_n 3, 1) := by decide +kernel
theorem dX1_leastOnTheWayFrom_4 : decode cX1_leastOnTheWayFrom 4 = .ok (.iconst 0, 1) := by decide +kernel
theorem dX1_leastOnTheWayFrom_5 : decode cX1_leastOnTheWayFrom 5 = .ok (.istore 4, 2) := by decide +kernel
theorem dX1_leastOnTheWayFrom_7 : decode cX1_leastOnTheWayFrom 7 = .ok (.iload 4, 2) := by decide +kernel
theorem dX1_leastOnTheWayFrom_9 : decode cX1_leastOnTheWayFrom 9 = .ok (.aload_n 0, 1) := by decide +kernel
theorem dX1_leastOnTheWayFrom_10 : decode cX1_leastOnTheWayFrom 10 = .ok (.getfield 49, 3) := by decide +kernel
theorem dX1_leastOnTheWayFrom_13 : decode cX1_leastOnTheWayFrom 13 = .ok (.if_icmp .ge 21, 3) := by decide +kernel
theorem dX1_leastOnTheWayFrom_16 : decode cX1_leastOnTheWayFrom 16 = .ok (.aload_n 0, 1) := by decide +kernel
theorem dX1_leastOnTheWayFrom_17 : decode cX1_leastOnTheWayFrom 17 = .ok (.iload_n 3, 1) := by decide +kernel
theorem dX1_leastOnTheWayFrom_18 : decode cX1_leastOnTheWayFrom 18 = .ok (.invokevirtual 67, 3) := by decide +kernel
theorem dX1_leastOnTheWayFrom_21 : decode cX1_leastOnTheWayFrom 21 = .ok (.istore_n 3, 1) := by decide +kernel
theorem dX1_leastOnTheWayFrom_22 : decode cX1_leastOnTheWayFrom 22 = .ok (.iload_n 2, 1) := by decide +kernel
theorem dX1_leastOnTheWayFrom_23 : decode cX1_leastOnTheWayFrom 23 = .ok (.iload_n 3, 1) := by decide +kernel
theorem dX1_leastOnTheWayFrom_24 : decode cX1_leastOnTheWayFrom 24 = .ok (.invokestatic 78, 3) := by decide +kernel
theorem dX1_leastOnTheWayFrom_27 : decode cX1_leastOnTheWayFrom 27 = .ok (.istore_n 2, 1) := by decide +kernel
theorem dX1_leastOnTheWayFrom_28 : decode cX1_leastOnTheWayFrom 28 = .ok (.iinc 4 1, 3) := by decide +kernel
theorem dX1_leastOnTheWayFrom_31 : decode cX1_leastOnTheWayFrom 31 = .ok (.goto (-24), 3) := by decide +kernel
theorem dX1_leastOnTheWayFrom_34 : decode cX1_leastOnTheWayFrom 34 = .ok (.iload_n 2, 1) := by decide +kernel
theorem dX1_leastOnTheWayFrom_35 : decode cX1_leastOnTheWayFrom 35 = .ok (.ireturn, 1) := by decide +kernel
theorem dJ0_length_8abf5_0 : decode cJ0_length_8abf5 0 = .ok (.aload_n 0, 1) := by decide +kernel
theorem dJ0_length_8abf5_1 : decode cJ0_length_8abf5 1 = .ok (.getfield 9, 3) := by decide +kernel
theorem dJ0_length_8abf5_4 : decode cJ0_length_8abf5 4 = .ok (.arraylength, 1) := by decide +kernel
theorem dJ0_length_8abf5_5 : decode cJ0_length_8abf5 5 = .ok (.aload_n 0, 1) := by decide +kernel
theorem dJ0_length_8abf5_6 : decode cJ0_length_8abf5 6 = .ok (.invokevirtual 335, 3) := by decide +kernel
theorem dJ0_length_8abf5_9 : decode cJ0_length_8abf5 9 = .ok (.ishr, 1) := by decide +kernel
theorem dJ0_length_8abf5_10 : decode cJ0_length_8abf5 10 = .ok (.ireturn, 1) := by decide +kernel
theorem dJ0_indexOf_0f7a4_0 : decode cJ0_indexOf_0f7a4 0 = .ok (.aload_n 0, 1) := by decide +kernel
theorem dJ0_indexOf_0f7a4_1 : decode cJ0_indexOf_0f7a4 1 = .ok (.iload_n 1, 1) := by decide +kernel
theorem dJ0_indexOf_0f7a4_2 : decode cJ0_indexOf_0f7a4 2 = .ok (.iconst 0, 1) := by decide +kernel
theorem dJ0_indexOf_0f7a4_3 : decode cJ0_indexOf_0f7a4 3 = .ok (.invokevirtual 633, 3) := by decide +kernel
theorem dJ0_indexOf_0f7a4_6 : decode cJ0_indexOf_0f7a4 6 = .ok (.ireturn, 1) := by decide +kernel
theorem dJ0_indexOf_7cf53_0 : decode cJ0_indexOf_7cf53 0 = .ok (.aload_n 0, 1) := by decide +kernel
theorem dJ0_indexOf_7cf53_1 : decode cJ0_indexOf_7cf53 1 = .ok (.invokevirtual 492, 3) := by decide +kernel
theorem dJ0_indexOf_7cf53_4 : decode cJ0_indexOf_7cf53 4 = .ok (.ifCond .eq 19, 3) := by decide +kernel
theorem dJ0_indexOf_7cf53_7 : decode cJ0_indexOf_7cf53 7 = .ok (.aload_n 0, 1) := by decide +kernel
theorem dJ0_indexOf_7cf53_8 : decode cJ0_indexOf_7cf53 8 = .ok (.getfield 9, 3) := by decide +kernel
theorem dJ0_indexOf_7cf53_11 : decode cJ0_indexOf_7cf53 11 = .ok (.iload_n 1, 1) := by decide +kernel
theorem dJ0_indexOf_7cf53_12 : decode cJ0_indexOf_7cf53 12 = .ok (.iload_n 2, 1) := by decide +kernel
theorem dJ0_indexOf_7cf53_13 : decode cJ0_indexOf_7cf53 13 = .ok (.aload_n 0, 1) := by decide +kernel
theorem dJ0_indexOf_7cf53_14 : decode cJ0_indexOf_7cf53 14 = .ok (.invokevirtual 505, 3) := by decide +kernel
theorem dJ0_indexOf_7cf53_17 : decode cJ0_indexOf_7cf53 17 = .ok (.invokestatic 637, 3) := by decide +kernel
theorem dJ0_indexOf_7cf53_20 : decode cJ0_indexOf_7cf53 20 = .ok (.goto 16, 3) := by decide +kernel
theorem dJ0_indexOf_7cf53_23 : decode cJ0_indexOf_7cf53 23 = .ok (.aload_n 0, 1) := by decide +kernel
theorem dJ0_indexOf_7cf53_24 : decode cJ0_indexOf_7cf53 24 = .ok (.getfield 9, 3) := by decide +kernel
theorem dJ0_indexOf_7cf53_27 : decode cJ0_indexOf_7cf53 27 = .ok (.iload_n 1, 1) := by decide +kernel
theorem dJ0_indexOf_7cf53_28 : decode cJ0_indexOf_7cf53 28 = .ok (.iload_n 2, 1) := by decide +kernel
theorem dJ0_indexOf_7cf53_29 : decode cJ0_indexOf_7cf53 29 = .ok (.aload_n 0, 1) := by decide +kernel
theorem dJ0_indexOf_7cf53_30 : decode cJ0_indexOf_7cf53 30 = .ok (.invokevirtual 505, 3) := by decide +kernel
theorem dJ0_indexOf_7cf53_33 : decode cJ0_indexOf_7cf53 33 = .ok (.invokestatic 640, 3) := by decide +kernel
theorem dJ0_indexOf_7cf53_36 : decode cJ0_indexOf_7cf53 36 = .ok (.ireturn, 1) := by decide +kernel
theorem dJ0_coder_7d493_0 : decode cJ0_coder_7d493 0 = .ok (.getstatic 38, 3) := by decide +kernel
theorem dJ0_coder_7d493_3 : decode cJ0_coder_7d493 3 = .ok (.ifCond .eq 10, 3) := by decide +kernel
theorem dJ0_coder_7d493_6 : decode cJ0_coder_7d493 6 = .ok (.aload_n 0, 1) := by decide +kernel
theorem dJ0_coder_7d493_7 : decode cJ0_coder_7d493 7 = .ok (.getfield 15, 3) := by decide +kernel
theorem dJ0_coder_7d493_10 : decode cJ0_coder_7d493 10 = .ok (.goto 4, 3) := by decide +kernel
theorem dJ0_coder_7d493_13 : decode cJ0_coder_7d493 13 = .ok (.iconst 1, 1) := by decide +kernel
theorem dJ0_coder_7d493_14 : decode cJ0_coder_7d493 14 = .ok (.ireturn, 1) := by decide +kernel
theorem dJ0_isLatin1_aae02_0 : decode cJ0_isLatin1_aae02 0 = .ok (.getstatic 38, 3) := by decide +kernel
theorem dJ0_isLatin1_aae02_3 : decode cJ0_isLatin1_aae02 3 = .ok (.ifCond .eq 14, 3) := by decide +kernel
theorem dJ0_isLatin1_aae02_6 : decode cJ0_isLatin1_aae02 6 = .ok (.aload_n 0, 1) := by decide +kernel
theorem dJ0_isLatin1_aae02_7 : decode cJ0_isLatin1_aae02 7 = .ok (.getfield 15, 3) := by decide +kernel
theorem dJ0_isLatin1_aae02_10 : decode cJ0_isLatin1_aae02 10 = .ok (.ifCond .ne 7, 3) := by decide +kernel
theorem dJ0_isLatin1_aae02_13 : decode cJ0_isLatin1_aae02 13 = .ok (.iconst 1, 1) := by decide +kernel
theorem dJ0_isLatin1_aae02_14 : decode cJ0_isLatin1_aae02 14 = .ok (.goto 4, 3) := by decide +kernel
theorem dJ0_isLatin1_aae02_17 : decode cJ0_isLatin1_aae02 17 = .ok (.iconst 0, 1) := by decide +kernel
theorem dJ0_isLatin1_aae02_18 : decode cJ0_isLatin1_aae02 18 = .ok (.ireturn, 1) := by decide +kernel
theorem dJ0_checkBoundsBeginEnd_23922_0 : decode cJ0_checkBoundsBeginEnd_23922 0 = .ok (.iload_n 0, 1) := by decide +kernel
theorem dJ0_checkBoundsBeginEnd_23922_1 : decode cJ0_checkBoundsBeginEnd_23922 1 = .ok (.iload_n 1, 1) := by decide +kernel
theorem dJ0_checkBoundsBeginEnd_23922_2 : decode cJ0_checkBoundsBeginEnd_23922 2 = .ok (.iload_n 2, 1) := by decide +kernel
theorem dJ0_checkBoundsBeginEnd_23922_3 : decode cJ0_checkBoundsBeginEnd_23922 3 = .ok (.getstatic 1053, 3) := by decide +kernel
theorem dJ0_checkBoundsBeginEnd_23922_6 : decode cJ0_checkBoundsBeginEnd_23922 6 = .ok (.invokestatic 1062, 3) := by decide +kernel
theorem dJ0_checkBoundsBeginEnd_23922_9 : decode cJ0_checkBoundsBeginEnd_23922 9 = .ok (.pop, 1) := by decide +kernel
theorem dJ0_checkBoundsBeginEnd_23922_10 : decode cJ0_checkBoundsBeginEnd_23922 10 = .ok (.return_, 1) := by decide +kernel
theorem dJ1_canEncode_9a6ad_0 : decode cJ1_canEncode_9a6ad 0 = .ok (.iload_n 0, 1) := by decide +kernel
theorem dJ1_canEncode_9a6ad_1 : decode cJ1_canEncode_9a6ad 1 = .ok (.ifCond .lt 14, 3) := by decide +kernel
theorem dJ1_canEncode_9a6ad_4 : decode cJ1_canEncode_9a6ad 4 = .ok (.iload_n 0, 1) := by decide +kernel
theorem dJ1_canEncode_9a6ad_5 : decode cJ1_canEncode_9a6ad 5 = .ok (.sipush 255, 3) := by decide +kernel
theorem dJ1_canEncode_9a6ad_8 : decode cJ1_canEncode_9a6ad 8 = .ok (.if_icmp .gt 7, 3) := by decide +kernel
theorem dJ1_canEncode_9a6ad_11 : decode cJ1_canEncode_9a6ad 11 = .ok (.iconst 1, 1) := by decide +kernel
theorem dJ1_canEncode_9a6ad_12 : decode cJ1_canEncode_9a6ad 12 = .ok (.goto 4, 3) := by decide +kernel
theorem dJ1_canEncode_9a6ad_15 : decode cJ1_canEncode_9a6ad 15 = .ok (.iconst 0, 1) := by decide +kernel
theorem dJ1_canEncode_9a6ad_16 : decode cJ1_canEncode_9a6ad 16 = .ok (.ireturn, 1) := by decide +kernel
theorem dJ1_indexOf_4cfef_0 : decode cJ1_indexOf_4cfef 0 = .ok (.iload_n 1, 1) := by decide +kernel
theorem dJ1_indexOf_4cfef_1 : decode cJ1_indexOf_4cfef 1 = .ok (.invokestatic 88, 3) := by decide +kernel
theorem dJ1_indexOf_4cfef_4 : decode cJ1_indexOf_4cfef 4 = .ok (.ifCond .ne 5, 3) := by decide +kernel
theorem dJ1_indexOf_4cfef_7 : decode cJ1_indexOf_4cfef 7 = .ok (.iconst (-1), 1) := by decide +kernel
theorem dJ1_indexOf_4cfef_8 : decode cJ1_indexOf_4cfef 8 = .ok (.ireturn, 1) := by decide +kernel
theorem dJ1_indexOf_4cfef_9 : decode cJ1_indexOf_4cfef 9 = .ok (.iload_n 2, 1) := by decide +kernel
theorem dJ1_indexOf_4cfef_10 : decode cJ1_indexOf_4cfef 10 = .ok (.iconst 0, 1) := by decide +kernel
theorem dJ1_indexOf_4cfef_11 : decode cJ1_indexOf_4cfef 11 = .ok (.invokestatic 92, 3) := by decide +kernel
theorem dJ1_indexOf_4cfef_14 : decode cJ1_indexOf_4cfef 14 = .ok (.istore_n 2, 1) := by decide +kernel
theorem dJ1_indexOf_4cfef_15 : decode cJ1_indexOf_4cfef 15 = .ok (.iload_n 3, 1) := by decide +kernel
theorem dJ1_indexOf_4cfef_16 : decode cJ1_indexOf_4cfef 16 = .ok (.aload_n 0, 1) := by decide +kernel
theorem dJ1_indexOf_4cfef_17 : decode cJ1_indexOf_4cfef 17 = .ok (.arraylength, 1) := by decide +kernel
theorem dJ1_indexOf_4cfef_18 : decode cJ1_indexOf_4cfef 18 = .ok (.invokestatic 38, 3) := by decide +kernel
theorem dJ1_indexOf_4cfef_21 : decode cJ1_indexOf_4cfef 21 = .ok (.istore_n 3, 1) := by decide +kernel
theorem dJ1_indexOf_4cfef_22 : decode cJ1_indexOf_4cfef 22 = .ok (.iload_n 2, 1) := by decide +kernel
theorem dJ1_indexOf_4cfef_23 : decode cJ1_indexOf_4cfef 23 = .ok (.iload_n 3, 1) := by decide +kernel
theorem dJ1_indexOf_4cfef_24 : decode cJ1_indexOf_4cfef 24 = .ok (.if_icmp .lt 5, 3) := by decide +kernel
theorem dJ1_indexOf_4cfef_27 : decode cJ1_indexOf_4cfef 27 = .ok (.iconst (-1), 1) := by decide +kernel
theorem dJ1_indexOf_4cfef_28 : decode cJ1_indexOf_4cfef 28 = .ok (.ireturn, 1) := by decide +kernel
theorem dJ1_indexOf_4cfef_29 : decode cJ1_indexOf_4cfef 29 = .ok (.aload_n 0, 1) := by decide +kernel
theorem dJ1_indexOf_4cfef_30 : decode cJ1_indexOf_4cfef 30 = .ok (.iload_n 1, 1) := by decide +kernel
theorem dJ1_indexOf_4cfef_31 : decode cJ1_indexOf_4cfef 31 = .ok (.iload_n 2, 1) := by decide +kernel
theorem dJ1_indexOf_4cfef_32 : decode cJ1_indexOf_4cfef 32 = .ok (.iload_n 3, 1) := by decide +kernel
theorem dJ1_indexOf_4cfef_33 : decode cJ1_indexOf_4cfef 33 = .ok (.invokestatic 95, 3) := by decide +kernel
theorem dJ1_indexOf_4cfef_36 : decode cJ1_indexOf_4cfef 36 = .ok (.ireturn, 1) := by decide +kernel
theorem dJ1_indexOfChar_4cfef_0 : decode cJ1_indexOfChar_4cfef 0 = .ok (.iload_n 1, 1) := by decide +kernel
theorem dJ1_indexOfChar_4cfef_1 : decode cJ1_indexOfChar_4cfef 1 = .ok (.i2b, 1) := by decide +kernel
theorem dJ1_indexOfChar_4cfef_2 : decode cJ1_indexOfChar_4cfef 2 = .ok (.istore 4, 2) := by decide +kernel
theorem dJ1_indexOfChar_4cfef_4 : decode cJ1_indexOfChar_4cfef 4 = .ok (.iload_n 2, 1) := by decide +kernel
theorem dJ1_indexOfChar_4cfef_5 : decode cJ1_indexOfChar_4cfef 5 = .ok (.istore 5, 2) := by decide +kernel
theorem dJ1_indexOfChar_4cfef_7 : decode cJ1_indexOfChar_4cfef 7 = .ok (.iload 5, 2) := by decide +kernel
theorem dJ1_indexOfChar_4cfef_9 : decode cJ1_indexOfChar_4cfef 9 = .ok (.iload_n 3, 1) := by decide +kernel
theorem dJ1_indexOfChar_4cfef_10 : decode cJ1_indexOfChar_4cfef 10 = .ok (.if_icmp .ge 21, 3) := by decide +kernel
theorem dJ1_indexOfChar_4cfef_13 : decode cJ1_indexOfChar_4cfef 13 = .ok (.aload_n 0, 1) := by decide +kernel
theorem dJ1_indexOfChar_4cfef_14 : decode cJ1_indexOfChar_4cfef 14 = .ok (.iload 5, 2) := by decide +kernel
theorem dJ1_indexOfChar_4cfef_16 : decode cJ1_indexOfChar_4cfef 16 = .ok (.baload, 1) := by decide +kernel
theorem dJ1_indexOfChar_4cfef_17 : decode cJ1_indexOfChar_4cfef 17 = .ok (.iload 4, 2) := by decide +kernel
theorem dJ1_indexOfChar_4cfef_19 : decode cJ1_indexOfChar_4cfef 19 = .ok (.if_icmp .ne 6, 3) := by decide +kernel
theorem dJ1_indexOfChar_4cfef_22 : decode cJ1_indexOfChar_4cfef 22 = .ok (.iload 5, 2) := by decide +kernel
theorem dJ1_indexOfChar_4cfef_24 : decode cJ1_indexOfChar_4cfef 24 = .ok (.ireturn, 1) := by decide +kernel
theorem dJ1_indexOfChar_4cfef_25 : decode cJ1_indexOfChar_4cfef 25 = .ok (.iinc 5 1, 3) := by decide +kernel
theorem dJ1_indexOfChar_4cfef_28 : decode cJ1_indexOfChar_4cfef 28 = .ok (.goto (-21), 3) := by decide +kernel
theorem dJ1_indexOfChar_4cfef_31 : decode cJ1_indexOfChar_4cfef 31 = .ok (.iconst (-1), 1) := by decide +kernel
theorem dJ1_indexOfChar_4cfef_32 : decode cJ1_indexOfChar_4cfef 32 = .ok (.ireturn, 1) := by decide +kernel
theorem dJ9_max_7cf53_0 : decode cJ9_max_7cf53 0 = .ok (.iload_n 0, 1) := by decide +kernel
theorem dJ9_max_7cf53_1 : decode cJ9_max_7cf53 1 = .ok (.iload_n 1, 1) := by decide +kernel
theorem dJ9_max_7cf53_2 : decode cJ9_max_7cf53 2 = .ok (.if_icmp .lt 7, 3) := by decide +kernel
theorem dJ9_max_7cf53_5 : decode cJ9_max_7cf53 5 = .ok (.iload_n 0, 1) := by decide +kernel
theorem dJ9_max_7cf53_6 : decode cJ9_max_7cf53 6 = .ok (.goto 4, 3) := by decide +kernel
theorem dJ9_max_7cf53_9 : decode cJ9_max_7cf53 9 = .ok (.iload_n 1, 1) := by decide +kernel
theorem dJ9_max_7cf53_10 : decode cJ9_max_7cf53 10 = .ok (.ireturn, 1) := by decide +kernel
theorem dJ9_min_7cf53_0 : decode cJ9_min_7cf53 0 = .ok (.iload_n 0, 1) := by decide +kernel
theorem dJ9_min_7cf53_1 : decode cJ9_min_7cf53 1 = .ok (.iload_n 1, 1) := by decide +kernel
theorem dJ9_min_7cf53_2 : decode cJ9_min_7cf53 2 = .ok (.if_icmp .gt 7, 3) := by decide +kernel
theorem dJ9_min_7cf53_5 : decode cJ9_min_7cf53 5 = .ok (.iload_n 0, 1) := by decide +kernel
theorem dJ9_min_7cf53_6 : decode cJ9_min_7cf53 6 = .ok (.goto 4, 3) := by decide +kernel
theorem dJ9_min_7cf53_9 : decode cJ9_min_7cf53 9 = .ok (.iload_n 1, 1) := by decide +kernel
theorem dJ9_min_7cf53_10 : decode cJ9_min_7cf53 10 = .ok (.ireturn, 1) := by decide +kernel
end
section
theorem dX2_init_0 : decode cX2_init 0 = .ok (.aload_n 0, 1) := by decide +kernel
theorem dX2_init_1 : decode cX2_init 1 = .ok (.invokespecial 3, 3) := by decide +kernel
theorem dX2_init_4 : decode cX2_init 4 = .ok (.aload_n 0, 1) := by decide +kernel
theorem dX2_init_5 : decode cX2_init 5 = .ok (.new 9, 3) := by decide +kernel
theorem dX2_init_8 : decode cX2_init 8 = .ok (.dup, 1) := by decide +kernel
theorem dX2_init_9 : decode cX2_init 9 = .ok (.invokespecial 11, 3) := by decide +kernel
theorem dX2_init_12 : decode cX2_init 12 = .ok (.putfield 12, 3) := by decide +kernel
theorem dX2_init_15 : decode cX2_init 15 = .ok (.aload_n 0, 1) := by decide +kernel
theorem dX2_init_16 : decode cX2_init 16 = .ok (.new 9, 3) := by decide +kernel
theorem dX2_init_19 : decode cX2_init 19 = .ok (.dup, 1) := by decide +kernel
theorem dX2_init_20 : decode cX2_init 20 = .ok (.invokespecial 11, 3) := by decide +kernel
theorem dX2_init_23 : decode cX2_init 23 = .ok (.putfield 16, 3) := by decide +kernel
theorem dX2_init_26 : decode cX2_init 26 = .ok (.aload_n 0, 1) := by decide +kernel
theorem dX2_init_27 : decode cX2_init 27 = .ok (.new 9, 3) := by decide +kernel
theorem dX2_init_30 : decode cX2_init 30 = .ok (.dup, 1) := by decide +kernel
theorem dX2_init_31 : decode cX2_init 31 = .ok (.invokespecial 11, 3) := by decide +kernel
theorem dX2_init_34 : decode cX2_init 34 = .ok (.putfield 19, 3) := by decide +kernel
theorem dX2_init_37 : decode cX2_init 37 = .ok (.aload_n 0, 1) := by decide +kernel
theorem dX2_init_38 : decode cX2_init 38 = .ok (.new 9, 3) := by decide +kernel
theorem dX2_init_41 : decode cX2_init 41 = .ok (.dup, 1) := by decide +kernel
theorem dX2_init_42 : decode cX2_init 42 = .ok (.invokespecial 11, 3) := by decide +kernel
theorem dX2_init_45 : decode cX2_init 45 = .ok (.putfield 22, 3) := by decide +kernel
theorem dX2_init_48 : decode cX2_init 48 = .ok (.aload_n 0, 1) := by decide +kernel
theorem dX2_init_49 : decode cX2_init 49 = .ok (.new 25, 3) := by decide +kernel
theorem dX2_init_52 : decode cX2_init 52 = .ok (.dup, 1) := by decide +kernel
theorem dX2_init_53 : decode cX2_init 53 = .ok (.invokespecial 27, 3) := by decide +kernel
theorem dX2_init_56 : decode cX2_init 56 = .ok (.putfield 28, 3) := by decide +kernel
theorem dX2_init_59 : decode cX2_init 59 = .ok (.aload_n 0, 1) := by decide +kernel
theorem dX2_init_60 : decode cX2_init 60 = .ok (.bipush 6, 2) := by decide +kernel
theorem dX2_init_62 : decode cX2_init 62 = .ok (.newarray .int, 2) := by decide +kernel
theorem dX2_init_64 : decode cX2_init 64 = .ok (.putfield 32, 3) := by decide +kernel
theorem dX2_init_67 : decode cX2_init 67 = .ok (.aload_n 0, 1) := by decide +kernel
theorem dX2_init_68 : decode cX2_init 68 = .ok (.bipush 6, 2) := by decide +kernel
theorem dX2_init_70 : decode cX2_init 70 = .ok (.newarray .int, 2) := by decide +kernel
theorem dX2_init_72 : decode cX2_init 72 = .ok (.putfield 36, 3) := by decide +kernel
theorem dX2_init_75 : decode cX2_init 75 = .ok (.aload_n 0, 1) := by decide +kernel
theorem dX2_init_76 : decode cX2_init 76 = .ok (.bipush 6, 2) := by decide +kernel
theorem dX2_init_78 : decode cX2_init 78 = .ok (.newarray .int, 2) := by decide +kernel
theorem dX2_init_80 : decode cX2_init 80 = .ok (.putfield 39, 3) := by decide +kernel
theorem dX2_init_83 : decode cX2_init 83 = .ok (.aload_n 0, 1) := by decide +kernel
theorem dX2_init_84 : decode cX2_init 84 = .ok (.bipush 7, 2) := by decide +kernel
theorem dX2_init_86 : decode cX2_init 86 = .ok (.newarray .int, 2) := by decide +kernel
theorem dX2_init_88 : decode cX2_init 88 = .ok (.putfield 42, 3) := by decide +kernel
theorem dX2_init_91 : decode cX2_init 91 = .ok (.return_, 1) := by decide +kernel
theorem dX2_letter_0 : decode cX2_letter 0 = .ok (.iconst 1, 1) := by decide +kernel
theorem dX2_letter_1 : decode cX2_letter 1 = .ok (.iload_n 1, 1) := by decide +kernel
theorem dX2_letter_2 : decode cX2_letter 2 = .ok (.iconst 0, 1) := by decide +kernel
theorem dX2_letter_3 : decode cX2_letter 3 = .ok (.sipush 255, 3) := by decide +kernel
theorem dX2_letter_6 : decode cX2_letter 6 = .ok (.invokestatic 45, 3) := by decide +kernel
theorem dX2_letter_9 : decode cX2_letter 9 = .ok (.istore_n 2, 1) := by decide +kernel
theorem dX2_letter_10 : decode cX2_letter 10 = .ok (.iload_n 2, 1) := by decide +kernel
theorem dX2_letter_11 : decode cX2_letter 11 = .ok (.ifCond .ne 16, 3) := by decide +kernel
theorem dX2_letter_14 : decode cX2_letter 14 = .ok (.aload_n 0, 1) := by decide +kernel
theorem dX2_letter_15 : decode cX2_letter 15 = .ok (.getfield 28, 3) := by decide +kernel
theorem dX2_letter_18 : decode cX2_letter 18 = .ok (.invokevirtual 49, 3) := by decide +kernel
theorem dX2_letter_21 : decode cX2_letter 21 = .ok (.ifCond .eq 6, 3) := by decide +kernel
theorem dX2_letter_24 : decode cX2_letter 24 = .ok (.bipush (-6), 2) := by decide +kernel
theorem dX2_letter_26 : decode cX2_letter 26 = .ok (.istore_n 2, 1) := by decide +kernel
theorem dX2_letter_27 : decode cX2_letter 27 = .ok (.iload_n 2, 1) := by decide +kernel
theorem dX2_letter_28 : decode cX2_letter 28 = .ok (.ifCond .eq 9, 3) := by decide +kernel
theorem dX2_letter_31 : decode cX2_letter 31 = .ok (.aload_n 0, 1) := by decide +kernel
theorem dX2_letter_32 : decode cX2_letter 32 = .ok (.iload_n 2, 1) := by decide +kernel
theorem dX2_letter_33 : decode cX2_letter 33 = .ok (.invokevirtual 53, 3) := by decide +kernel
theorem dX2_letter_36 : decode cX2_letter 36 = .ok (.ireturn, 1) := by decide +kernel
theorem dX2_letter_37 : decode cX2_letter 37 = .ok (.aload_n 0, 1) := by decide +kernel
theorem dX2_letter_38 : decode cX2_letter 38 = .ok (.getfield 28, 3) := by decide +kernel
theorem dX2_letter_41 : decode cX2_letter 41 = .ok (.iload_n 1, 1) := by decide +kernel
theorem dX2_letter_42 : decode cX2_letter 42 = .ok (.i2c, 1) := by decide +kernel
theorem dX2_letter_43 : decode cX2_letter 43 = .ok (.invokevirtual 57, 3) := by decide +kernel
theorem dX2_letter_46 : decode cX2_letter 46 = .ok (.aload_n 0, 1) := by decide +kernel
theorem dX2_letter_47 : decode cX2_letter 47 = .ok (.getfield 28, 3) := by decide +kernel
theorem dX2_letter_50 : decode cX2_letter 50 = .ok (.getfield 61, 3) := by decide +kernel
theorem dX2_letter_53 : decode cX2_letter 53 = .ok (.ireturn, 1) := by decide +kernel
theorem dX2_town_0 : decode cX2_town 0 = .ok (.aload_n 0, 1) := by decide +kernel
theorem dX2_town_1 : decode cX2_town 1 = .ok (.invokevirtual 65, 3) := by decide +kernel
theorem dX2_town_4 : decode cX2_town 4 = .ok (.istore_n 1, 1) := by decide +kernel
theorem dX2_town_5 : decode cX2_town 5 = .ok (.aload_n 0, 1) := by decide +kernel
theorem dX2_town_6 : decode cX2_town 6 = .ok (.getfield 28, 3) := by decide +kernel
theorem dX2_town_9 : decode cX2_town 9 = .ok (.iconst 0, 1) := by decide +kernel
theorem dX2_town_10 : decode cX2_town 10 = .ok (.putfield 61, 3) := by decide +kernel
theorem dX2_town_13 : decode cX2_town 13 = .ok (.iload_n 1, 1) := by decide +kernel
theorem dX2_town_14 : decode cX2_town 14 = .ok (.ireturn, 1) := by decide +kernel
theorem dX2_street_0 : decode cX2_street 0 = .ok (.aload_n 0, 1) := by decide +kernel
theorem dX2_street_1 : decode cX2_street 1 = .ok (.getfield 12, 3) := by decide +kernel
theorem dX2_street_4 : decode cX2_street 4 = .ok (.iload_n 1, 1) := by decide +kernel
theorem dX2_street_5 : decode cX2_street 5 = .ok (.invokevirtual 69, 3) := by decide +kernel
theorem dX2_street_8 : decode cX2_street 8 = .ok (.ifCond .ne 9, 3) := by decide +kernel
theorem dX2_street_11 : decode cX2_street 11 = .ok (.aload_n 0, 1) := by decide +kernel
theorem dX2_street_12 : decode cX2_street 12 = .ok (.iconst (-1), 1) := by decide +kernel
theorem dX2_street_13 : decode cX2_street 13 = .ok (.invokevirtual 53, 3) := by decide +kernel
theorem dX2_street_16 : decode cX2_street 16 = .ok (.ireturn, 1) := by decide +kernel
theorem dX2_street_17 : decode cX2_street 17 = .ok (.iload_n 2, 1) := by decide +kernel
theorem dX2_street_18 : decode cX2_street 18 = .ok (.tableswitch 125 0 7 #[46, 56, 66, 76, 86, 96, 106, 116], 46) := by decide +kernel
theorem dX2_street_64 : decode cX2_street 64 = .ok (.aload_n 0, 1) := by decide +kernel
theorem dX2_street_65 : decode cX2_street 65 = .ok (.getfield 12, 3) := by decide +kernel
theorem dX2_street_68 : decode cX2_street 68 = .ok (.getfield 73, 3) := by decide +kernel
theorem dX2_street_71 : decode cX2_street 71 = .ok (.iload_n 1, 1) := by decide +kernel
theorem dX2_street_72 : decode cX2_street 72 = .ok (.iaload, 1) := by decide +kernel
theorem dX2_street_73 : decode cX2_street 73 = .ok (.ireturn, 1) := by decide +kernel
theorem dX2_street_74 : decode cX2_street 74 = .ok (.aload_n 0, 1) := by decide +kernel
theorem dX2_street_75 : decode cX2_street 75 = .ok (.getfield 12, 3) := by decide +kernel
theorem dX2_street_78 : decode cX2_street 78 = .ok (.getfield 76, 3) := by decide +kernel
theorem dX2_street_81 : decode cX2_street 81 = .ok (.iload_n 1, 1) := by decide +kernel
theorem dX2_street_82 : decode cX2_street 82 = .ok (.iaload, 1) := by decide +kernel
theorem dX2_street_83 : decode cX2_street 83 = .ok (.ireturn, 1) := by decide +kernel
theorem dX2_street_84 : decode cX2_street 84 = .ok (.aload_n 0, 1) := by decide +kernel
theorem dX2_street_85 : decode cX2_street 85 = .ok (.getfield 12, 3) := by decide +kernel
theorem dX2_street_88 : decode cX2_street 88 = .ok (.getfield 79, 3) := by decide +kernel
theorem dX2_street_91 : decode cX2_street 91 = .ok (.iload_n 1, 1) := by decide +kernel
theorem dX2_street_92 : decode cX2_street 92 = .ok (.iaload, 1) := by decide +kernel
theorem dX2_street_93 : decode cX2_street 93 = .ok (.ireturn, 1) := by decide +kernel
theorem dX2_street_94 : decode cX2_street 94 = .ok (.aload_n 0, 1) := by decide +kernel
theorem dX2_street_95 : decode cX2_street 95 = .ok (.getfield 12, 3) := by decide +kernel
theorem dX2_street_98 : decode cX2_street 98 = .ok (.getfield 82, 3) := by decide +kernel
theorem dX2_street_101 : decode cX2_street 101 = .ok (.iload_n 1, 1) := by decide +kernel
theorem dX2_street_102 : decode cX2_street 102 = .ok (.iaload, 1) := by decide +kernel
theorem dX2_street_103 : decode cX2_street 103 = .ok (.ireturn, 1) := by decide +kernel
theorem dX2_street_104 : decode cX2_street 104 = .ok (.aload_n 0, 1) := by decide +kernel
theorem dX2_street_105 : decode cX2_street 105 = .ok (.getfield 12, 3) := by decide +kernel
theorem dX2_street_108 : decode cX2_street 108 = .ok (.getfield 85, 3) := by decide +kernel
theorem dX2_street_111 : decode cX2_street 111 = .ok (.iload_n 1, 1) := by decide +kernel
theorem dX2_street_112 : decode cX2_street 112 = .ok (.iaload, 1) := by decide +kernel
theorem dX2_street_113 : decode cX2_street 113 = .ok (.ireturn, 1) := by decide +kernel
theorem dX2_street_114 : decode cX2_street 114 = .ok (.aload_n 0, 1) := by decide +kernel
theorem dX2_street_115 : decode cX2_street 115 = .ok (.getfield 12, 3) := by decide +kernel
theorem dX2_street_118 : decode cX2_street 118 = .ok (.getfield 88, 3) := by decide +kernel
theorem dX2_street_121 : decode cX2_street 121 = .ok (.iload_n 1, 1) := by decide +kernel
theorem dX2_street_122 : decode cX2_street 122 = .ok (.iaload, 1) := by decide +kernel
theorem dX2_street_123 : decode cX2_street 123 = .ok (.ireturn, 1) := by decide +kernel
theorem dX2_street_124 : decode cX2_street 124 = .ok (.aload_n 0, 1) := by decide +kernel
theorem dX2_street_125 : decode cX2_street 125 = .ok (.getfield 12, 3) := by decide +kernel
theorem dX2_street_128 : decode cX2_street 128 = .ok (.getfield 91, 3) := by decide +kernel
theorem dX2_street_131 : decode cX2_street 131 = .ok (.iload_n 1, 1) := by decide +kernel
theorem dX2_street_132 : decode cX2_street 132 = .ok (.iaload, 1) := by decide +kernel
theorem dX2_street_133 : decode cX2_street 133 = .ok (.ireturn, 1) := by decide +kernel
theorem dX2_street_134 : decode cX2_street 134 = .ok (.aload_n 0, 1) := by decide +kernel
theorem dX2_street_135 : decode cX2_street 135 = .ok (.getfield 12, 3) := by decide +kernel
theorem dX2_street_138 : decode cX2_street 138 = .ok (.iload_n 1, 1) := by decide +kernel
theorem dX2_street_139 : decode cX2_street 139 = .ok (.invokevirtual 94, 3) := by decide +kernel
theorem dX2_street_142 : decode cX2_street 142 = .ok (.ireturn, 1) := by decide +kernel
theorem dX2_street_143 : decode cX2_street 143 = .ok (.aload_n 0, 1) := by decide +kernel
theorem dX2_street_144 : decode cX2_street 144 = .ok (.bipush (-2), 2) := by decide +kernel
theorem dX2_street_146 : decode cX2_street 146 = .ok (.invokevirtual 53, 3) := by decide +kernel
theorem dX2_street_149 : decode cX2_street 149 = .ok (.ireturn, 1) := by decide +kernel
theorem dX2_mends_0 : decode cX2_mends 0 = .ok (.aload_n 0, 1) := by decide +kernel
theorem dX2_mends_1 : decode cX2_mends 1 = .ok (.getfield 12, 3) := by decide +kernel
theorem dX2_mends_4 : decode cX2_mends 4 = .ok (.iload_n 1, 1) := by decide +kernel
theorem dX2_mends_5 : decode cX2_mends 5 = .ok (.invokevirtual 69, 3) := by decide +kernel
theorem dX2_mends_8 : decode cX2_mends 8 = .ok (.ifCond .eq 14, 3) := by decide +kernel
theorem dX2_mends_11 : decode cX2_mends 11 = .ok (.aload_n 0, 1) := by decide +kernel
theorem dX2_mends_12 : decode cX2_mends 12 = .ok (.getfield 12, 3) := by decide +kernel
theorem dX2_mends_15 : decode cX2_mends 15 = .ok (.iload_n 2, 1) := by decide +kernel
theorem dX2_mends_16 : decode cX2_mends 16 = .ok (.invokevirtual 69, 3) := by decide +kernel
theorem dX2_mends_19 : decode cX2_mends 19 = .ok (.ifCond .ne 9, 3) := by decide +kernel
theorem dX2_mends_22 : decode cX2_mends 22 = .ok (.aload_n 0, 1) := by decide +kernel
theorem dX2_mends_23 : decode cX2_mends 23 = .ok (.iconst (-1), 1) := by decide +kernel
theorem dX2_mends_24 : decode cX2_mends 24 = .ok (.invokevirtual 53, 3) := by decide +kernel
theorem dX2_mends_27 : decode cX2_mends 27 = .ok (.ireturn, 1) := by decide +kernel
theorem dX2_mends_28 : decode cX2_mends 28 = .ok (.aload_n 0, 1) := by decide +kernel
theorem dX2_mends_29 : decode cX2_mends 29 = .ok (.getfield 12, 3) := by decide +kernel
theorem dX2_mends_32 : decode cX2_mends 32 = .ok (.getfield 88, 3) := by decide +kernel
theorem dX2_mends_35 : decode cX2_mends 35 = .ok (.iload_n 1, 1) := by decide +kernel
theorem dX2_mends_36 : decode cX2_mends 36 = .ok (.iaload, 1) := by decide +kernel
theorem dX2_mends_37 : decode cX2_mends 37 = .ok (.istore_n 3, 1) := by decide +kernel
theorem dX2_mends_38 : decode cX2_mends 38 = .ok (.aload_n 0, 1) := by decide +kernel
theorem dX2_mends_39 : decode cX2_mends 39 = .ok (.getfield 12, 3) := by decide +kernel
theorem dX2_mends_42 : decode cX2_mends 42 = .ok (.getfield 88, 3) := by decide +kernel
theorem dX2_mends_45 : decode cX2_mends 45 = .ok (.iload_n 1, 1) := by decide +kernel
theorem dX2_mends_46 : decode cX2_mends 46 = .ok (.iload_n 2, 1) := by decide +kernel
theorem dX2_mends_47 : decode cX2_mends 47 = .ok (.iastore, 1) := by decide +kernel
theorem dX2_mends_48 : decode cX2_mends 48 = .ok (.iload_n 3, 1) := by decide +kernel
theorem dX2_mends_49 : decode cX2_mends 49 = .ok (.ireturn, 1) := by decide +kernel
theorem dX2_pence_0 : decode cX2_pence 0 = .ok (.aload_n 0, 1) := by decide +kernel
theorem dX2_pence_1 : decode cX2_pence 1 = .ok (.getfield 12, 3) := by decide +kernel
theorem dX2_pence_4 : decode cX2_pence 4 = .ok (.iload_n 1, 1) := by decide +kernel
theorem dX2_pence_5 : decode cX2_pence 5 = .ok (.invokevirtual 69, 3) := by decide +kernel
theorem dX2_pence_8 : decode cX2_pence 8 = .ok (.iload_n 2, 1) := by decide +kernel
theorem dX2_pence_9 : decode cX2_pence 9 = .ok (.iconst 0, 1) := by decide +kernel
theorem dX2_pence_10 : decode cX2_pence 10 = .ok (.bipush 99, 2) := by decide +kernel
theorem dX2_pence_12 : decode cX2_pence 12 = .ok (.invokestatic 45, 3) := by decide +kernel
theorem dX2_pence_15 : decode cX2_pence 15 = .ok (.istore_n 3, 1) := by decide +kernel
theorem dX2_pence_16 : decode cX2_pence 16 = .ok (.iload_n 3, 1) := by decide +kernel
theorem dX2_pence_17 : decode cX2_pence 17 = .ok (.ifCond .eq 9, 3) := by decide +kernel
theorem dX2_pence_20 : decode cX2_pence 20 = .ok (.aload_n 0, 1) := by decide +kernel
theorem dX2_pence_21 : decode cX2_pence 21 = .ok (.iload_n 3, 1) := by decide +kernel
theorem dX2_pence_22 : decode cX2_pence 22 = .ok (.invokevirtual 53, 3) := by decide +kernel
theorem dX2_pence_25 : decode cX2_pence 25 = .ok (.ireturn, 1) := by decide +kernel
theorem dX2_pence_26 : decode cX2_pence 26 = .ok (.aload_n 0, 1) := by decide +kernel
theorem dX2_pence_27 : decode cX2_pence 27 = .ok (.getfield 12, 3) := by decide +kernel
theorem dX2_pence_30 : decode cX2_pence 30 = .ok (.getfield 85, 3) := by decide +kernel
theorem dX2_pence_33 : decode cX2_pence 33 = .ok (.iload_n 1, 1) := by decide +kernel
theorem dX2_pence_34 : decode cX2_pence 34 = .ok (.iaload, 1) := by decide +kernel
theorem dX2_pence_35 : decode cX2_pence 35 = .ok (.istore 4, 2) := by decide +kernel
theorem dX2_pence_37 : decode cX2_pence 37 = .ok (.aload_n 0, 1) := by decide +kernel
theorem dX2_pence_38 : decode cX2_pence 38 = .ok (.getfield 12, 3) := by decide +kernel
theorem dX2_pence_41 : decode cX2_pence 41 = .ok (.getfield 85, 3) := by decide +kernel
theorem dX2_pence_44 : decode cX2_pence 44 = .ok (.iload_n 1, 1) := by decide +kernel
theorem dX2_pence_45 : decode cX2_pence 45 = .ok (.iload_n 2, 1) := by decide +kernel
theorem dX2_pence_46 : decode cX2_pence 46 = .ok (.iastore, 1) := by decide +kernel
theorem dX2_pence_47 : decode cX2_pence 47 = .ok (.iload 4, 2) := by decide +kernel
theorem dX2_pence_49 : decode cX2_pence 49 = .ok (.ireturn, 1) := by decide +kernel
theorem dX2_hands_0 : decode cX2_hands 0 = .ok (.aload_n 0, 1) := by decide +kernel
theorem dX2_hands_1 : decode cX2_hands 1 = .ok (.getfield 12, 3) := by decide +kernel
theorem dX2_hands_4 : decode cX2_hands 4 = .ok (.iload_n 1, 1) := by decide +kernel
theorem dX2_hands_5 : decode cX2_hands 5 = .ok (.invokevirtual 69, 3) := by decide +kernel
theorem dX2_hands_8 : decode cX2_hands 8 = .ok (.iload_n 2, 1) := by decide +kernel
theorem dX2_hands_9 : decode cX2_hands 9 = .ok (.iconst 0, 1) := by decide +kernel
theorem dX2_hands_10 : decode cX2_hands 10 = .ok (.iconst 4, 1) := by decide +kernel
theorem dX2_hands_11 : decode cX2_hands 11 = .ok (.invokestatic 45, 3) := by decide +kernel
theorem dX2_hands_14 : decode cX2_hands 14 = .ok (.istore_n 3, 1) := by decide +kernel
theorem dX2_hands_15 : decode cX2_hands 15 = .ok (.iload_n 3, 1) := by decide +kernel
theorem dX2_hands_16 : decode cX2_hands 16 = .ok (.ifCond .eq 9, 3) := by decide +kernel
theorem dX2_hands_19 : decode cX2_hands 19 = .ok (.aload_n 0, 1) := by decide +kernel
theorem dX2_hands_20 : decode cX2_hands 20 = .ok (.iload_n 3, 1) := by decide +kernel
theorem dX2_hands_21 : decode cX2_hands 21 = .ok (.invokevirtual 53, 3) := by decide +kernel
theorem dX2_hands_24 : decode cX2_hands 24 = .ok (.ireturn, 1) := by decide +kernel
theorem dX2_hands_25 : decode cX2_hands 25 = .ok (.aload_n 0, 1) := by decide +kernel
theorem dX2_hands_26 : decode cX2_hands 26 = .ok (.getfield 12, 3) := by decide +kernel
theorem dX2_hands_29 : decode cX2_hands 29 = .ok (.getfield 82, 3) := by decide +kernel
theorem dX2_hands_32 : decode cX2_hands 32 = .ok (.iload_n 1, 1) := by decide +kernel
theorem dX2_hands_33 : decode cX2_hands 33 = .ok (.iaload, 1) := by decide +kernel
theorem dX2_hands_34 : decode cX2_hands 34 = .ok (.istore 4, 2) := by decide +kernel
theorem dX2_hands_36 : decode cX2_hands 36 = .ok (.aload_n 0, 1) := by decide +kernel
theorem dX2_hands_37 : decode cX2_hands 37 = .ok (.getfield 12, 3) := by decide +kernel
theorem dX2_hands_40 : decode cX2_hands 40 = .ok (.getfield 82, 3) := by decide +kernel
theorem dX2_hands_43 : decode cX2_hands 43 = .ok (.iload_n 1, 1) := by decide +kernel
theorem dX2_hands_44 : decode cX2_hands 44 = .ok (.iload_n 2, 1) := by decide +kernel
theorem dX2_hands_45 : decode cX2_hands 45 = .ok (.iastore, 1) := by decide +kernel
theorem dX2_hands_46 : decode cX2_hands 46 = .ok (.iload 4, 2) := by decide +kernel
theorem dX2_hands_48 : decode cX2_hands 48 = .ok (.ireturn, 1) := by decide +kernel
theorem dX2_year_0 : decode cX2_year 0 = .ok (.aload_n 0, 1) := by decide +kernel
theorem dX2_year_1 : decode cX2_year 1 = .ok (.getfield 12, 3) := by decide +kernel
theorem dX2_year_4 : decode cX2_year 4 = .ok (.getfield 97, 3) := by decide +kernel
theorem dX2_year_7 : decode cX2_year 7 = .ok (.sipush 999, 3) := by decide +kernel
theorem dX2_year_10 : decode cX2_year 10 = .ok (.if_icmp .lt 10, 3) := by decide +kernel
theorem dX2_year_13 : decode cX2_year 13 = .ok (.aload_n 0, 1) := by decide +kernel
theorem dX2_year_14 : decode cX2_year 14 = .ok (.bipush (-6), 2) := by decide +kernel
theorem dX2_year_16 : decode cX2_year 16 = .ok (.invokevirtual 53, 3) := by decide +kernel
theorem dX2_year_19 : decode cX2_year 19 = .ok (.ireturn, 1) := by decide +kernel
theorem dX2_year_20 : decode cX2_year 20 = .ok (.aload_n 0, 1) := by decide +kernel
theorem dX2_year_21 : decode cX2_year 21 = .ok (.getfield 12, 3) := by decide +kernel
theorem dX2_year_24 : decode cX2_year 24 = .ok (.invokevirtual 100, 3) := by decide +kernel
theorem dX2_year_27 : decode cX2_year 27 = .ok (.aload_n 0, 1) := by decide +kernel
theorem dX2_year_28 : decode cX2_year 28 = .ok (.getfield 12, 3) := by decide +kernel
theorem dX2_year_31 : decode cX2_year 31 = .ok (.invokevirtual 103, 3) := by decide +kernel
theorem dX2_year_34 : decode cX2_year 34 = .ok (.ireturn, 1) := by decide +kernel
theorem dX2_mud_0 : decode cX2_mud 0 = .ok (.iload_n 1, 1) := by decide +kernel
theorem dX2_mud_1 : decode cX2_mud 1 = .ok (.iconst (-1), 1) := by decide +kernel
theorem dX2_mud_2 : decode cX2_mud 2 = .ok (.if_icmp .eq 14, 3) := by decide +kernel
theorem dX2_mud_5 : decode cX2_mud 5 = .ok (.aload_n 0, 1) := by decide +kernel
theorem dX2_mud_6 : decode cX2_mud 6 = .ok (.getfield 12, 3) := by decide +kernel
theorem dX2_mud_9 : decode cX2_mud 9 = .ok (.iload_n 1, 1) := by decide +kernel
theorem dX2_mud_10 : decode cX2_mud 10 = .ok (.invokevirtual 69, 3) := by decide +kernel
theorem dX2_mud_13 : decode cX2_mud 13 = .ok (.ifCond .eq 7, 3) := by decide +kernel
theorem dX2_mud_16 : decode cX2_mud 16 = .ok (.iconst 1, 1) := by decide +kernel
theorem dX2_mud_17 : decode cX2_mud 17 = .ok (.goto 4, 3) := by decide +kernel
theorem dX2_mud_20 : decode cX2_mud 20 = .ok (.iconst 0, 1) := by decide +kernel
theorem dX2_mud_21 : decode cX2_mud 21 = .ok (.iload_n 2, 1) := by decide +kernel
theorem dX2_mud_22 : decode cX2_mud 22 = .ok (.iconst 0, 1) := by decide +kernel
theorem dX2_mud_23 : decode cX2_mud 23 = .ok (.bipush 60, 2) := by decide +kernel
theorem dX2_mud_25 : decode cX2_mud 25 = .ok (.invokestatic 45, 3) := by decide +kernel
theorem dX2_mud_28 : decode cX2_mud 28 = .ok (.istore_n 3, 1) := by decide +kernel
theorem dX2_mud_29 : decode cX2_mud 29 = .ok (.iload_n 3, 1) := by decide +kernel
theorem dX2_mud_30 : decode cX2_mud 30 = .ok (.ifCond .eq 9, 3) := by decide +kernel
theorem dX2_mud_33 : decode cX2_mud 33 = .ok (.aload_n 0, 1) := by decide +kernel
theorem dX2_mud_34 : decode cX2_mud 34 = .ok (.iload_n 3, 1) := by decide +kernel
theorem dX2_mud_35 : decode cX2_mud 35 = .ok (.invokevirtual 53, 3) := by decide +kernel
theorem dX2_mud_38 : decode cX2_mud 38 = .ok (.ireturn, 1) := by decide +kernel
theorem dX2_mud_39 : decode cX2_mud 39 = .ok (.aload_n 0, 1) := by decide +kernel
theorem dX2_mud_40 : decode cX2_mud 40 = .ok (.getfield 19, 3) := by decide +kernel
theorem dX2_mud_43 : decode cX2_mud 43 = .ok (.aload_n 0, 1) := by decide +kernel
theorem dX2_mud_44 : decode cX2_mud 44 = .ok (.getfield 12, 3) := by decide +kernel
theorem dX2_mud_47 : decode cX2_mud 47 = .ok (.invokevirtual 106, 3) := by decide +kernel
theorem dX2_mud_50 : decode cX2_mud 50 = .ok (.aload_n 0, 1) := by decide +kernel
theorem dX2_mud_51 : decode cX2_mud 51 = .ok (.getfield 19, 3) := by decide +kernel
theorem dX2_mud_54 : decode cX2_mud 54 = .ok (.iload_n 2, 1) := by decide +kernel
theorem dX2_mud_55 : decode cX2_mud 55 = .ok (.invokevirtual 110, 3) := by decide +kernel
theorem dX2_mud_58 : decode cX2_mud 58 = .ok (.istore 4, 2) := by decide +kernel
theorem dX2_mud_60 : decode cX2_mud 60 = .ok (.aload_n 0, 1) := by decide +kernel
theorem dX2_mud_61 : decode cX2_mud 61 = .ok (.getfield 12, 3) := by decide +kernel
theorem dX2_mud_64 : decode cX2_mud 64 = .ok (.iload_n 1, 1) := by decide +kernel
theorem dX2_mud_65 : decode cX2_mud 65 = .ok (.invokevirtual 69, 3) := by decide +kernel
theorem dX2_mud_68 : decode cX2_mud 68 = .ok (.ifCond .eq 15, 3) := by decide +kernel
theorem dX2_mud_71 : decode cX2_mud 71 = .ok (.aload_n 0, 1) := by decide +kernel
theorem dX2_mud_72 : decode cX2_mud 72 = .ok (.getfield 19, 3) := by decide +kernel
theorem dX2_mud_75 : decode cX2_mud 75 = .ok (.getfield 76, 3) := by decide +kernel
theorem dX2_mud_78 : decode cX2_mud 78 = .ok (.iload_n 1, 1) := by decide +kernel
theorem dX2_mud_79 : decode cX2_mud 79 = .ok (.iaload, 1) := by decide +kernel
theorem dX2_mud_80 : decode cX2_mud 80 = .ok (.goto 5, 3) := by decide +kernel
theorem dX2_mud_83 : decode cX2_mud 83 = .ok (.iload 4, 2) := by decide +kernel
theorem dX2_mud_85 : decode cX2_mud 85 = .ok (.ireturn, 1) := by decide +kernel
theorem dX2_worst_0 : decode cX2_worst 0 = .ok (.iconst 1, 1) := by decide +kernel
theorem dX2_worst_1 : decode cX2_worst 1 = .ok (.iload_n 1, 1) := by decide +kernel
theorem dX2_worst_2 : decode cX2_worst 2 = .ok (.iconst 0, 1) := by decide +kernel
theorem dX2_worst_3 : decode cX2_worst 3 = .ok (.bipush 60, 2) := by decide +kernel
theorem dX2_worst_5 : decode cX2_worst 5 = .ok (.invokestatic 45, 3) := by decide +kernel
theorem dX2_worst_8 : decode cX2_worst 8 = .ok (.istore_n 3, 1) := by decide +kernel
theorem dX2_worst_9 : decode cX2_worst 9 = .ok (.iload_n 3, 1) := by decide +kernel
theorem dX2_worst_10 : decode cX2_worst 10 = .ok (.ifCond .ne 15, 3) := by decide +kernel
theorem dX2_worst_13 : decode cX2_worst 13 = .ok (.iload_n 2, 1) := by decide +kernel
theorem dX2_worst_14 : decode cX2_worst 14 = .ok (.ifCond .eq 11, 3) := by decide +kernel
theorem dX2_worst_17 : decode cX2_worst 17 = .ok (.iload_n 2, 1) := by decide +kernel
theorem dX2_worst_18 : decode cX2_worst 18 = .ok (.iconst 1, 1) := by decide +kernel
theorem dX2_worst_19 : decode cX2_worst 19 = .ok (.if_icmp .eq 6, 3) := by decide +kernel
theorem dX2_worst_22 : decode cX2_worst 22 = .ok (.bipush (-2), 2) := by decide +kernel
theorem dX2_worst_24 : decode cX2_worst 24 = .ok (.istore_n 3, 1) := by decide +kernel
theorem dX2_worst_25 : decode cX2_worst 25 = .ok (.iload_n 3, 1) := by decide +kernel
theorem dX2_worst_26 : decode cX2_worst 26 = .ok (.ifCond .eq 9, 3) := by decide +kernel
theorem dX2_worst_29 : decode cX2_worst 29 = .ok (.aload_n 0, 1) := by decide +kernel
theorem dX2_worst_30 : decode cX2_worst 30 = .ok (.iload_n 3, 1) := by decide +kernel
theorem dX2_worst_31 : decode cX2_worst 31 = .ok (.invokevirtual 53, 3) := by decide +kernel
theorem dX2_worst_34 : decode cX2_worst 34 = .ok (.ireturn, 1) := by decide +kernel
theorem dX2_worst_35 : decode cX2_worst 35 = .ok (.aload_n 0, 1) := by decide +kernel
theorem dX2_worst_36 : decode cX2_worst 36 = .ok (.getfield 19, 3) := by decide +kernel
theorem dX2_worst_39 : decode cX2_worst 39 = .ok (.aload_n 0, 1) := by decide +kernel
theorem dX2_worst_40 : decode cX2_worst 40 = .ok (.getfield 12, 3) := by decide +kernel
theorem dX2_worst_43 : decode cX2_worst 43 = .ok (.invokevirtual 106, 3) := by decide +kernel
theorem dX2_worst_46 : decode cX2_worst 46 = .ok (.aload_n 0, 1) := by decide +kernel
theorem dX2_worst_47 : decode cX2_worst 47 = .ok (.getfield 19, 3) := by decide +kernel
theorem dX2_worst_50 : decode cX2_worst 50 = .ok (.iload_n 1, 1) := by decide +kernel
theorem dX2_worst_51 : decode cX2_worst 51 = .ok (.invokevirtual 110, 3) := by decide +kernel
theorem dX2_worst_54 : decode cX2_worst 54 = .ok (.pop, 1) := by decide +kernel
theorem dX2_worst_55 : decode cX2_worst 55 = .ok (.aload_n 0, 1) := by decide +kernel
theorem dX2_worst_56 : decode cX2_worst 56 = .ok (.getfield 19, 3) := by decide +kernel
theorem dX2_worst_59 : decode cX2_worst 59 = .ok (.invokevirtual 113, 3) := by decide +kernel
theorem dX2_worst_62 : decode cX2_worst 62 = .ok (.istore 4, 2) := by decide +kernel
theorem dX2_worst_64 : decode cX2_worst 64 = .ok (.iload_n 2, 1) := by decide +kernel
theorem dX2_worst_65 : decode cX2_worst 65 = .ok (.iconst 1, 1) := by decide +kernel
theorem dX2_worst_66 : decode cX2_worst 66 = .ok (.if_icmp .ne 17, 3) := by decide +kernel
theorem dX2_worst_69 : decode cX2_worst 69 = .ok (.iload 4, 2) := by decide +kernel
theorem dX2_worst_71 : decode cX2_worst 71 = .ok (.iconst (-1), 1) := by decide +kernel
theorem dX2_worst_72 : decode cX2_worst 72 = .ok (.if_icmp .ne 8, 3) := by decide +kernel
theorem dX2_worst_75 : decode cX2_worst 75 = .ok (.bipush (-9), 2) := by decide +kernel
theorem dX2_worst_77 : decode cX2_worst 77 = .ok (.goto 5, 3) := by decide +kernel
theorem dX2_worst_80 : decode cX2_worst 80 = .ok (.iload 4, 2) := by decide +kernel
theorem dX2_worst_82 : decode cX2_worst 82 = .ok (.ireturn, 1) := by decide +kernel
theorem dX2_worst_83 : decode cX2_worst 83 = .ok (.aload_n 0, 1) := by decide +kernel
theorem dX2_worst_84 : decode cX2_worst 84 = .ok (.getfield 19, 3) := by decide +kernel
theorem dX2_worst_87 : decode cX2_worst 87 = .ok (.iload 4, 2) := by decide +kernel
theorem dX2_worst_89 : decode cX2_worst 89 = .ok (.invokevirtual 69, 3) := by decide +kernel
theorem dX2_worst_92 : decode cX2_worst 92 = .ok (.ifCond .eq 16, 3) := by decide +kernel
theorem dX2_worst_95 : decode cX2_worst 95 = .ok (.aload_n 0, 1) := by decide +kernel
theorem dX2_worst_96 : decode cX2_worst 96 = .ok (.getfield 19, 3) := by decide +kernel
theorem dX2_worst_99 : decode cX2_worst 99 = .ok (.getfield 76, 3) := by decide +kernel
theorem dX2_worst_102 : decode cX2_worst 102 = .ok (.iload 4, 2) := by decide +kernel
theorem dX2_worst_104 : decode cX2_worst 104 = .ok (.iaload, 1) := by decide +kernel
theorem dX2_worst_105 : decode cX2_worst 105 = .ok (.goto 4, 3) := by decide +kernel
theorem dX2_worst_108 : decode cX2_worst 108 = .ok (.iconst 0, 1) := by decide +kernel
theorem dX2_worst_109 : decode cX2_worst 109 = .ok (.ireturn, 1) := by decide +kernel
theorem dX2_again_0 : decode cX2_again 0 = .ok (.aload_n 0, 1) := by decide +kernel
theorem dX2_again_1 : decode cX2_again 1 = .ok (.getfield 19, 3) := by decide +kernel
theorem dX2_again_4 : decode cX2_again 4 = .ok (.aload_n 0, 1) := by decide +kernel
theorem dX2_again_5 : decode cX2_again 5 = .ok (.getfield 12, 3) := by decide +kernel
theorem dX2_again_8 : decode cX2_again 8 = .ok (.invokevirtual 106, 3) := by decide +kernel
theorem dX2_again_11 : decode cX2_again 11 = .ok (.aload_n 0, 1) := by decide +kernel
theorem dX2_again_12 : decode cX2_again 12 = .ok (.getfield 19, 3) := by decide +kernel
theorem dX2_again_15 : decode cX2_again 15 = .ok (.bipush 40, 2) := by decide +kernel
theorem dX2_again_17 : decode cX2_again 17 = .ok (.invokevirtual 110, 3) := by decide +kernel
theorem dX2_again_20 : decode cX2_again 20 = .ok (.pop, 1) := by decide +kernel
theorem dX2_again_21 : decode cX2_again 21 = .ok (.aload_n 0, 1) := by decide +kernel
theorem dX2_again_22 : decode cX2_again 22 = .ok (.getfield 22, 3) := by decide +kernel
theorem dX2_again_25 : decode cX2_again 25 = .ok (.aload_n 0, 1) := by decide +kernel
theorem dX2_again_26 : decode cX2_again 26 = .ok (.getfield 19, 3) := by decide +kernel
theorem dX2_again_29 : decode cX2_again 29 = .ok (.invokevirtual 106, 3) := by decide +kernel
theorem dX2_again_32 : decode cX2_again 32 = .ok (.iconst 1, 1) := by decide +kernel
theorem dX2_again_33 : decode cX2_again 33 = .ok (.istore_n 1, 1) := by decide +kernel
theorem dX2_again_34 : decode cX2_again 34 = .ok (.iload_n 1, 1) := by decide +kernel
theorem dX2_again_35 : decode cX2_again 35 = .ok (.bipush 30, 2) := by decide +kernel
theorem dX2_again_37 : decode cX2_again 37 = .ok (.if_icmp .gt 32, 3) := by decide +kernel
theorem dX2_again_40 : decode cX2_again 40 = .ok (.aload_n 0, 1) := by decide +kernel
theorem dX2_again_41 : decode cX2_again 41 = .ok (.getfield 22, 3) := by decide +kernel
theorem dX2_again_44 : decode cX2_again 44 = .ok (.invokevirtual 100, 3) := by decide +kernel
theorem dX2_again_47 : decode cX2_again 47 = .ok (.aload_n 0, 1) := by decide +kernel
theorem dX2_again_48 : decode cX2_again 48 = .ok (.getfield 22, 3) := by decide +kernel
theorem dX2_again_51 : decode cX2_again 51 = .ok (.aload_n 0, 1) := by decide +kernel
theorem dX2_again_52 : decode cX2_again 52 = .ok (.getfield 19, 3) := by decide +kernel
theorem dX2_again_55 : decode cX2_again 55 = .ok (.invokevirtual 116, 3) := by decide +kernel
theorem dX2_again_58 : decode cX2_again 58 = .ok (.ifCond .eq 5, 3) := by decide +kernel
theorem dX2_again_61 : decode cX2_again 61 = .ok (.iload_n 1, 1) := by decide +kernel
theorem dX2_again_62 : decode cX2_again 62 = .ok (.ireturn, 1) := by decide +kernel
theorem dX2_again_63 : decode cX2_again 63 = .ok (.iinc 1 1, 3) := by decide +kernel
theorem dX2_again_66 : decode cX2_again 66 = .ok (.goto (-32), 3) := by decide +kernel
theorem dX2_again_69 : decode cX2_again 69 = .ok (.bipush (-9), 2) := by decide +kernel
theorem dX2_again_71 : decode cX2_again 71 = .ok (.ireturn, 1) := by decide +kernel
theorem dX2_way_0 : decode cX2_way 0 = .ok (.aload_n 0, 1) := by decide +kernel
theorem dX2_way_1 : decode cX2_way 1 = .ok (.getfield 12, 3) := by decide +kernel
theorem dX2_way_4 : decode cX2_way 4 = .ok (.iload_n 1, 1) := by decide +kernel
theorem dX2_way_5 : decode cX2_way 5 = .ok (.invokevirtual 69, 3) := by decide +kernel
theorem dX2_way_8 : decode cX2_way 8 = .ok (.ifCond .eq 14, 3) := by decide +kernel
theorem dX2_way_11 : decode cX2_way 11 = .ok (.aload_n 0, 1) := by decide +kernel
theorem dX2_way_12 : decode cX2_way 12 = .ok (.getfield 12, 3) := by decide +kernel
theorem dX2_way_15 : decode cX2_way 15 = .ok (.iload_n 2, 1) := by decide +kernel
theorem dX2_way_16 : decode cX2_way 16 = .ok (.invokevirtual 69, 3) := by decide +kernel
theorem dX2_way_19 : decode cX2_way 19 = .ok (.ifCond .ne 9, 3) := by decide +kernel
theorem dX2_way_22 : decode cX2_way 22 = .ok (.aload_n 0, 1) := by decide +kernel
theorem dX2_way_23 : decode cX2_way 23 = .ok (.iconst (-1), 1) := by decide +kernel
theorem dX2_way_24 : decode cX2_way 24 = .ok (.invokevirtual 53, 3) := by decide +kernel
theorem dX2_way_27 : decode cX2_way 27 = .ok (.ireturn, 1) := by decide +kernel
theorem dX2_way_28 : decode cX2_way 28 = .ok (.iload_n 1, 1) := by decide +kernel
theorem dX2_way_29 : decode cX2_way 29 = .ok (.istore_n 3, 1) := by decide +kernel
theorem dX2_way_30 : decode cX2_way 30 = .ok (.iconst 0, 1) := by decide +kernel
theorem dX2_way_31 : decode cX2_way 31 = .ok (.istore 4, 2) := by decide +kernel
theorem dX2_way_33 : decode cX2_way 33 = .ok (.iload 4, 2) := by decide +kernel
theorem dX2_way_35 : decode cX2_way 35 = .ok (.aload_n 0, 1) := by decide +kernel
theorem dX2_way_36 : decode cX2_way 36 = .ok (.getfield 12, 3) := by decide +kernel
theorem dX2_way_39 : decode cX2_way 39 = .ok (.getfield 120, 3) := by decide +kernel
theorem dX2_way_42 : decode cX2_way 42 = .ok (.if_icmp .ge 26, 3) := by decide +kernel
theorem dX2_way_45 : decode cX2_way 45 = .ok (.iload_n 3, 1) := by decide +kernel
theorem dX2_way_46 : decode cX2_way 46 = .ok (.iload_n 2, 1) := by decide +kernel
theorem dX2_way_47 : decode cX2_way 47 = .ok (.if_icmp .ne 6, 3) := by decide +kernel
theorem dX2_way_50 : decode cX2_way 50 = .ok (.iload 4, 2) := by decide +kernel
theorem dX2_way_52 : decode cX2_way 52 = .ok (.ireturn, 1) := by decide +kernel
theorem dX2_way_53 : decode cX2_way 53 = .ok (.aload_n 0, 1) := by decide +kernel
theorem dX2_way_54 : decode cX2_way 54 = .ok (.getfield 12, 3) := by decide +kernel
theorem dX2_way_57 : decode cX2_way 57 = .ok (.iload_n 3, 1) := by decide +kernel
theorem dX2_way_58 : decode cX2_way 58 = .ok (.invokevirtual 123, 3) := by decide +kernel
theorem dX2_way_61 : decode cX2_way 61 = .ok (.istore_n 3, 1) := by decide +kernel
theorem dX2_way_62 : decode cX2_way 62 = .ok (.iinc 4 1, 3) := by decide +kernel
theorem dX2_way_65 : decode cX2_way 65 = .ok (.goto (-32), 3) := by decide +kernel
theorem dX2_way_68 : decode cX2_way 68 = .ok (.bipush (-9), 2) := by decide +kernel
theorem dX2_way_70 : decode cX2_way 70 = .ok (.ireturn, 1) := by decide +kernel
theorem dX2_ring_0 : decode cX2_ring 0 = .ok (.iconst 0, 1) := by decide +kernel
theorem dX2_ring_1 : decode cX2_ring 1 = .ok (.istore_n 1, 1) := by decide +kernel
theorem dX2_ring_2 : decode cX2_ring 2 = .ok (.iconst 0, 1) := by decide +kernel
theorem dX2_ring_3 : decode cX2_ring 3 = .ok (.istore_n 2, 1) := by decide +kernel
theorem dX2_ring_4 : decode cX2_ring 4 = .ok (.iload_n 2, 1) := by decide +kernel
theorem dX2_ring_5 : decode cX2_ring 5 = .ok (.aload_n 0, 1) := by decide +kernel
theorem dX2_ring_6 : decode cX2_ring 6 = .ok (.getfield 12, 3) := by decide +kernel
theorem dX2_ring_9 : decode cX2_ring 9 = .ok (.getfield 120, 3) := by decide +kernel
theorem dX2_ring_12 : decode cX2_ring 12 = .ok (.if_icmp .ge 26, 3) := by decide +kernel
theorem dX2_ring_15 : decode cX2_ring 15 = .ok (.aload_n 0, 1) := by decide +kernel
theorem dX2_ring_16 : decode cX2_ring 16 = .ok (.getfield 12, 3) := by decide +kernel
theorem dX2_ring_19 : decode cX2_ring 19 = .ok (.iload_n 2, 1) := by decide +kernel
theorem dX2_ring_20 : decode cX2_ring 20 = .ok (.invokevirtual 126, 3) := by decide +kernel
theorem dX2_ring_23 : decode cX2_ring 23 = .ok (.ifCond .eq 9, 3) := by decide +kernel
theorem dX2_ring_26 : decode cX2_ring 26 = .ok (.iload_n 1, 1) := by decide +kernel
theorem dX2_ring_27 : decode cX2_ring 27 = .ok (.iconst 1, 1) := by decide +kernel
theorem dX2_ring_28 : decode cX2_ring 28 = .ok (.iload_n 2, 1) := by decide +kernel
theorem dX2_ring_29 : decode cX2_ring 29 = .ok (.ishl, 1) := by decide +kernel
theorem dX2_ring_30 : decode cX2_ring 30 = .ok (.ior, 1) := by decide +kernel
theorem dX2_ring_31 : decode cX2_ring 31 = .ok (.istore_n 1, 1) := by decide +kernel
theorem dX2_ring_32 : decode cX2_ring 32 = .ok (.iinc 2 1, 3) := by decide +kernel
theorem dX2_ring_35 : decode cX2_ring 35 = .ok (.goto (-31), 3) := by decide +kernel
theorem dX2_ring_38 : decode cX2_ring 38 = .ok (.iload_n 1, 1) := by decide +kernel
theorem dX2_ring_39 : decode cX2_ring 39 = .ok (.ireturn, 1) := by decide +kernel
theorem dX2_tail_0 : decode cX2_tail 0 = .ok (.aload_n 0, 1) := by decide +kernel
theorem dX2_tail_1 : decode cX2_tail 1 = .ok (.getfield 12, 3) := by decide +kernel
theorem dX2_tail_4 : decode cX2_tail 4 = .ok (.iload_n 1, 1) := by decide +kernel
theorem dX2_tail_5 : decode cX2_tail 5 = .ok (.invokevirtual 69, 3) := by decide +kernel
theorem dX2_tail_8 : decode cX2_tail 8 = .ok (.ifCond .ne 9, 3) := by decide +kernel
theorem dX2_tail_11 : decode cX2_tail 11 = .ok (.aload_n 0, 1) := by decide +kernel
theorem dX2_tail_12 : decode cX2_tail 12 = .ok (.iconst (-1), 1) := by decide +kernel
theorem dX2_tail_13 : decode cX2_tail 13 = .ok (.invokevirtual 53, 3) := by decide +kernel
theorem dX2_tail_16 : decode cX2_tail 16 = .ok (.ireturn, 1) := by decide +kernel
theorem dX2_tail_17 : decode cX2_tail 17 = .ok (.iload_n 1, 1) := by decide +kernel
theorem dX2_tail_18 : decode cX2_tail 18 = .ok (.istore_n 2, 1) := by decide +kernel
theorem dX2_tail_19 : decode cX2_tail 19 = .ok (.iconst 0, 1) := by decide +kernel
theorem dX2_tail_20 : decode cX2_tail 20 = .ok (.istore_n 3, 1) := by decide +kernel
theorem dX2_tail_21 : decode cX2_tail 21 = .ok (.iload_n 3, 1) := by decide +kernel
theorem dX2_tail_22 : decode cX2_tail 22 = .ok (.aload_n 0, 1) := by decide +kernel
theorem dX2_tail_23 : decode cX2_tail 23 = .ok (.getfield 12, 3) := by decide +kernel
theorem dX2_tail_26 : decode cX2_tail 26 = .ok (.getfield 120, 3) := by decide +kernel
theorem dX2_tail_29 : decode cX2_tail 29 = .ok (.if_icmp .ge 29, 3) := by decide +kernel
theorem dX2_tail_32 : decode cX2_tail 32 = .ok (.aload_n 0, 1) := by decide +kernel
theorem dX2_tail_33 : decode cX2_tail 33 = .ok (.getfield 12, 3) := by decide +kernel
theorem dX2_tail_36 : decode cX2_tail 36 = .ok (.iload_n 2, 1) := by decide +kernel
theorem dX2_tail_37 : decode cX2_tail 37 = .ok (.invokevirtual 126, 3) := by decide +kernel
theorem dX2_tail_40 : decode cX2_tail 40 = .ok (.ifCond .ne 18, 3) := by decide +kernel
theorem dX2_tail_43 : decode cX2_tail 43 = .ok (.aload_n 0, 1) := by decide +kernel
theorem dX2_tail_44 : decode cX2_tail 44 = .ok (.getfield 12, 3) := by decide +kernel
theorem dX2_tail_47 : decode cX2_tail 47 = .ok (.iload_n 2, 1) := by decide +kernel
theorem dX2_tail_48 : decode cX2_tail 48 = .ok (.invokevirtual 123, 3) := by decide +kernel
theorem dX2_tail_51 : decode cX2_tail 51 = .ok (.istore_n 2, 1) := by decide +kernel
theorem dX2_tail_52 : decode cX2_tail 52 = .ok (.iinc 3 1, 3) := by decide +kernel
theorem dX2_tail_55 : decode cX2_tail 55 = .ok (.goto (-34), 3) := by decide +kernel
theorem dX2_tail_58 : decode cX2_tail 58 = .ok (.iload_n 3, 1) := by decide +kernel
theorem dX2_tail_59 : decode cX2_tail 59 = .ok (.ireturn, 1) := by decide +kernel
theorem dX2_rings_0 : decode cX2_rings 0 = .ok (.iconst 0, 1) := by decide +kernel
theorem dX2_rings_1 : decode cX2_rings 1 = .ok (.istore_n 1, 1) := by decide +kernel
theorem dX2_rings_2 : decode cX2_rings 2 = .ok (.iconst 0, 1) := by decide +kernel
theorem dX2_rings_3 : decode cX2_rings 3 = .ok (.istore_n 2, 1) := by decide +kernel
theorem dX2_rings_4 : decode cX2_rings 4 = .ok (.iload_n 2, 1) := by decide +kernel
theorem dX2_rings_5 : decode cX2_rings 5 = .ok (.aload_n 0, 1) := by decide +kernel
theorem dX2_rings_6 : decode cX2_rings 6 = .ok (.getfield 12, 3) := by decide +kernel
theorem dX2_rings_9 : decode cX2_rings 9 = .ok (.getfield 120, 3) := by decide +kernel
theorem dX2_rings_12 : decode cX2_rings 12 = .ok (.if_icmp .ge 35, 3) := by decide +kernel
theorem dX2_rings_15 : decode cX2_rings 15 = .ok (.aload_n 0, 1) := by decide +kernel
theorem dX2_rings_16 : decode cX2_rings 16 = .ok (.getfield 12, 3) := by decide +kernel
theorem dX2_rings_19 : decode cX2_rings 19 = .ok (.iload_n 2, 1) := by decide +kernel
theorem dX2_rings_20 : decode cX2_rings 20 = .ok (.invokevirtual 126, 3) := by decide +kernel
theorem dX2_rings_23 : decode cX2_rings 23 = .ok (.ifCond .eq 18, 3) := by decide +kernel
theorem dX2_rings_26 : decode cX2_rings 26 = .ok (.aload_n 0, 1) := by decide +kernel
theorem dX2_rings_27 : decode cX2_rings 27 = .ok (.getfield 12, 3) := by decide +kernel
theorem dX2_rings_30 : decode cX2_rings 30 = .ok (.iload_n 2, 1) := by decide +kernel
theorem dX2_rings_31 : decode cX2_rings 31 = .ok (.invokevirtual 129, 3) := by decide +kernel
theorem dX2_rings_34 : decode cX2_rings 34 = .ok (.iload_n 2, 1) := by decide +kernel
theorem dX2_rings_35 : decode cX2_rings 35 = .ok (.if_icmp .ne 6, 3) := by decide +kernel
theorem dX2_rings_38 : decode cX2_rings 38 = .ok (.iinc 1 1, 3) := by decide +kernel
theorem dX2_rings_41 : decode cX2_rings 41 = .ok (.iinc 2 1, 3) := by decide +kernel
theorem dX2_rings_44 : decode cX2_rings 44 = .ok (.goto (-40), 3) := by decide +kernel
theorem dX2_rings_47 : decode cX2_rings 47 = .ok (.iload_n 1, 1) := by decide +kernel
theorem dX2_rings_48 : decode cX2_rings 48 = .ok (.ireturn, 1) := by decide +kernel
theorem dX2_never_0 : decode cX2_never 0 = .ok (.iconst 0, 1) := by decide +kernel
theorem dX2_never_1 : decode cX2_never 1 = .ok (.istore_n 1, 1) := by decide +kernel
theorem dX2_never_2 : decode cX2_never 2 = .ok (.iconst 0, 1) := by decide +kernel
theorem dX2_never_3 : decode cX2_never 3 = .ok (.istore_n 2, 1) := by decide +kernel
theorem dX2_never_4 : decode cX2_never 4 = .ok (.iload_n 2, 1) := by decide +kernel
theorem dX2_never_5 : decode cX2_never 5 = .ok (.aload_n 0, 1) := by decide +kernel
theorem dX2_never_6 : decode cX2_never 6 = .ok (.getfield 12, 3) := by decide +kernel
theorem dX2_never_9 : decode cX2_never 9 = .ok (.getfield 120, 3) := by decide +kernel
theorem dX2_never_12 : decode cX2_never 12 = .ok (.if_icmp .ge 26, 3) := by decide +kernel
theorem dX2_never_15 : decode cX2_never 15 = .ok (.aload_n 0, 1) := by decide +kernel
theorem dX2_never_16 : decode cX2_never 16 = .ok (.getfield 12, 3) := by decide +kernel
theorem dX2_never_19 : decode cX2_never 19 = .ok (.iload_n 2, 1) := by decide +kernel
theorem dX2_never_20 : decode cX2_never 20 = .ok (.invokevirtual 94, 3) := by decide +kernel
theorem dX2_never_23 : decode cX2_never 23 = .ok (.ifCond .ne 9, 3) := by decide +kernel
theorem dX2_never_26 : decode cX2_never 26 = .ok (.iload_n 1, 1) := by decide +kernel
theorem dX2_never_27 : decode cX2_never 27 = .ok (.iconst 1, 1) := by decide +kernel
theorem dX2_never_28 : decode cX2_never 28 = .ok (.iload_n 2, 1) := by decide +kernel
theorem dX2_never_29 : decode cX2_never 29 = .ok (.ishl, 1) := by decide +kernel
theorem dX2_never_30 : decode cX2_never 30 = .ok (.ior, 1) := by decide +kernel
theorem dX2_never_31 : decode cX2_never 31 = .ok (.istore_n 1, 1) := by decide +kernel
theorem dX2_never_32 : decode cX2_never 32 = .ok (.iinc 2 1, 3) := by decide +kernel
theorem dX2_never_35 : decode cX2_never 35 = .ok (.goto (-31), 3) := by decide +kernel
theorem dX2_never_38 : decode cX2_never 38 = .ok (.iload_n 1, 1) := by decide +kernel
theorem dX2_never_39 : decode cX2_never 39 = .ok (.ireturn, 1) := by decide +kernel
theorem dX2_felt_0 : decode cX2_felt 0 = .ok (.aload_n 0, 1) := by decide +kernel
theorem dX2_felt_1 : decode cX2_felt 1 = .ok (.getfield 12, 3) := by decide +kernel
theorem dX2_felt_4 : decode cX2_felt 4 = .ok (.iload_n 1, 1) := by decide +kernel
theorem dX2_felt_5 : decode cX2_felt 5 = .ok (.invokevirtual 69, 3) := by decide +kernel
theorem dX2_felt_8 : decode cX2_felt 8 = .ok (.ifCond .eq 14, 3) := by decide +kernel
theorem dX2_felt_11 : decode cX2_felt 11 = .ok (.aload_n 0, 1) := by decide +kernel
theorem dX2_felt_12 : decode cX2_felt 12 = .ok (.getfield 12, 3) := by decide +kernel
theorem dX2_felt_15 : decode cX2_felt 15 = .ok (.iload_n 2, 1) := by decide +kernel
theorem dX2_felt_16 : decode cX2_felt 16 = .ok (.invokevirtual 69, 3) := by decide +kernel
theorem dX2_felt_19 : decode cX2_felt 19 = .ok (.ifCond .ne 9, 3) := by decide +kernel
theorem dX2_felt_22 : decode cX2_felt 22 = .ok (.aload_n 0, 1) := by decide +kernel
theorem dX2_felt_23 : decode cX2_felt 23 = .ok (.iconst (-1), 1) := by decide +kernel
theorem dX2_felt_24 : decode cX2_felt 24 = .ok (.invokevirtual 53, 3) := by decide +kernel
theorem dX2_felt_27 : decode cX2_felt 27 = .ok (.ireturn, 1) := by decide +kernel
theorem dX2_felt_28 : decode cX2_felt 28 = .ok (.aload_n 0, 1) := by decide +kernel
theorem dX2_felt_29 : decode cX2_felt 29 = .ok (.getfield 22, 3) := by decide +kernel
theorem dX2_felt_32 : decode cX2_felt 32 = .ok (.aload_n 0, 1) := by decide +kernel
theorem dX2_felt_33 : decode cX2_felt 33 = .ok (.getfield 12, 3) := by decide +kernel
theorem dX2_felt_36 : decode cX2_felt 36 = .ok (.invokevirtual 106, 3) := by decide +kernel
theorem dX2_felt_39 : decode cX2_felt 39 = .ok (.aload_n 0, 1) := by decide +kernel
theorem dX2_felt_40 : decode cX2_felt 40 = .ok (.getfield 19, 3) := by decide +kernel
theorem dX2_felt_43 : decode cX2_felt 43 = .ok (.aload_n 0, 1) := by decide +kernel
theorem dX2_felt_44 : decode cX2_felt 44 = .ok (.getfield 12, 3) := by decide +kernel
theorem dX2_felt_47 : decode cX2_felt 47 = .ok (.invokevirtual 106, 3) := by decide +kernel
theorem dX2_felt_50 : decode cX2_felt 50 = .ok (.aload_n 0, 1) := by decide +kernel
theorem dX2_felt_51 : decode cX2_felt 51 = .ok (.getfield 19, 3) := by decide +kernel
theorem dX2_felt_54 : decode cX2_felt 54 = .ok (.iload_n 1, 1) := by decide +kernel
theorem dX2_felt_55 : decode cX2_felt 55 = .ok (.putfield 132, 3) := by decide +kernel
theorem dX2_felt_58 : decode cX2_felt 58 = .ok (.iconst 1, 1) := by decide +kernel
theorem dX2_felt_59 : decode cX2_felt 59 = .ok (.istore_n 3, 1) := by decide +kernel
theorem dX2_felt_60 : decode cX2_felt 60 = .ok (.iload_n 3, 1) := by decide +kernel
theorem dX2_felt_61 : decode cX2_felt 61 = .ok (.bipush 40, 2) := by decide +kernel
theorem dX2_felt_63 : decode cX2_felt 63 = .ok (.if_icmp .gt 46, 3) := by decide +kernel
theorem dX2_felt_66 : decode cX2_felt 66 = .ok (.aload_n 0, 1) := by decide +kernel
theorem dX2_felt_67 : decode cX2_felt 67 = .ok (.getfield 22, 3) := by decide +kernel
theorem dX2_felt_70 : decode cX2_felt 70 = .ok (.invokevirtual 100, 3) := by decide +kernel
theorem dX2_felt_73 : decode cX2_felt 73 = .ok (.aload_n 0, 1) := by decide +kernel
theorem dX2_felt_74 : decode cX2_felt 74 = .ok (.getfield 19, 3) := by decide +kernel
theorem dX2_felt_77 : decode cX2_felt 77 = .ok (.invokevirtual 100, 3) := by decide +kernel
theorem dX2_felt_80 : decode cX2_felt 80 = .ok (.aload_n 0, 1) := by decide +kernel
theorem dX2_felt_81 : decode cX2_felt 81 = .ok (.getfield 19, 3) := by decide +kernel
theorem dX2_felt_84 : decode cX2_felt 84 = .ok (.getfield 76, 3) := by decide +kernel
theorem dX2_felt_87 : decode cX2_felt 87 = .ok (.iload_n 2, 1) := by decide +kernel
theorem dX2_felt_88 : decode cX2_felt 88 = .ok (.iaload, 1) := by decide +kernel
theorem dX2_felt_89 : decode cX2_felt 89 = .ok (.aload_n 0, 1) := by decide +kernel
theorem dX2_felt_90 : decode cX2_felt 90 = .ok (.getfield 22, 3) := by decide +kernel
theorem dX2_felt_93 : decode cX2_felt 93 = .ok (.getfield 76, 3) := by decide +kernel
theorem dX2_felt_96 : decode cX2_felt 96 = .ok (.iload_n 2, 1) := by decide +kernel
theorem dX2_felt_97 : decode cX2_felt 97 = .ok (.iaload, 1) := by decide +kernel
theorem dX2_felt_98 : decode cX2_felt 98 = .ok (.if_icmp .eq 5, 3) := by decide +kernel
theorem dX2_felt_101 : decode cX2_felt 101 = .ok (.iload_n 3, 1) := by decide +kernel
theorem dX2_felt_102 : decode cX2_felt 102 = .ok (.ireturn, 1) := by decide +kernel
theorem dX2_felt_103 : decode cX2_felt 103 = .ok (.iinc 3 1, 3) := by decide +kernel
theorem dX2_felt_106 : decode cX2_felt 106 = .ok (.goto (-46), 3) := by decide +kernel
theorem dX2_felt_109 : decode cX2_felt 109 = .ok (.bipush (-9), 2) := by decide +kernel
theorem dX2_felt_111 : decode cX2_felt 111 = .ok (.ireturn, 1) := by decide +kernel
theorem dX2_worth_0 : decode cX2_worth 0 = .ok (.aload_n 0, 1) := by decide +kernel
theorem dX2_worth_1 : decode cX2_worth 1 = .ok (.getfield 12, 3) := by decide +kernel
theorem dX2_worth_4 : decode cX2_worth 4 = .ok (.iload_n 1, 1) := by decide +kernel
theorem dX2_worth_5 : decode cX2_worth 5 = .ok (.invokevirtual 69, 3) := by decide +kernel
theorem dX2_worth_8 : decode cX2_worth 8 = .ok (.iload_n 2, 1) := by decide +kernel
theorem dX2_worth_9 : decode cX2_worth 9 = .ok (.iconst 0, 1) := by decide +kernel
theorem dX2_worth_10 : decode cX2_worth 10 = .ok (.bipush 60, 2) := by decide +kernel
theorem dX2_worth_12 : decode cX2_worth 12 = .ok (.invokestatic 45, 3) := by decide +kernel
theorem dX2_worth_15 : decode cX2_worth 15 = .ok (.istore_n 3, 1) := by decide +kernel
theorem dX2_worth_16 : decode cX2_worth 16 = .ok (.iload_n 3, 1) := by decide +kernel
theorem dX2_worth_17 : decode cX2_worth 17 = .ok (.ifCond .eq 12, 3) := by decide +kernel
theorem dX2_worth_20 : decode cX2_worth 20 = .ok (.ldc 135, 2) := by decide +kernel
theorem dX2_worth_22 : decode cX2_worth 22 = .ok (.aload_n 0, 1) := by decide +kernel
theorem dX2_worth_23 : decode cX2_worth 23 = .ok (.iload_n 3, 1) := by decide +kernel
theorem dX2_worth_24 : decode cX2_worth 24 = .ok (.invokevirtual 53, 3) := by decide +kernel
theorem dX2_worth_27 : decode cX2_worth 27 = .ok (.isub, 1) := by decide +kernel
theorem dX2_worth_28 : decode cX2_worth 28 = .ok (.ireturn, 1) := by decide +kernel
theorem dX2_worth_29 : decode cX2_worth 29 = .ok (.aload_n 0, 1) := by decide +kernel
theorem dX2_worth_30 : decode cX2_worth 30 = .ok (.getfield 22, 3) := by decide +kernel
theorem dX2_worth_33 : decode cX2_worth 33 = .ok (.aload_n 0, 1) := by decide +kernel
theorem dX2_worth_34 : decode cX2_worth 34 = .ok (.getfield 12, 3) := by decide +kernel
theorem dX2_worth_37 : decode cX2_worth 37 = .ok (.invokevirtual 106, 3) := by decide +kernel
theorem dX2_worth_40 : decode cX2_worth 40 = .ok (.aload_n 0, 1) := by decide +kernel
theorem dX2_worth_41 : decode cX2_worth 41 = .ok (.getfield 19, 3) := by decide +kernel
theorem dX2_worth_44 : decode cX2_worth 44 = .ok (.aload_n 0, 1) := by decide +kernel
theorem dX2_worth_45 : decode cX2_worth 45 = .ok (.getfield 12, 3) := by decide +kernel
theorem dX2_worth_48 : decode cX2_worth 48 = .ok (.invokevirtual 106, 3) := by decide +kernel
theorem dX2_worth_51 : decode cX2_worth 51 = .ok (.aload_n 0, 1) := by decide +kernel
theorem dX2_worth_52 : decode cX2_worth 52 = .ok (.getfield 19, 3) := by decide +kernel
theorem dX2_worth_55 : decode cX2_worth 55 = .ok (.iload_n 1, 1) := by decide +kernel
theorem dX2_worth_56 : decode cX2_worth 56 = .ok (.putfield 132, 3) := by decide +kernel
theorem dX2_worth_59 : decode cX2_worth 59 = .ok (.aload_n 0, 1) := by decide +kernel
theorem dX2_worth_60 : decode cX2_worth 60 = .ok (.getfield 19, 3) := by decide +kernel
theorem dX2_worth_63 : decode cX2_worth 63 = .ok (.iload_n 2, 1) := by decide +kernel
theorem dX2_worth_64 : decode cX2_worth 64 = .ok (.invokevirtual 110, 3) := by decide +kernel
theorem dX2_worth_67 : decode cX2_worth 67 = .ok (.aload_n 0, 1) := by decide +kernel
theorem dX2_worth_68 : decode cX2_worth 68 = .ok (.getfield 22, 3) := by decide +kernel
theorem dX2_worth_71 : decode cX2_worth 71 = .ok (.iload_n 2, 1) := by decide +kernel
theorem dX2_worth_72 : decode cX2_worth 72 = .ok (.invokevirtual 110, 3) := by decide +kernel
theorem dX2_worth_75 : decode cX2_worth 75 = .ok (.isub, 1) := by decide +kernel
theorem dX2_worth_76 : decode cX2_worth 76 = .ok (.ireturn, 1) := by decide +kernel
theorem dX2_bestMap_0 : decode cX2_bestMap 0 = .ok (.iload_n 2, 1) := by decide +kernel
theorem dX2_bestMap_1 : decode cX2_bestMap 1 = .ok (.iconst (-1), 1) := by decide +kernel
theorem dX2_bestMap_2 : decode cX2_bestMap 2 = .ok (.if_icmp .eq 14, 3) := by decide +kernel
theorem dX2_bestMap_5 : decode cX2_bestMap 5 = .ok (.aload_n 0, 1) := by decide +kernel
theorem dX2_bestMap_6 : decode cX2_bestMap 6 = .ok (.getfield 12, 3) := by decide +kernel
theorem dX2_bestMap_9 : decode cX2_bestMap 9 = .ok (.iload_n 2, 1) := by decide +kernel
theorem dX2_bestMap_10 : decode cX2_bestMap 10 = .ok (.invokevirtual 69, 3) := by decide +kernel
theorem dX2_bestMap_13 : decode cX2_bestMap 13 = .ok (.ifCond .eq 7, 3) := by decide +kernel
theorem dX2_bestMap_16 : decode cX2_bestMap 16 = .ok (.iconst 1, 1) := by decide +kernel
theorem dX2_bestMap_17 : decode cX2_bestMap 17 = .ok (.goto 4, 3) := by decide +kernel
theorem dX2_bestMap_20 : decode cX2_bestMap 20 = .ok (.iconst 0, 1) := by decide +kernel
theorem dX2_bestMap_21 : decode cX2_bestMap 21 = .ok (.iload_n 1, 1) := by decide +kernel
theorem dX2_bestMap_22 : decode cX2_bestMap 22 = .ok (.iconst 1, 1) := by decide +kernel
theorem dX2_bestMap_23 : decode cX2_bestMap 23 = .ok (.bipush 30, 2) := by decide +kernel
theorem dX2_bestMap_25 : decode cX2_bestMap 25 = .ok (.invokestatic 45, 3) := by decide +kernel
theorem dX2_bestMap_28 : decode cX2_bestMap 28 = .ok (.istore_n 3, 1) := by decide +kernel
theorem dX2_bestMap_29 : decode cX2_bestMap 29 = .ok (.iload_n 3, 1) := by decide +kernel
theorem dX2_bestMap_30 : decode cX2_bestMap 30 = .ok (.ifCond .eq 9, 3) := by decide +kernel
theorem dX2_bestMap_33 : decode cX2_bestMap 33 = .ok (.aload_n 0, 1) := by decide +kernel
theorem dX2_bestMap_34 : decode cX2_bestMap 34 = .ok (.iload_n 3, 1) := by decide +kernel
theorem dX2_bestMap_35 : decode cX2_bestMap 35 = .ok (.invokevirtual 53, 3) := by decide +kernel
theorem dX2_bestMap_38 : decode cX2_bestMap 38 = .ok (.ireturn, 1) := by decide +kernel
theorem dX2_bestMap_39 : decode cX2_bestMap 39 = .ok (.aload_n 0, 1) := by decide +kernel
theorem dX2_bestMap_40 : decode cX2_bestMap 40 = .ok (.iload_n 1, 1) := by decide +kernel
theorem dX2_bestMap_41 : decode cX2_bestMap 41 = .ok (.invokevirtual 136, 3) := by decide +kernel
theorem dX2_bestMap_44 : decode cX2_bestMap 44 = .ok (.istore 4, 2) := by decide +kernel
theorem dX2_bestMap_46 : decode cX2_bestMap 46 = .ok (.aload_n 0, 1) := by decide +kernel
theorem dX2_bestMap_47 : decode cX2_bestMap 47 = .ok (.getfield 12, 3) := by decide +kernel
theorem dX2_bestMap_50 : decode cX2_bestMap 50 = .ok (.iload_n 2, 1) := by decide +kernel
theorem dX2_bestMap_51 : decode cX2_bestMap 51 = .ok (.invokevirtual 69, 3) := by decide +kernel
theorem dX2_bestMap_54 : decode cX2_bestMap 54 = .ok (.ifCond .eq 12, 3) := by decide +kernel
theorem dX2_bestMap_57 : decode cX2_bestMap 57 = .ok (.aload_n 0, 1) := by decide +kernel
theorem dX2_bestMap_58 : decode cX2_bestMap 58 = .ok (.getfield 36, 3) := by decide +kernel
theorem dX2_bestMap_61 : decode cX2_bestMap 61 = .ok (.iload_n 2, 1) := by decide +kernel
theorem dX2_bestMap_62 : decode cX2_bestMap 62 = .ok (.iaload, 1) := by decide +kernel
theorem dX2_bestMap_63 : decode cX2_bestMap 63 = .ok (.goto 5, 3) := by decide +kernel
theorem dX2_bestMap_66 : decode cX2_bestMap 66 = .ok (.iload 4, 2) := by decide +kernel
theorem dX2_bestMap_68 : decode cX2_bestMap 68 = .ok (.ireturn, 1) := by decide +kernel
theorem dX2_change_0 : decode cX2_change 0 = .ok (.iconst 1, 1) := by decide +kernel
theorem dX2_change_1 : decode cX2_change 1 = .ok (.iload_n 1, 1) := by decide +kernel
theorem dX2_change_2 : decode cX2_change 2 = .ok (.iconst 1, 1) := by decide +kernel
theorem dX2_change_3 : decode cX2_change 3 = .ok (.bipush 30, 2) := by decide +kernel
theorem dX2_change_5 : decode cX2_change 5 = .ok (.invokestatic 45, 3) := by decide +kernel
theorem dX2_change_8 : decode cX2_change 8 = .ok (.istore_n 2, 1) := by decide +kernel
theorem dX2_change_9 : decode cX2_change 9 = .ok (.iload_n 2, 1) := by decide +kernel
theorem dX2_change_10 : decode cX2_change 10 = .ok (.ifCond .eq 9, 3) := by decide +kernel
theorem dX2_change_13 : decode cX2_change 13 = .ok (.aload_n 0, 1) := by decide +kernel
theorem dX2_change_14 : decode cX2_change 14 = .ok (.iload_n 2, 1) := by decide +kernel
theorem dX2_change_15 : decode cX2_change 15 = .ok (.invokevirtual 53, 3) := by decide +kernel
theorem dX2_change_18 : decode cX2_change 18 = .ok (.ireturn, 1) := by decide +kernel
theorem dX2_change_19 : decode cX2_change 19 = .ok (.aload_n 0, 1) := by decide +kernel
theorem dX2_change_20 : decode cX2_change 20 = .ok (.getfield 19, 3) := by decide +kernel
theorem dX2_change_23 : decode cX2_change 23 = .ok (.aload_n 0, 1) := by decide +kernel
theorem dX2_change_24 : decode cX2_change 24 = .ok (.getfield 12, 3) := by decide +kernel
theorem dX2_change_27 : decode cX2_change 27 = .ok (.invokevirtual 106, 3) := by decide +kernel
theorem dX2_change_30 : decode cX2_change 30 = .ok (.aload_n 0, 1) := by decide +kernel
theorem dX2_change_31 : decode cX2_change 31 = .ok (.getfield 19, 3) := by decide +kernel
theorem dX2_change_34 : decode cX2_change 34 = .ok (.iload_n 1, 1) := by decide +kernel
theorem dX2_change_35 : decode cX2_change 35 = .ok (.invokevirtual 110, 3) := by decide +kernel
theorem dX2_change_38 : decode cX2_change 38 = .ok (.istore_n 3, 1) := by decide +kernel
theorem dX2_change_39 : decode cX2_change 39 = .ok (.bipush (-9), 2) := by decide +kernel
theorem dX2_change_41 : decode cX2_change 41 = .ok (.istore 4, 2) := by decide +kernel
theorem dX2_change_43 : decode cX2_change 43 = .ok (.iconst 0, 1) := by decide +kernel
theorem dX2_change_44 : decode cX2_change 44 = .ok (.istore 5, 2) := by decide +kernel
theorem dX2_change_46 : decode cX2_change 46 = .ok (.iload 5, 2) := by decide +kernel
theorem dX2_change_48 : decode cX2_change 48 = .ok (.aload_n 0, 1) := by decide +kernel
theorem dX2_change_49 : decode cX2_change 49 = .ok (.getfield 12, 3) := by decide +kernel
theorem dX2_change_52 : decode cX2_change 52 = .ok (.getfield 120, 3) := by decide +kernel
theorem dX2_change_55 : decode cX2_change 55 = .ok (.if_icmp .ge 82, 3) := by decide +kernel
theorem dX2_change_58 : decode cX2_change 58 = .ok (.iconst 0, 1) := by decide +kernel
theorem dX2_change_59 : decode cX2_change 59 = .ok (.istore 6, 2) := by decide +kernel
theorem dX2_change_61 : decode cX2_change 61 = .ok (.iload 6, 2) := by decide +kernel
theorem dX2_change_63 : decode cX2_change 63 = .ok (.aload_n 0, 1) := by decide +kernel
theorem dX2_change_64 : decode cX2_change 64 = .ok (.getfield 12, 3) := by decide +kernel
theorem dX2_change_67 : decode cX2_change 67 = .ok (.getfield 120, 3) := by decide +kernel
theorem dX2_change_70 : decode cX2_change 70 = .ok (.if_icmp .ge 61, 3) := by decide +kernel
theorem dX2_change_73 : decode cX2_change 73 = .ok (.aload_n 0, 1) := by decide +kernel
theorem dX2_change_74 : decode cX2_change 74 = .ok (.getfield 19, 3) := by decide +kernel
theorem dX2_change_77 : decode cX2_change 77 = .ok (.aload_n 0, 1) := by decide +kernel
theorem dX2_change_78 : decode cX2_change 78 = .ok (.getfield 12, 3) := by decide +kernel
theorem dX2_change_81 : decode cX2_change 81 = .ok (.invokevirtual 106, 3) := by decide +kernel
theorem dX2_change_84 : decode cX2_change 84 = .ok (.aload_n 0, 1) := by decide +kernel
theorem dX2_change_85 : decode cX2_change 85 = .ok (.getfield 19, 3) := by decide +kernel
theorem dX2_change_88 : decode cX2_change 88 = .ok (.getfield 88, 3) := by decide +kernel
theorem dX2_change_91 : decode cX2_change 91 = .ok (.iload 5, 2) := by decide +kernel
theorem dX2_change_93 : decode cX2_change 93 = .ok (.iload 6, 2) := by decide +kernel
theorem dX2_change_95 : decode cX2_change 95 = .ok (.iastore, 1) := by decide +kernel
theorem dX2_change_96 : decode cX2_change 96 = .ok (.aload_n 0, 1) := by decide +kernel
theorem dX2_change_97 : decode cX2_change 97 = .ok (.getfield 19, 3) := by decide +kernel
theorem dX2_change_100 : decode cX2_change 100 = .ok (.iload_n 1, 1) := by decide +kernel
theorem dX2_change_101 : decode cX2_change 101 = .ok (.invokevirtual 110, 3) := by decide +kernel
theorem dX2_change_104 : decode cX2_change 104 = .ok (.istore 7, 2) := by decide +kernel
theorem dX2_change_106 : decode cX2_change 106 = .ok (.iload 7, 2) := by decide +kernel
theorem dX2_change_108 : decode cX2_change 108 = .ok (.iload_n 3, 1) := by decide +kernel
theorem dX2_change_109 : decode cX2_change 109 = .ok (.if_icmp .ge 16, 3) := by decide +kernel
theorem dX2_change_112 : decode cX2_change 112 = .ok (.iload 7, 2) := by decide +kernel
theorem dX2_change_114 : decode cX2_change 114 = .ok (.istore_n 3, 1) := by decide +kernel
theorem dX2_change_115 : decode cX2_change 115 = .ok (.bipush 10, 2) := by decide +kernel
theorem dX2_change_117 : decode cX2_change 117 = .ok (.iload 5, 2) := by decide +kernel
theorem dX2_change_119 : decode cX2_change 119 = .ok (.imul, 1) := by decide +kernel
theorem dX2_change_120 : decode cX2_change 120 = .ok (.iload 6, 2) := by decide +kernel
theorem dX2_change_122 : decode cX2_change 122 = .ok (.iadd, 1) := by decide +kernel
theorem dX2_change_123 : decode cX2_change 123 = .ok (.istore 4, 2) := by decide +kernel
theorem dX2_change_125 : decode cX2_change 125 = .ok (.iinc 6 1, 3) := by decide +kernel
theorem dX2_change_128 : decode cX2_change 128 = .ok (.goto (-67), 3) := by decide +kernel
theorem dX2_change_131 : decode cX2_change 131 = .ok (.iinc 5 1, 3) := by decide +kernel
theorem dX2_change_134 : decode cX2_change 134 = .ok (.goto (-88), 3) := by decide +kernel
theorem dX2_change_137 : decode cX2_change 137 = .ok (.iload 4, 2) := by decide +kernel
theorem dX2_change_139 : decode cX2_change 139 = .ok (.ireturn, 1) := by decide +kernel
theorem dX2_cure_0 : decode cX2_cure 0 = .ok (.aload_n 0, 1) := by decide +kernel
theorem dX2_cure_1 : decode cX2_cure 1 = .ok (.getfield 12, 3) := by decide +kernel
theorem dX2_cure_4 : decode cX2_cure 4 = .ok (.iload_n 1, 1) := by decide +kernel
theorem dX2_cure_5 : decode cX2_cure 5 = .ok (.invokevirtual 69, 3) := by decide +kernel
theorem dX2_cure_8 : decode cX2_cure 8 = .ok (.iload_n 2, 1) := by decide +kernel
theorem dX2_cure_9 : decode cX2_cure 9 = .ok (.iconst 1, 1) := by decide +kernel
theorem dX2_cure_10 : decode cX2_cure 10 = .ok (.bipush 30, 2) := by decide +kernel
theorem dX2_cure_12 : decode cX2_cure 12 = .ok (.invokestatic 45, 3) := by decide +kernel
theorem dX2_cure_15 : decode cX2_cure 15 = .ok (.istore_n 3, 1) := by decide +kernel
theorem dX2_cure_16 : decode cX2_cure 16 = .ok (.iload_n 3, 1) := by decide +kernel
theorem dX2_cure_17 : decode cX2_cure 17 = .ok (.ifCond .eq 9, 3) := by decide +kernel
theorem dX2_cure_20 : decode cX2_cure 20 = .ok (.aload_n 0, 1) := by decide +kernel
theorem dX2_cure_21 : decode cX2_cure 21 = .ok (.iload_n 3, 1) := by decide +kernel
theorem dX2_cure_22 : decode cX2_cure 22 = .ok (.invokevirtual 53, 3) := by decide +kernel
theorem dX2_cure_25 : decode cX2_cure 25 = .ok (.ireturn, 1) := by decide +kernel
theorem dX2_cure_26 : decode cX2_cure 26 = .ok (.bipush 55, 2) := by decide +kernel
theorem dX2_cure_28 : decode cX2_cure 28 = .ok (.istore 4, 2) := by decide +kernel
theorem dX2_cure_30 : decode cX2_cure 30 = .ok (.iconst 0, 1) := by decide +kernel
theorem dX2_cure_31 : decode cX2_cure 31 = .ok (.istore 5, 2) := by decide +kernel
theorem dX2_cure_33 : decode cX2_cure 33 = .ok (.iconst 0, 1) := by decide +kernel
theorem dX2_cure_34 : decode cX2_cure 34 = .ok (.istore 6, 2) := by decide +kernel
theorem dX2_cure_36 : decode cX2_cure 36 = .ok (.iload 6, 2) := by decide +kernel
theorem dX2_cure_38 : decode cX2_cure 38 = .ok (.bipush 6, 2) := by decide +kernel
theorem dX2_cure_40 : decode cX2_cure 40 = .ok (.if_icmp .ge 56, 3) := by decide +kernel
theorem dX2_cure_43 : decode cX2_cure 43 = .ok (.aload_n 0, 1) := by decide +kernel
theorem dX2_cure_44 : decode cX2_cure 44 = .ok (.getfield 19, 3) := by decide +kernel
theorem dX2_cure_47 : decode cX2_cure 47 = .ok (.aload_n 0, 1) := by decide +kernel
theorem dX2_cure_48 : decode cX2_cure 48 = .ok (.getfield 12, 3) := by decide +kernel
theorem dX2_cure_51 : decode cX2_cure 51 = .ok (.invokevirtual 106, 3) := by decide +kernel
theorem dX2_cure_54 : decode cX2_cure 54 = .ok (.aload_n 0, 1) := by decide +kernel
theorem dX2_cure_55 : decode cX2_cure 55 = .ok (.getfield 19, 3) := by decide +kernel
theorem dX2_cure_58 : decode cX2_cure 58 = .ok (.getfield 73, 3) := by decide +kernel
theorem dX2_cure_61 : decode cX2_cure 61 = .ok (.iload_n 1, 1) := by decide +kernel
theorem dX2_cure_62 : decode cX2_cure 62 = .ok (.iload 6, 2) := by decide +kernel
theorem dX2_cure_64 : decode cX2_cure 64 = .ok (.iastore, 1) := by decide +kernel
theorem dX2_cure_65 : decode cX2_cure 65 = .ok (.aload_n 0, 1) := by decide +kernel
theorem dX2_cure_66 : decode cX2_cure 66 = .ok (.getfield 19, 3) := by decide +kernel
theorem dX2_cure_69 : decode cX2_cure 69 = .ok (.iload_n 2, 1) := by decide +kernel
theorem dX2_cure_70 : decode cX2_cure 70 = .ok (.invokevirtual 110, 3) := by decide +kernel
theorem dX2_cure_73 : decode cX2_cure 73 = .ok (.istore 7, 2) := by decide +kernel
theorem dX2_cure_75 : decode cX2_cure 75 = .ok (.iload 7, 2) := by decide +kernel
theorem dX2_cure_77 : decode cX2_cure 77 = .ok (.iload 4, 2) := by decide +kernel
theorem dX2_cure_79 : decode cX2_cure 79 = .ok (.if_icmp .ge 11, 3) := by decide +kernel
theorem dX2_cure_82 : decode cX2_cure 82 = .ok (.iload 7, 2) := by decide +kernel
theorem dX2_cure_84 : decode cX2_cure 84 = .ok (.istore 4, 2) := by decide +kernel
theorem dX2_cure_86 : decode cX2_cure 86 = .ok (.iload 6, 2) := by decide +kernel
theorem dX2_cure_88 : decode cX2_cure 88 = .ok (.istore 5, 2) := by decide +kernel
theorem dX2_cure_90 : decode cX2_cure 90 = .ok (.iinc 6 1, 3) := by decide +kernel
theorem dX2_cure_93 : decode cX2_cure 93 = .ok (.goto (-57), 3) := by decide +kernel
theorem dX2_cure_96 : decode cX2_cure 96 = .ok (.iload 5, 2) := by decide +kernel
theorem dX2_cure_98 : decode cX2_cure 98 = .ok (.ireturn, 1) := by decide +kernel
theorem dX2_putIn_0 : decode cX2_putIn 0 = .ok (.aload_n 0, 1) := by decide +kernel
theorem dX2_putIn_1 : decode cX2_putIn 1 = .ok (.getfield 12, 3) := by decide +kernel
theorem dX2_putIn_4 : decode cX2_putIn 4 = .ok (.iload_n 1, 1) := by decide +kernel
theorem dX2_putIn_5 : decode cX2_putIn 5 = .ok (.invokevirtual 69, 3) := by decide +kernel
theorem dX2_putIn_8 : decode cX2_putIn 8 = .ok (.ifCond .ne 9, 3) := by decide +kernel
theorem dX2_putIn_11 : decode cX2_putIn 11 = .ok (.aload_n 0, 1) := by decide +kernel
theorem dX2_putIn_12 : decode cX2_putIn 12 = .ok (.iconst (-1), 1) := by decide +kernel
theorem dX2_putIn_13 : decode cX2_putIn 13 = .ok (.invokevirtual 53, 3) := by decide +kernel
theorem dX2_putIn_16 : decode cX2_putIn 16 = .ok (.ireturn, 1) := by decide +kernel
theorem dX2_putIn_17 : decode cX2_putIn 17 = .ok (.iload_n 2, 1) := by decide +kernel
theorem dX2_putIn_18 : decode cX2_putIn 18 = .ok (.ifCond .lt 8, 3) := by decide +kernel
theorem dX2_putIn_21 : decode cX2_putIn 21 = .ok (.iload_n 3, 1) := by decide +kernel
theorem dX2_putIn_22 : decode cX2_putIn 22 = .ok (.iconst 1, 1) := by decide +kernel
theorem dX2_putIn_23 : decode cX2_putIn 23 = .ok (.if_icmp .ge 10, 3) := by decide +kernel
theorem dX2_putIn_26 : decode cX2_putIn 26 = .ok (.aload_n 0, 1) := by decide +kernel
theorem dX2_putIn_27 : decode cX2_putIn 27 = .ok (.bipush (-4), 2) := by decide +kernel
theorem dX2_putIn_29 : decode cX2_putIn 29 = .ok (.invokevirtual 53, 3) := by decide +kernel
theorem dX2_putIn_32 : decode cX2_putIn 32 = .ok (.ireturn, 1) := by decide +kernel
theorem dX2_putIn_33 : decode cX2_putIn 33 = .ok (.iload_n 2, 1) := by decide +kernel
theorem dX2_putIn_34 : decode cX2_putIn 34 = .ok (.iconst 4, 1) := by decide +kernel
theorem dX2_putIn_35 : decode cX2_putIn 35 = .ok (.if_icmp .gt 19, 3) := by decide +kernel
theorem dX2_putIn_38 : decode cX2_putIn 38 = .ok (.iload_n 3, 1) := by decide +kernel
theorem dX2_putIn_39 : decode cX2_putIn 39 = .ok (.bipush 30, 2) := by decide +kernel
theorem dX2_putIn_41 : decode cX2_putIn 41 = .ok (.if_icmp .gt 13, 3) := by decide +kernel
theorem dX2_putIn_44 : decode cX2_putIn 44 = .ok (.aload_n 0, 1) := by decide +kernel
theorem dX2_putIn_45 : decode cX2_putIn 45 = .ok (.getfield 12, 3) := by decide +kernel
theorem dX2_putIn_48 : decode cX2_putIn 48 = .ok (.invokevirtual 139, 3) := by decide +kernel
theorem dX2_putIn_51 : decode cX2_putIn 51 = .ok (.ifCond .eq 10, 3) := by decide +kernel
theorem dX2_putIn_54 : decode cX2_putIn 54 = .ok (.aload_n 0, 1) := by decide +kernel
theorem dX2_putIn_55 : decode cX2_putIn 55 = .ok (.bipush (-6), 2) := by decide +kernel
theorem dX2_putIn_57 : decode cX2_putIn 57 = .ok (.invokevirtual 53, 3) := by decide +kernel
theorem dX2_putIn_60 : decode cX2_putIn 60 = .ok (.ireturn, 1) := by decide +kernel
theorem dX2_putIn_61 : decode cX2_putIn 61 = .ok (.aload_n 0, 1) := by decide +kernel
theorem dX2_putIn_62 : decode cX2_putIn 62 = .ok (.getfield 19, 3) := by decide +kernel
theorem dX2_putIn_65 : decode cX2_putIn 65 = .ok (.aload_n 0, 1) := by decide +kernel
theorem dX2_putIn_66 : decode cX2_putIn 66 = .ok (.getfield 12, 3) := by decide +kernel
theorem dX2_putIn_69 : decode cX2_putIn 69 = .ok (.invokevirtual 106, 3) := by decide +kernel
theorem dX2_putIn_72 : decode cX2_putIn 72 = .ok (.aload_n 0, 1) := by decide +kernel
theorem dX2_putIn_73 : decode cX2_putIn 73 = .ok (.getfield 19, 3) := by decide +kernel
theorem dX2_putIn_76 : decode cX2_putIn 76 = .ok (.iload_n 1, 1) := by decide +kernel
theorem dX2_putIn_77 : decode cX2_putIn 77 = .ok (.iload_n 2, 1) := by decide +kernel
theorem dX2_putIn_78 : decode cX2_putIn 78 = .ok (.invokevirtual 140, 3) := by decide +kernel
theorem dX2_putIn_81 : decode cX2_putIn 81 = .ok (.aload_n 0, 1) := by decide +kernel
theorem dX2_putIn_82 : decode cX2_putIn 82 = .ok (.getfield 19, 3) := by decide +kernel
theorem dX2_putIn_85 : decode cX2_putIn 85 = .ok (.iload_n 3, 1) := by decide +kernel
theorem dX2_putIn_86 : decode cX2_putIn 86 = .ok (.invokevirtual 110, 3) := by decide +kernel
theorem dX2_putIn_89 : decode cX2_putIn 89 = .ok (.ireturn, 1) := by decide +kernel
theorem dX2_takeOut_0 : decode cX2_takeOut 0 = .ok (.aload_n 0, 1) := by decide +kernel
theorem dX2_takeOut_1 : decode cX2_takeOut 1 = .ok (.getfield 12, 3) := by decide +kernel
theorem dX2_takeOut_4 : decode cX2_takeOut 4 = .ok (.iload_n 1, 1) := by decide +kernel
theorem dX2_takeOut_5 : decode cX2_takeOut 5 = .ok (.invokevirtual 69, 3) := by decide +kernel
theorem dX2_takeOut_8 : decode cX2_takeOut 8 = .ok (.iload_n 2, 1) := by decide +kernel
theorem dX2_takeOut_9 : decode cX2_takeOut 9 = .ok (.iconst 1, 1) := by decide +kernel
theorem dX2_takeOut_10 : decode cX2_takeOut 10 = .ok (.bipush 30, 2) := by decide +kernel
theorem dX2_takeOut_12 : decode cX2_takeOut 12 = .ok (.invokestatic 45, 3) := by decide +kernel
theorem dX2_takeOut_15 : decode cX2_takeOut 15 = .ok (.istore_n 3, 1) := by decide +kernel
theorem dX2_takeOut_16 : decode cX2_takeOut 16 = .ok (.iload_n 3, 1) := by decide +kernel
theorem dX2_takeOut_17 : decode cX2_takeOut 17 = .ok (.ifCond .eq 9, 3) := by decide +kernel
theorem dX2_takeOut_20 : decode cX2_takeOut 20 = .ok (.aload_n 0, 1) := by decide +kernel
theorem dX2_takeOut_21 : decode cX2_takeOut 21 = .ok (.iload_n 3, 1) := by decide +kernel
theorem dX2_takeOut_22 : decode cX2_takeOut 22 = .ok (.invokevirtual 53, 3) := by decide +kernel
theorem dX2_takeOut_25 : decode cX2_takeOut 25 = .ok (.ireturn, 1) := by decide +kernel
theorem dX2_takeOut_26 : decode cX2_takeOut 26 = .ok (.aload_n 0, 1) := by decide +kernel
theorem dX2_takeOut_27 : decode cX2_takeOut 27 = .ok (.getfield 19, 3) := by decide +kernel
theorem dX2_takeOut_30 : decode cX2_takeOut 30 = .ok (.aload_n 0, 1) := by decide +kernel
theorem dX2_takeOut_31 : decode cX2_takeOut 31 = .ok (.getfield 12, 3) := by decide +kernel
theorem dX2_takeOut_34 : decode cX2_takeOut 34 = .ok (.invokevirtual 106, 3) := by decide +kernel
theorem dX2_takeOut_37 : decode cX2_takeOut 37 = .ok (.aload_n 0, 1) := by decide +kernel
theorem dX2_takeOut_38 : decode cX2_takeOut 38 = .ok (.getfield 19, 3) := by decide +kernel
theorem dX2_takeOut_41 : decode cX2_takeOut 41 = .ok (.iload_n 1, 1) := by decide +kernel
theorem dX2_takeOut_42 : decode cX2_takeOut 42 = .ok (.invokevirtual 144, 3) := by decide +kernel
theorem dX2_takeOut_45 : decode cX2_takeOut 45 = .ok (.aload_n 0, 1) := by decide +kernel
theorem dX2_takeOut_46 : decode cX2_takeOut 46 = .ok (.getfield 19, 3) := by decide +kernel
theorem dX2_takeOut_49 : decode cX2_takeOut 49 = .ok (.iload_n 2, 1) := by decide +kernel
theorem dX2_takeOut_50 : decode cX2_takeOut 50 = .ok (.invokevirtual 110, 3) := by decide +kernel
theorem dX2_takeOut_53 : decode cX2_takeOut 53 = .ok (.istore 4, 2) := by decide +kernel
theorem dX2_takeOut_55 : decode cX2_takeOut 55 = .ok (.iload 4, 2) := by decide +kernel
theorem dX2_takeOut_57 : decode cX2_takeOut 57 = .ok (.aload_n 0, 1) := by decide +kernel
theorem dX2_takeOut_58 : decode cX2_takeOut 58 = .ok (.getfield 19, 3) := by decide +kernel
theorem dX2_takeOut_61 : decode cX2_takeOut 61 = .ok (.iload_n 1, 1) := by decide +kernel
theorem dX2_takeOut_62 : decode cX2_takeOut 62 = .ok (.invokevirtual 148, 3) := by decide +kernel
theorem dX2_takeOut_65 : decode cX2_takeOut 65 = .ok (.isub, 1) := by decide +kernel
theorem dX2_takeOut_66 : decode cX2_takeOut 66 = .ok (.ireturn, 1) := by decide +kernel
theorem dX2_row_0 : decode cX2_row 0 = .ok (.iconst 1, 1) := by decide +kernel
theorem dX2_row_1 : decode cX2_row 1 = .ok (.iload_n 1, 1) := by decide +kernel
theorem dX2_row_2 : decode cX2_row 2 = .ok (.iconst 0, 1) := by decide +kernel
theorem dX2_row_3 : decode cX2_row 3 = .ok (.bipush 9, 2) := by decide +kernel
theorem dX2_row_5 : decode cX2_row 5 = .ok (.invokestatic 45, 3) := by decide +kernel
theorem dX2_row_8 : decode cX2_row 8 = .ok (.istore_n 2, 1) := by decide +kernel
theorem dX2_row_9 : decode cX2_row 9 = .ok (.iload_n 2, 1) := by decide +kernel
theorem dX2_row_10 : decode cX2_row 10 = .ok (.ifCond .ne 18, 3) := by decide +kernel
theorem dX2_row_13 : decode cX2_row 13 = .ok (.aload_n 0, 1) := by decide +kernel
theorem dX2_row_14 : decode cX2_row 14 = .ok (.getfield 151, 3) := by decide +kernel
theorem dX2_row_17 : decode cX2_row 17 = .ok (.aload_n 0, 1) := by decide +kernel
theorem dX2_row_18 : decode cX2_row 18 = .ok (.getfield 39, 3) := by decide +kernel
theorem dX2_row_21 : decode cX2_row 21 = .ok (.arraylength, 1) := by decide +kernel
theorem dX2_row_22 : decode cX2_row 22 = .ok (.if_icmp .lt 6, 3) := by decide +kernel
theorem dX2_row_25 : decode cX2_row 25 = .ok (.bipush (-6), 2) := by decide +kernel
theorem dX2_row_27 : decode cX2_row 27 = .ok (.istore_n 2, 1) := by decide +kernel
theorem dX2_row_28 : decode cX2_row 28 = .ok (.iload_n 2, 1) := by decide +kernel
theorem dX2_row_29 : decode cX2_row 29 = .ok (.ifCond .eq 9, 3) := by decide +kernel
theorem dX2_row_32 : decode cX2_row 32 = .ok (.aload_n 0, 1) := by decide +kernel
theorem dX2_row_33 : decode cX2_row 33 = .ok (.iload_n 2, 1) := by decide +kernel
theorem dX2_row_34 : decode cX2_row 34 = .ok (.invokevirtual 53, 3) := by decide +kernel
theorem dX2_row_37 : decode cX2_row 37 = .ok (.ireturn, 1) := by decide +kernel
theorem dX2_row_38 : decode cX2_row 38 = .ok (.aload_n 0, 1) := by decide +kernel
theorem dX2_row_39 : decode cX2_row 39 = .ok (.getfield 39, 3) := by decide +kernel
theorem dX2_row_42 : decode cX2_row 42 = .ok (.aload_n 0, 1) := by decide +kernel
theorem dX2_row_43 : decode cX2_row 43 = .ok (.getfield 151, 3) := by decide +kernel
theorem dX2_row_46 : decode cX2_row 46 = .ok (.iload_n 1, 1) := by decide +kernel
theorem dX2_row_47 : decode cX2_row 47 = .ok (.iastore, 1) := by decide +kernel
theorem dX2_row_48 : decode cX2_row 48 = .ok (.aload_n 0, 1) := by decide +kernel
theorem dX2_row_49 : decode cX2_row 49 = .ok (.dup, 1) := by decide +kernel
theorem dX2_row_50 : decode cX2_row 50 = .ok (.getfield 151, 3) := by decide +kernel
theorem dX2_row_53 : decode cX2_row 53 = .ok (.iconst 1, 1) := by decide +kernel
theorem dX2_row_54 : decode cX2_row 54 = .ok (.iadd, 1) := by decide +kernel
theorem dX2_row_55 : decode cX2_row 55 = .ok (.putfield 151, 3) := by decide +kernel
theorem dX2_row_58 : decode cX2_row 58 = .ok (.aload_n 0, 1) := by decide +kernel
theorem dX2_row_59 : decode cX2_row 59 = .ok (.getfield 151, 3) := by decide +kernel
theorem dX2_row_62 : decode cX2_row 62 = .ok (.ireturn, 1) := by decide +kernel
theorem dX2_fitting_0 : decode cX2_fitting 0 = .ok (.aload_n 0, 1) := by decide +kernel
theorem dX2_fitting_1 : decode cX2_fitting 1 = .ok (.getfield 12, 3) := by decide +kernel
theorem dX2_fitting_4 : decode cX2_fitting 4 = .ok (.iload_n 1, 1) := by decide +kernel
theorem dX2_fitting_5 : decode cX2_fitting 5 = .ok (.invokevirtual 69, 3) := by decide +kernel
theorem dX2_fitting_8 : decode cX2_fitting 8 = .ok (.iload_n 2, 1) := by decide +kernel
theorem dX2_fitting_9 : decode cX2_fitting 9 = .ok (.iconst 1, 1) := by decide +kernel
theorem dX2_fitting_10 : decode cX2_fitting 10 = .ok (.bipush 30, 2) := by decide +kernel
theorem dX2_fitting_12 : decode cX2_fitting 12 = .ok (.invokestatic 45, 3) := by decide +kernel
theorem dX2_fitting_15 : decode cX2_fitting 15 = .ok (.istore_n 3, 1) := by decide +kernel
theorem dX2_fitting_16 : decode cX2_fitting 16 = .ok (.iload_n 3, 1) := by decide +kernel
theorem dX2_fitting_17 : decode cX2_fitting 17 = .ok (.ifCond .ne 20, 3) := by decide +kernel
theorem dX2_fitting_20 : decode cX2_fitting 20 = .ok (.aload_n 0, 1) := by decide +kernel
theorem dX2_fitting_21 : decode cX2_fitting 21 = .ok (.getfield 151, 3) := by decide +kernel
theorem dX2_fitting_24 : decode cX2_fitting 24 = .ok (.aload_n 0, 1) := by decide +kernel
theorem dX2_fitting_25 : decode cX2_fitting 25 = .ok (.getfield 12, 3) := by decide +kernel
theorem dX2_fitting_28 : decode cX2_fitting 28 = .ok (.getfield 120, 3) := by decide +kernel
theorem dX2_fitting_31 : decode cX2_fitting 31 = .ok (.if_icmp .eq 6, 3) := by decide +kernel
theorem dX2_fitting_34 : decode cX2_fitting 34 = .ok (.bipush (-3), 2) := by decide +kernel
theorem dX2_fitting_36 : decode cX2_fitting 36 = .ok (.istore_n 3, 1) := by decide +kernel
theorem dX2_fitting_37 : decode cX2_fitting 37 = .ok (.iload_n 3, 1) := by decide +kernel
theorem dX2_fitting_38 : decode cX2_fitting 38 = .ok (.ifCond .eq 9, 3) := by decide +kernel
theorem dX2_fitting_41 : decode cX2_fitting 41 = .ok (.aload_n 0, 1) := by decide +kernel
theorem dX2_fitting_42 : decode cX2_fitting 42 = .ok (.iload_n 3, 1) := by decide +kernel
theorem dX2_fitting_43 : decode cX2_fitting 43 = .ok (.invokevirtual 53, 3) := by decide +kernel
theorem dX2_fitting_46 : decode cX2_fitting 46 = .ok (.ireturn, 1) := by decide +kernel
theorem dX2_fitting_47 : decode cX2_fitting 47 = .ok (.iconst 0, 1) := by decide +kernel
theorem dX2_fitting_48 : decode cX2_fitting 48 = .ok (.istore 4, 2) := by decide +kernel
theorem dX2_fitting_50 : decode cX2_fitting 50 = .ok (.iconst 0, 1) := by decide +kernel
theorem dX2_fitting_51 : decode cX2_fitting 51 = .ok (.istore 5, 2) := by decide +kernel
theorem dX2_fitting_53 : decode cX2_fitting 53 = .ok (.iload 5, 2) := by decide +kernel
theorem dX2_fitting_55 : decode cX2_fitting 55 = .ok (.bipush 6, 2) := by decide +kernel
theorem dX2_fitting_57 : decode cX2_fitting 57 = .ok (.if_icmp .ge 62, 3) := by decide +kernel
theorem dX2_fitting_60 : decode cX2_fitting 60 = .ok (.aload_n 0, 1) := by decide +kernel
theorem dX2_fitting_61 : decode cX2_fitting 61 = .ok (.getfield 19, 3) := by decide +kernel
theorem dX2_fitting_64 : decode cX2_fitting 64 = .ok (.aload_n 0, 1) := by decide +kernel
theorem dX2_fitting_65 : decode cX2_fitting 65 = .ok (.getfield 12, 3) := by decide +kernel
theorem dX2_fitting_68 : decode cX2_fitting 68 = .ok (.invokevirtual 106, 3) := by decide +kernel
theorem dX2_fitting_71 : decode cX2_fitting 71 = .ok (.aload_n 0, 1) := by decide +kernel
theorem dX2_fitting_72 : decode cX2_fitting 72 = .ok (.getfield 19, 3) := by decide +kernel
theorem dX2_fitting_75 : decode cX2_fitting 75 = .ok (.getfield 73, 3) := by decide +kernel
theorem dX2_fitting_78 : decode cX2_fitting 78 = .ok (.iload_n 1, 1) := by decide +kernel
theorem dX2_fitting_79 : decode cX2_fitting 79 = .ok (.iload 5, 2) := by decide +kernel
theorem dX2_fitting_81 : decode cX2_fitting 81 = .ok (.iastore, 1) := by decide +kernel
theorem dX2_fitting_82 : decode cX2_fitting 82 = .ok (.aload_n 0, 1) := by decide +kernel
theorem dX2_fitting_83 : decode cX2_fitting 83 = .ok (.getfield 19, 3) := by decide +kernel
theorem dX2_fitting_86 : decode cX2_fitting 86 = .ok (.iload_n 2, 1) := by decide +kernel
theorem dX2_fitting_87 : decode cX2_fitting 87 = .ok (.invokevirtual 110, 3) := by decide +kernel
theorem dX2_fitting_90 : decode cX2_fitting 90 = .ok (.pop, 1) := by decide +kernel
theorem dX2_fitting_91 : decode cX2_fitting 91 = .ok (.aload_n 0, 1) := by decide +kernel
theorem dX2_fitting_92 : decode cX2_fitting 92 = .ok (.aload_n 0, 1) := by decide +kernel
theorem dX2_fitting_93 : decode cX2_fitting 93 = .ok (.getfield 19, 3) := by decide +kernel
theorem dX2_fitting_96 : decode cX2_fitting 96 = .ok (.invokevirtual 154, 3) := by decide +kernel
theorem dX2_fitting_99 : decode cX2_fitting 99 = .ok (.bipush (-9), 2) := by decide +kernel
theorem dX2_fitting_101 : decode cX2_fitting 101 = .ok (.if_icmp .ne 12, 3) := by decide +kernel
theorem dX2_fitting_104 : decode cX2_fitting 104 = .ok (.iload 4, 2) := by decide +kernel
theorem dX2_fitting_106 : decode cX2_fitting 106 = .ok (.iconst 1, 1) := by decide +kernel
theorem dX2_fitting_107 : decode cX2_fitting 107 = .ok (.iload 5, 2) := by decide +kernel
theorem dX2_fitting_109 : decode cX2_fitting 109 = .ok (.ishl, 1) := by decide +kernel
theorem dX2_fitting_110 : decode cX2_fitting 110 = .ok (.ior, 1) := by decide +kernel
theorem dX2_fitting_111 : decode cX2_fitting 111 = .ok (.istore 4, 2) := by decide +kernel
theorem dX2_fitting_113 : decode cX2_fitting 113 = .ok (.iinc 5 1, 3) := by decide +kernel
theorem dX2_fitting_116 : decode cX2_fitting 116 = .ok (.goto (-63), 3) := by decide +kernel
theorem dX2_fitting_119 : decode cX2_fitting 119 = .ok (.iload 4, 2) := by decide +kernel
theorem dX2_fitting_121 : decode cX2_fitting 121 = .ok (.ireturn, 1) := by decide +kernel
theorem dX2_judge_0 : decode cX2_judge 0 = .ok (.aload_n 0, 1) := by decide +kernel
theorem dX2_judge_1 : decode cX2_judge 1 = .ok (.aload_n 0, 1) := by decide +kernel
theorem dX2_judge_2 : decode cX2_judge 2 = .ok (.getfield 12, 3) := by decide +kernel
theorem dX2_judge_5 : decode cX2_judge 5 = .ok (.invokevirtual 154, 3) := by decide +kernel
theorem dX2_judge_8 : decode cX2_judge 8 = .ok (.istore_n 1, 1) := by decide +kernel
theorem dX2_judge_9 : decode cX2_judge 9 = .ok (.aload_n 0, 1) := by decide +kernel
theorem dX2_judge_10 : decode cX2_judge 10 = .ok (.iconst 0, 1) := by decide +kernel
theorem dX2_judge_11 : decode cX2_judge 11 = .ok (.putfield 151, 3) := by decide +kernel
theorem dX2_judge_14 : decode cX2_judge 14 = .ok (.iload_n 1, 1) := by decide +kernel
theorem dX2_judge_15 : decode cX2_judge 15 = .ok (.ireturn, 1) := by decide +kernel
theorem dX2_seeds_0 : decode cX2_seeds 0 = .ok (.iconst 1, 1) := by decide +kernel
theorem dX2_seeds_1 : decode cX2_seeds 1 = .ok (.iload_n 1, 1) := by decide +kernel
theorem dX2_seeds_2 : decode cX2_seeds 2 = .ok (.iconst 1, 1) := by decide +kernel
theorem dX2_seeds_3 : decode cX2_seeds 3 = .ok (.bipush 30, 2) := by decide +kernel
theorem dX2_seeds_5 : decode cX2_seeds 5 = .ok (.invokestatic 45, 3) := by decide +kernel
theorem dX2_seeds_8 : decode cX2_seeds 8 = .ok (.istore_n 3, 1) := by decide +kernel
theorem dX2_seeds_9 : decode cX2_seeds 9 = .ok (.iload_n 3, 1) := by decide +kernel
theorem dX2_seeds_10 : decode cX2_seeds 10 = .ok (.ifCond .eq 9, 3) := by decide +kernel
theorem dX2_seeds_13 : decode cX2_seeds 13 = .ok (.aload_n 0, 1) := by decide +kernel
theorem dX2_seeds_14 : decode cX2_seeds 14 = .ok (.iload_n 3, 1) := by decide +kernel
theorem dX2_seeds_15 : decode cX2_seeds 15 = .ok (.invokevirtual 53, 3) := by decide +kernel
theorem dX2_seeds_18 : decode cX2_seeds 18 = .ok (.ireturn, 1) := by decide +kernel
theorem dX2_seeds_19 : decode cX2_seeds 19 = .ok (.aload_n 0, 1) := by decide +kernel
theorem dX2_seeds_20 : decode cX2_seeds 20 = .ok (.getfield 19, 3) := by decide +kernel
theorem dX2_seeds_23 : decode cX2_seeds 23 = .ok (.aload_n 0, 1) := by decide +kernel
theorem dX2_seeds_24 : decode cX2_seeds 24 = .ok (.getfield 12, 3) := by decide +kernel
theorem dX2_seeds_27 : decode cX2_seeds 27 = .ok (.invokevirtual 106, 3) := by decide +kernel
theorem dX2_seeds_30 : decode cX2_seeds 30 = .ok (.iload_n 2, 1) := by decide +kernel
theorem dX2_seeds_31 : decode cX2_seeds 31 = .ok (.istore 4, 2) := by decide +kernel
theorem dX2_seeds_33 : decode cX2_seeds 33 = .ok (.iconst 0, 1) := by decide +kernel
theorem dX2_seeds_34 : decode cX2_seeds 34 = .ok (.istore 5, 2) := by decide +kernel
theorem dX2_seeds_36 : decode cX2_seeds 36 = .ok (.iload 5, 2) := by decide +kernel
theorem dX2_seeds_38 : decode cX2_seeds 38 = .ok (.iload_n 1, 1) := by decide +kernel
theorem dX2_seeds_39 : decode cX2_seeds 39 = .ok (.if_icmp .ge 68, 3) := by decide +kernel
theorem dX2_seeds_42 : decode cX2_seeds 42 = .ok (.iconst 0, 1) := by decide +kernel
theorem dX2_seeds_43 : decode cX2_seeds 43 = .ok (.istore 6, 2) := by decide +kernel
theorem dX2_seeds_45 : decode cX2_seeds 45 = .ok (.iload 6, 2) := by decide +kernel
theorem dX2_seeds_47 : decode cX2_seeds 47 = .ok (.aload_n 0, 1) := by decide +kernel
theorem dX2_seeds_48 : decode cX2_seeds 48 = .ok (.getfield 19, 3) := by decide +kernel
theorem dX2_seeds_51 : decode cX2_seeds 51 = .ok (.getfield 120, 3) := by decide +kernel
theorem dX2_seeds_54 : decode cX2_seeds 54 = .ok (.if_icmp .ge 40, 3) := by decide +kernel
theorem dX2_seeds_57 : decode cX2_seeds 57 = .ok (.iload 4, 2) := by decide +kernel
theorem dX2_seeds_59 : decode cX2_seeds 59 = .ok (.ldc 158, 2) := by decide +kernel
theorem dX2_seeds_61 : decode cX2_seeds 61 = .ok (.imul, 1) := by decide +kernel
theorem dX2_seeds_62 : decode cX2_seeds 62 = .ok (.ldc 159, 2) := by decide +kernel
theorem dX2_seeds_64 : decode cX2_seeds 64 = .ok (.iadd, 1) := by decide +kernel
theorem dX2_seeds_65 : decode cX2_seeds 65 = .ok (.istore 4, 2) := by decide +kernel
theorem dX2_seeds_67 : decode cX2_seeds 67 = .ok (.aload_n 0, 1) := by decide +kernel
theorem dX2_seeds_68 : decode cX2_seeds 68 = .ok (.getfield 19, 3) := by decide +kernel
theorem dX2_seeds_71 : decode cX2_seeds 71 = .ok (.getfield 79, 3) := by decide +kernel
theorem dX2_seeds_74 : decode cX2_seeds 74 = .ok (.iload 6, 2) := by decide +kernel
theorem dX2_seeds_76 : decode cX2_seeds 76 = .ok (.iload 4, 2) := by decide +kernel
theorem dX2_seeds_78 : decode cX2_seeds 78 = .ok (.ldc 160, 2) := by decide +kernel
theorem dX2_seeds_80 : decode cX2_seeds 80 = .ok (.iand, 1) := by decide +kernel
theorem dX2_seeds_81 : decode cX2_seeds 81 = .ok (.sipush 256, 3) := by decide +kernel
theorem dX2_seeds_84 : decode cX2_seeds 84 = .ok (.idiv, 1) := by decide +kernel
theorem dX2_seeds_85 : decode cX2_seeds 85 = .ok (.iconst 4, 1) := by decide +kernel
theorem dX2_seeds_86 : decode cX2_seeds 86 = .ok (.irem, 1) := by decide +kernel
theorem dX2_seeds_87 : decode cX2_seeds 87 = .ok (.iastore, 1) := by decide +kernel
theorem dX2_seeds_88 : decode cX2_seeds 88 = .ok (.iinc 6 1, 3) := by decide +kernel
theorem dX2_seeds_91 : decode cX2_seeds 91 = .ok (.goto (-46), 3) := by decide +kernel
theorem dX2_seeds_94 : decode cX2_seeds 94 = .ok (.aload_n 0, 1) := by decide +kernel
theorem dX2_seeds_95 : decode cX2_seeds 95 = .ok (.getfield 19, 3) := by decide +kernel
theorem dX2_seeds_98 : decode cX2_seeds 98 = .ok (.invokevirtual 100, 3) := by decide +kernel
theorem dX2_seeds_101 : decode cX2_seeds 101 = .ok (.iinc 5 1, 3) := by decide +kernel
theorem dX2_seeds_104 : decode cX2_seeds 104 = .ok (.goto (-68), 3) := by decide +kernel
theorem dX2_seeds_107 : decode cX2_seeds 107 = .ok (.aload_n 0, 1) := by decide +kernel
theorem dX2_seeds_108 : decode cX2_seeds 108 = .ok (.getfield 19, 3) := by decide +kernel
theorem dX2_seeds_111 : decode cX2_seeds 111 = .ok (.invokevirtual 103, 3) := by decide +kernel
theorem dX2_seeds_114 : decode cX2_seeds 114 = .ok (.ireturn, 1) := by decide +kernel
theorem dX2_image_0 : decode cX2_image 0 = .ok (.aload_n 0, 1) := by decide +kernel
theorem dX2_image_1 : decode cX2_image 1 = .ok (.getfield 16, 3) := by decide +kernel
theorem dX2_image_4 : decode cX2_image 4 = .ok (.aload_n 0, 1) := by decide +kernel
theorem dX2_image_5 : decode cX2_image 5 = .ok (.getfield 12, 3) := by decide +kernel
theorem dX2_image_8 : decode cX2_image 8 = .ok (.invokevirtual 106, 3) := by decide +kernel
theorem dX2_image_11 : decode cX2_image 11 = .ok (.aload_n 0, 1) := by decide +kernel
theorem dX2_image_12 : decode cX2_image 12 = .ok (.iconst 1, 1) := by decide +kernel
theorem dX2_image_13 : decode cX2_image 13 = .ok (.putfield 161, 3) := by decide +kernel
theorem dX2_image_16 : decode cX2_image 16 = .ok (.aload_n 0, 1) := by decide +kernel
theorem dX2_image_17 : decode cX2_image 17 = .ok (.getfield 16, 3) := by decide +kernel
theorem dX2_image_20 : decode cX2_image 20 = .ok (.getfield 97, 3) := by decide +kernel
theorem dX2_image_23 : decode cX2_image 23 = .ok (.ireturn, 1) := by decide +kernel
theorem dX2_on_0 : decode cX2_on 0 = .ok (.aload_n 0, 1) := by decide +kernel
theorem dX2_on_1 : decode cX2_on 1 = .ok (.getfield 161, 3) := by decide +kernel
theorem dX2_on_4 : decode cX2_on 4 = .ok (.ifCond .ne 10, 3) := by decide +kernel
theorem dX2_on_7 : decode cX2_on 7 = .ok (.aload_n 0, 1) := by decide +kernel
theorem dX2_on_8 : decode cX2_on 8 = .ok (.bipush (-3), 2) := by decide +kernel
theorem dX2_on_10 : decode cX2_on 10 = .ok (.invokevirtual 53, 3) := by decide +kernel
theorem dX2_on_13 : decode cX2_on 13 = .ok (.ireturn, 1) := by decide +kernel
theorem dX2_on_14 : decode cX2_on 14 = .ok (.aload_n 0, 1) := by decide +kernel
theorem dX2_on_15 : decode cX2_on 15 = .ok (.getfield 12, 3) := by decide +kernel
theorem dX2_on_18 : decode cX2_on 18 = .ok (.aload_n 0, 1) := by decide +kernel
theorem dX2_on_19 : decode cX2_on 19 = .ok (.getfield 16, 3) := by decide +kernel
theorem dX2_on_22 : decode cX2_on 22 = .ok (.invokevirtual 106, 3) := by decide +kernel
theorem dX2_on_25 : decode cX2_on 25 = .ok (.aload_n 0, 1) := by decide +kernel
theorem dX2_on_26 : decode cX2_on 26 = .ok (.getfield 12, 3) := by decide +kernel
theorem dX2_on_29 : decode cX2_on 29 = .ok (.getfield 97, 3) := by decide +kernel
theorem dX2_on_32 : decode cX2_on 32 = .ok (.ireturn, 1) := by decide +kernel
theorem dX2_count_0 : decode cX2_count 0 = .ok (.iload_n 1, 1) := by decide +kernel
theorem dX2_count_1 : decode cX2_count 1 = .ok (.bipush 10, 2) := by decide +kernel
theorem dX2_count_3 : decode cX2_count 3 = .ok (.isub, 1) := by decide +kernel
theorem dX2_count_4 : decode cX2_count 4 = .ok (.istore_n 2, 1) := by decide +kernel
theorem dX2_count_5 : decode cX2_count 5 = .ok (.iload_n 2, 1) := by decide +kernel
theorem dX2_count_6 : decode cX2_count 6 = .ok (.iconst 1, 1) := by decide +kernel
theorem dX2_count_7 : decode cX2_count 7 = .ok (.if_icmp .lt 16, 3) := by decide +kernel
theorem dX2_count_10 : decode cX2_count 10 = .ok (.iload_n 2, 1) := by decide +kernel
theorem dX2_count_11 : decode cX2_count 11 = .ok (.bipush 6, 2) := by decide +kernel
theorem dX2_count_13 : decode cX2_count 13 = .ok (.if_icmp .gt 10, 3) := by decide +kernel
theorem dX2_count_16 : decode cX2_count 16 = .ok (.aload_n 0, 1) := by decide +kernel
theorem dX2_count_17 : decode cX2_count 17 = .ok (.getfield 42, 3) := by decide +kernel
theorem dX2_count_20 : decode cX2_count 20 = .ok (.iload_n 2, 1) := by decide +kernel
theorem dX2_count_21 : decode cX2_count 21 = .ok (.iaload, 1) := by decide +kernel
theorem dX2_count_22 : decode cX2_count 22 = .ok (.ireturn, 1) := by decide +kernel
theorem dX2_count_23 : decode cX2_count 23 = .ok (.iload_n 1, 1) := by decide +kernel
theorem dX2_count_24 : decode cX2_count 24 = .ok (.tableswitch 85 0 5 #[40, 48, 56, 64, 72, 77], 40) := by decide +kernel
theorem dX2_count_64 : decode cX2_count 64 = .ok (.aload_n 0, 1) := by decide +kernel
theorem dX2_count_65 : decode cX2_count 65 = .ok (.getfield 12, 3) := by decide +kernel
theorem dX2_count_68 : decode cX2_count 68 = .ok (.getfield 120, 3) := by decide +kernel
theorem dX2_count_71 : decode cX2_count 71 = .ok (.ireturn, 1) := by decide +kernel
theorem dX2_count_72 : decode cX2_count 72 = .ok (.aload_n 0, 1) := by decide +kernel
theorem dX2_count_73 : decode cX2_count 73 = .ok (.getfield 12, 3) := by decide +kernel
theorem dX2_count_76 : decode cX2_count 76 = .ok (.getfield 97, 3) := by decide +kernel
theorem dX2_count_79 : decode cX2_count 79 = .ok (.ireturn, 1) := by decide +kernel
theorem dX2_count_80 : decode cX2_count 80 = .ok (.aload_n 0, 1) := by decide +kernel
theorem dX2_count_81 : decode cX2_count 81 = .ok (.getfield 12, 3) := by decide +kernel
theorem dX2_count_84 : decode cX2_count 84 = .ok (.invokevirtual 103, 3) := by decide +kernel
theorem dX2_count_87 : decode cX2_count 87 = .ok (.ireturn, 1) := by decide +kernel
theorem dX2_count_88 : decode cX2_count 88 = .ok (.aload_n 0, 1) := by decide +kernel
theorem dX2_count_89 : decode cX2_count 89 = .ok (.getfield 12, 3) := by decide +kernel
theorem dX2_count_92 : decode cX2_count 92 = .ok (.invokevirtual 165, 3) := by decide +kernel
theorem dX2_count_95 : decode cX2_count 95 = .ok (.ireturn, 1) := by decide +kernel
theorem dX2_count_96 : decode cX2_count 96 = .ok (.aload_n 0, 1) := by decide +kernel
theorem dX2_count_97 : decode cX2_count 97 = .ok (.getfield 151, 3) := by decide +kernel
theorem dX2_count_100 : decode cX2_count 100 = .ok (.ireturn, 1) := by decide +kernel
theorem dX2_count_101 : decode cX2_count 101 = .ok (.aload_n 0, 1) := by decide +kernel
theorem dX2_count_102 : decode cX2_count 102 = .ok (.getfield 28, 3) := by decide +kernel
theorem dX2_count_105 : decode cX2_count 105 = .ok (.getfield 61, 3) := by decide +kernel
theorem dX2_count_108 : decode cX2_count 108 = .ok (.ireturn, 1) := by decide +kernel
theorem dX2_count_109 : decode cX2_count 109 = .ok (.bipush (-9), 2) := by decide +kernel
theorem dX2_count_111 : decode cX2_count 111 = .ok (.ireturn, 1) := by decide +kernel
theorem dX2_refuse_0 : decode cX2_refuse 0 = .ok (.iload_n 1, 1) := by decide +kernel
theorem dX2_refuse_1 : decode cX2_refuse 1 = .ok (.ineg, 1) := by decide +kernel
theorem dX2_refuse_2 : decode cX2_refuse 2 = .ok (.istore_n 2, 1) := by decide +kernel
theorem dX2_refuse_3 : decode cX2_refuse 3 = .ok (.iload_n 2, 1) := by decide +kernel
theorem dX2_refuse_4 : decode cX2_refuse 4 = .ok (.iconst 1, 1) := by decide +kernel
theorem dX2_refuse_5 : decode cX2_refuse 5 = .ok (.if_icmp .lt 19, 3) := by decide +kernel
theorem dX2_refuse_8 : decode cX2_refuse 8 = .ok (.iload_n 2, 1) := by decide +kernel
theorem dX2_refuse_9 : decode cX2_refuse 9 = .ok (.bipush 6, 2) := by decide +kernel
theorem dX2_refuse_11 : decode cX2_refuse 11 = .ok (.if_icmp .gt 13, 3) := by decide +kernel
theorem dX2_refuse_14 : decode cX2_refuse 14 = .ok (.aload_n 0, 1) := by decide +kernel
theorem dX2_refuse_15 : decode cX2_refuse 15 = .ok (.getfield 42, 3) := by decide +kernel
theorem dX2_refuse_18 : decode cX2_refuse 18 = .ok (.iload_n 2, 1) := by decide +kernel
theorem dX2_refuse_19 : decode cX2_refuse 19 = .ok (.dup2, 1) := by decide +kernel
theorem dX2_refuse_20 : decode cX2_refuse 20 = .ok (.iaload, 1) := by decide +kernel
theorem dX2_refuse_21 : decode cX2_refuse 21 = .ok (.iconst 1, 1) := by decide +kernel
theorem dX2_refuse_22 : decode cX2_refuse 22 = .ok (.iadd, 1) := by decide +kernel
theorem dX2_refuse_23 : decode cX2_refuse 23 = .ok (.iastore, 1) := by decide +kernel
theorem dX2_refuse_24 : decode cX2_refuse 24 = .ok (.iload_n 1, 1) := by decide +kernel
theorem dX2_refuse_25 : decode cX2_refuse 25 = .ok (.ireturn, 1) := by decide +kernel
theorem dX2_refusalOf_0 : decode cX2_refusalOf 0 = .ok (.iload_n 0, 1) := by decide +kernel
theorem dX2_refusalOf_1 : decode cX2_refusalOf 1 = .ok (.ifCond .ne 5, 3) := by decide +kernel
theorem dX2_refusalOf_4 : decode cX2_refusalOf 4 = .ok (.iconst (-1), 1) := by decide +kernel
theorem dX2_refusalOf_5 : decode cX2_refusalOf 5 = .ok (.ireturn, 1) := by decide +kernel
theorem dX2_refusalOf_6 : decode cX2_refusalOf 6 = .ok (.iload_n 1, 1) := by decide +kernel
theorem dX2_refusalOf_7 : decode cX2_refusalOf 7 = .ok (.iload_n 2, 1) := by decide +kernel
theorem dX2_refusalOf_8 : decode cX2_refusalOf 8 = .ok (.if_icmp .ge 6, 3) := by decide +kernel
theorem dX2_refusalOf_11 : decode cX2_refusalOf 11 = .ok (.bipush (-4), 2) := by decide +kernel
theorem dX2_refusalOf_13 : decode cX2_refusalOf 13 = .ok (.ireturn, 1) := by decide +kernel
theorem dX2_refusalOf_14 : decode cX2_refusalOf 14 = .ok (.iload_n 1, 1) := by decide +kernel
theorem dX2_refusalOf_15 : decode cX2_refusalOf 15 = .ok (.iload_n 3, 1) := by decide +kernel
theorem dX2_refusalOf_16 : decode cX2_refusalOf 16 = .ok (.if_icmp .le 8, 3) := by decide +kernel
theorem dX2_refusalOf_19 : decode cX2_refusalOf 19 = .ok (.bipush (-6), 2) := by decide +kernel
theorem dX2_refusalOf_21 : decode cX2_refusalOf 21 = .ok (.goto 4, 3) := by decide +kernel
theorem dX2_refusalOf_24 : decode cX2_refusalOf 24 = .ok (.iconst 0, 1) := by decide +kernel
theorem dX2_refusalOf_25 : decode cX2_refusalOf 25 = .ok (.ireturn, 1) := by decide +kernel
theorem dX2_readTown_0 : decode cX2_readTown 0 = .ok (.aload_n 0, 1) := by decide +kernel
theorem dX2_readTown_1 : decode cX2_readTown 1 = .ok (.getfield 28, 3) := by decide +kernel
theorem dX2_readTown_4 : decode cX2_readTown 4 = .ok (.invokevirtual 168, 3) := by decide +kernel
theorem dX2_readTown_7 : decode cX2_readTown 7 = .ok (.istore_n 1, 1) := by decide +kernel
theorem dX2_readTown_8 : decode cX2_readTown 8 = .ok (.iload_n 1, 1) := by decide +kernel
theorem dX2_readTown_9 : decode cX2_readTown 9 = .ok (.iconst (-1), 1) := by decide +kernel
theorem dX2_readTown_10 : decode cX2_readTown 10 = .ok (.if_icmp .eq 9, 3) := by decide +kernel
theorem dX2_readTown_13 : decode cX2_readTown 13 = .ok (.sipush (-1000), 3) := by decide +kernel
theorem dX2_readTown_16 : decode cX2_readTown 16 = .ok (.iload_n 1, 1) := by decide +kernel
theorem dX2_readTown_17 : decode cX2_readTown 17 = .ok (.isub, 1) := by decide +kernel
theorem dX2_readTown_18 : decode cX2_readTown 18 = .ok (.ireturn, 1) := by decide +kernel
theorem dX2_readTown_19 : decode cX2_readTown 19 = .ok (.aload_n 0, 1) := by decide +kernel
theorem dX2_readTown_20 : decode cX2_readTown 20 = .ok (.getfield 19, 3) := by decide +kernel
theorem dX2_readTown_23 : decode cX2_readTown 23 = .ok (.aload_n 0, 1) := by decide +kernel
theorem dX2_readTown_24 : decode cX2_readTown 24 = .ok (.getfield 12, 3) := by decide +kernel
theorem dX2_readTown_27 : decode cX2_readTown 27 = .ok (.invokevirtual 106, 3) := by decide +kernel
theorem dX2_readTown_30 : decode cX2_readTown 30 = .ok (.iconst 0, 1) := by decide +kernel
theorem dX2_readTown_31 : decode cX2_readTown 31 = .ok (.istore_n 2, 1) := by decide +kernel
theorem dX2_readTown_32 : decode cX2_readTown 32 = .ok (.iconst 0, 1) := by decide +kernel
theorem dX2_readTown_33 : decode cX2_readTown 33 = .ok (.istore_n 3, 1) := by decide +kernel
theorem dX2_readTown_34 : decode cX2_readTown 34 = .ok (.iconst 0, 1) := by decide +kernel
theorem dX2_readTown_35 : decode cX2_readTown 35 = .ok (.istore 4, 2) := by decide +kernel
theorem dX2_readTown_37 : decode cX2_readTown 37 = .ok (.iload 4, 2) := by decide +kernel
theorem dX2_readTown_39 : decode cX2_readTown 39 = .ok (.aload_n 0, 1) := by decide +kernel
theorem dX2_readTown_40 : decode cX2_readTown 40 = .ok (.getfield 28, 3) := by decide +kernel
theorem dX2_readTown_43 : decode cX2_readTown 43 = .ok (.getfield 61, 3) := by decide +kernel
theorem dX2_readTown_46 : decode cX2_readTown 46 = .ok (.if_icmp .ge 45, 3) := by decide +kernel
theorem dX2_readTown_49 : decode cX2_readTown 49 = .ok (.aload_n 0, 1) := by decide +kernel
theorem dX2_readTown_50 : decode cX2_readTown 50 = .ok (.getfield 28, 3) := by decide +kernel
theorem dX2_readTown_53 : decode cX2_readTown 53 = .ok (.iload 4, 2) := by decide +kernel
theorem dX2_readTown_55 : decode cX2_readTown 55 = .ok (.invokevirtual 171, 3) := by decide +kernel
theorem dX2_readTown_58 : decode cX2_readTown 58 = .ok (.bipush 59, 2) := by decide +kernel
theorem dX2_readTown_60 : decode cX2_readTown 60 = .ok (.if_icmp .ne 25, 3) := by decide +kernel
theorem dX2_readTown_63 : decode cX2_readTown 63 = .ok (.aload_n 0, 1) := by decide +kernel
theorem dX2_readTown_64 : decode cX2_readTown 64 = .ok (.iload_n 3, 1) := by decide +kernel
theorem dX2_readTown_65 : decode cX2_readTown 65 = .ok (.invokevirtual 175, 3) := by decide +kernel
theorem dX2_readTown_68 : decode cX2_readTown 68 = .ok (.ifCond .ne 9, 3) := by decide +kernel
theorem dX2_readTown_71 : decode cX2_readTown 71 = .ok (.sipush (-2000), 3) := by decide +kernel
theorem dX2_readTown_74 : decode cX2_readTown 74 = .ok (.iload_n 3, 1) := by decide +kernel
theorem dX2_readTown_75 : decode cX2_readTown 75 = .ok (.isub, 1) := by decide +kernel
theorem dX2_readTown_76 : decode cX2_readTown 76 = .ok (.ireturn, 1) := by decide +kernel
theorem dX2_readTown_77 : decode cX2_readTown 77 = .ok (.iinc 2 1, 3) := by decide +kernel
theorem dX2_readTown_80 : decode cX2_readTown 80 = .ok (.iload 4, 2) := by decide +kernel
theorem dX2_readTown_82 : decode cX2_readTown 82 = .ok (.iconst 1, 1) := by decide +kernel
theorem dX2_readTown_83 : decode cX2_readTown 83 = .ok (.iadd, 1) := by decide +kernel
theorem dX2_readTown_84 : decode cX2_readTown 84 = .ok (.istore_n 3, 1) := by decide +kernel
theorem dX2_readTown_85 : decode cX2_readTown 85 = .ok (.iinc 4 1, 3) := by decide +kernel
theorem dX2_readTown_88 : decode cX2_readTown 88 = .ok (.goto (-51), 3) := by decide +kernel
theorem dX2_readTown_91 : decode cX2_readTown 91 = .ok (.aload_n 0, 1) := by decide +kernel
theorem dX2_readTown_92 : decode cX2_readTown 92 = .ok (.getfield 12, 3) := by decide +kernel
theorem dX2_readTown_95 : decode cX2_readTown 95 = .ok (.aload_n 0, 1) := by decide +kernel
theorem dX2_readTown_96 : decode cX2_readTown 96 = .ok (.getfield 19, 3) := by decide +kernel
theorem dX2_readTown_99 : decode cX2_readTown 99 = .ok (.invokevirtual 106, 3) := by decide +kernel
theorem dX2_readTown_102 : decode cX2_readTown 102 = .ok (.iload_n 2, 1) := by decide +kernel
theorem dX2_readTown_103 : decode cX2_readTown 103 = .ok (.ireturn, 1) := by decide +kernel
theorem dX2_comesToTrial_0 : decode cX2_comesToTrial 0 = .ok (.aload_n 0, 1) := by decide +kernel
theorem dX2_comesToTrial_1 : decode cX2_comesToTrial 1 = .ok (.getfield 28, 3) := by decide +kernel
theorem dX2_comesToTrial_4 : decode cX2_comesToTrial 4 = .ok (.iload_n 1, 1) := by decide +kernel
theorem dX2_comesToTrial_5 : decode cX2_comesToTrial 5 = .ok (.invokevirtual 171, 3) := by decide +kernel
theorem dX2_comesToTrial_8 : decode cX2_comesToTrial 8 = .ok (.lookupswitch 111 #[(109, 83), (115, 28)], 28) := by decide +kernel
theorem dX2_comesToTrial_36 : decode cX2_comesToTrial 36 = .ok (.ldc 178, 2) := by decide +kernel
theorem dX2_comesToTrial_38 : decode cX2_comesToTrial 38 = .ok (.aload_n 0, 1) := by decide +kernel
theorem dX2_comesToTrial_39 : decode cX2_comesToTrial 39 = .ok (.getfield 28, 3) := by decide +kernel
theorem dX2_comesToTrial_42 : decode cX2_comesToTrial 42 = .ok (.iload_n 1, 1) := by decide +kernel
theorem dX2_comesToTrial_43 : decode cX2_comesToTrial 43 = .ok (.iconst 1, 1) := by decide +kernel
theorem dX2_comesToTrial_44 : decode cX2_comesToTrial 44 = .ok (.iadd, 1) := by decide +kernel
theorem dX2_comesToTrial_45 : decode cX2_comesToTrial 45 = .ok (.invokevirtual 171, 3) := by decide +kernel
theorem dX2_comesToTrial_48 : decode cX2_comesToTrial 48 = .ok (.invokevirtual 180, 3) := by decide +kernel
theorem dX2_comesToTrial_51 : decode cX2_comesToTrial 51 = .ok (.istore_n 2, 1) := by decide +kernel
theorem dX2_comesToTrial_52 : decode cX2_comesToTrial 52 = .ok (.aload_n 0, 1) := by decide +kernel
theorem dX2_comesToTrial_53 : decode cX2_comesToTrial 53 = .ok (.getfield 19, 3) := by decide +kernel
theorem dX2_comesToTrial_56 : decode cX2_comesToTrial 56 = .ok (.iload_n 2, 1) := by decide +kernel
theorem dX2_comesToTrial_57 : decode cX2_comesToTrial 57 = .ok (.aload_n 0, 1) := by decide +kernel
theorem dX2_comesToTrial_58 : decode cX2_comesToTrial 58 = .ok (.getfield 28, 3) := by decide +kernel
theorem dX2_comesToTrial_61 : decode cX2_comesToTrial 61 = .ok (.iload_n 1, 1) := by decide +kernel
theorem dX2_comesToTrial_62 : decode cX2_comesToTrial 62 = .ok (.iconst 2, 1) := by decide +kernel
theorem dX2_comesToTrial_63 : decode cX2_comesToTrial 63 = .ok (.iadd, 1) := by decide +kernel
theorem dX2_comesToTrial_64 : decode cX2_comesToTrial 64 = .ok (.invokevirtual 185, 3) := by decide +kernel
theorem dX2_comesToTrial_67 : decode cX2_comesToTrial 67 = .ok (.aload_n 0, 1) := by decide +kernel
theorem dX2_comesToTrial_68 : decode cX2_comesToTrial 68 = .ok (.getfield 28, 3) := by decide +kernel
theorem dX2_comesToTrial_71 : decode cX2_comesToTrial 71 = .ok (.iload_n 1, 1) := by decide +kernel
theorem dX2_comesToTrial_72 : decode cX2_comesToTrial 72 = .ok (.iconst 3, 1) := by decide +kernel
theorem dX2_comesToTrial_73 : decode cX2_comesToTrial 73 = .ok (.iadd, 1) := by decide +kernel
theorem dX2_comesToTrial_74 : decode cX2_comesToTrial 74 = .ok (.invokevirtual 185, 3) := by decide +kernel
theorem dX2_comesToTrial_77 : decode cX2_comesToTrial 77 = .ok (.aload_n 0, 1) := by decide +kernel
theorem dX2_comesToTrial_78 : decode cX2_comesToTrial 78 = .ok (.getfield 28, 3) := by decide +kernel
theorem dX2_comesToTrial_81 : decode cX2_comesToTrial 81 = .ok (.iload_n 1, 1) := by decide +kernel
theorem dX2_comesToTrial_82 : decode cX2_comesToTrial 82 = .ok (.iconst 4, 1) := by decide +kernel
theorem dX2_comesToTrial_83 : decode cX2_comesToTrial 83 = .ok (.iadd, 1) := by decide +kernel
theorem dX2_comesToTrial_84 : decode cX2_comesToTrial 84 = .ok (.invokevirtual 185, 3) := by decide +kernel
theorem dX2_comesToTrial_87 : decode cX2_comesToTrial 87 = .ok (.invokevirtual 188, 3) := by decide +kernel
theorem dX2_comesToTrial_90 : decode cX2_comesToTrial 90 = .ok (.ireturn, 1) := by decide +kernel
theorem dX2_comesToTrial_91 : decode cX2_comesToTrial 91 = .ok (.aload_n 0, 1) := by decide +kernel
theorem dX2_comesToTrial_92 : decode cX2_comesToTrial 92 = .ok (.getfield 19, 3) := by decide +kernel
theorem dX2_comesToTrial_95 : decode cX2_comesToTrial 95 = .ok (.aload_n 0, 1) := by decide +kernel
theorem dX2_comesToTrial_96 : decode cX2_comesToTrial 96 = .ok (.getfield 28, 3) := by decide +kernel
theorem dX2_comesToTrial_99 : decode cX2_comesToTrial 99 = .ok (.iload_n 1, 1) := by decide +kernel
theorem dX2_comesToTrial_100 : decode cX2_comesToTrial 100 = .ok (.iconst 1, 1) := by decide +kernel
theorem dX2_comesToTrial_101 : decode cX2_comesToTrial 101 = .ok (.iadd, 1) := by decide +kernel
theorem dX2_comesToTrial_102 : decode cX2_comesToTrial 102 = .ok (.invokevirtual 185, 3) := by decide +kernel
theorem dX2_comesToTrial_105 : decode cX2_comesToTrial 105 = .ok (.aload_n 0, 1) := by decide +kernel
theorem dX2_comesToTrial_106 : decode cX2_comesToTrial 106 = .ok (.getfield 28, 3) := by decide +kernel
theorem dX2_comesToTrial_109 : decode cX2_comesToTrial 109 = .ok (.iload_n 1, 1) := by decide +kernel
theorem dX2_comesToTrial_110 : decode cX2_comesToTrial 110 = .ok (.iconst 2, 1) := by decide +kernel
theorem dX2_comesToTrial_111 : decode cX2_comesToTrial 111 = .ok (.iadd, 1) := by decide +kernel
theorem dX2_comesToTrial_112 : decode cX2_comesToTrial 112 = .ok (.invokevirtual 185, 3) := by decide +kernel
theorem dX2_comesToTrial_115 : decode cX2_comesToTrial 115 = .ok (.invokevirtual 192, 3) := by decide +kernel
theorem dX2_comesToTrial_118 : decode cX2_comesToTrial 118 = .ok (.ireturn, 1) := by decide +kernel
theorem dX2_comesToTrial_119 : decode cX2_comesToTrial 119 = .ok (.aload_n 0, 1) := by decide +kernel
theorem dX2_comesToTrial_120 : decode cX2_comesToTrial 120 = .ok (.getfield 19, 3) := by decide +kernel
theorem dX2_comesToTrial_123 : decode cX2_comesToTrial 123 = .ok (.aload_n 0, 1) := by decide +kernel
theorem dX2_comesToTrial_124 : decode cX2_comesToTrial 124 = .ok (.getfield 28, 3) := by decide +kernel
theorem dX2_comesToTrial_127 : decode cX2_comesToTrial 127 = .ok (.iload_n 1, 1) := by decide +kernel
theorem dX2_comesToTrial_128 : decode cX2_comesToTrial 128 = .ok (.iconst 1, 1) := by decide +kernel
theorem dX2_comesToTrial_129 : decode cX2_comesToTrial 129 = .ok (.iadd, 1) := by decide +kernel
theorem dX2_comesToTrial_130 : decode cX2_comesToTrial 130 = .ok (.invokevirtual 185, 3) := by decide +kernel
theorem dX2_comesToTrial_133 : decode cX2_comesToTrial 133 = .ok (.aload_n 0, 1) := by decide +kernel
theorem dX2_comesToTrial_134 : decode cX2_comesToTrial 134 = .ok (.getfield 28, 3) := by decide +kernel
theorem dX2_comesToTrial_137 : decode cX2_comesToTrial 137 = .ok (.iload_n 1, 1) := by decide +kernel
theorem dX2_comesToTrial_138 : decode cX2_comesToTrial 138 = .ok (.iconst 3, 1) := by decide +kernel
theorem dX2_comesToTrial_139 : decode cX2_comesToTrial 139 = .ok (.iadd, 1) := by decide +kernel
theorem dX2_comesToTrial_140 : decode cX2_comesToTrial 140 = .ok (.invokevirtual 196, 3) := by decide +kernel
theorem dX2_comesToTrial_143 : decode cX2_comesToTrial 143 = .ok (.invokevirtual 199, 3) := by decide +kernel
theorem dX2_comesToTrial_146 : decode cX2_comesToTrial 146 = .ok (.ireturn, 1) := by decide +kernel
theorem dX2_firstNotAsTold_0 : decode cX2_firstNotAsTold 0 = .ok (.aload_n 0, 1) := by decide +kernel
theorem dX2_firstNotAsTold_1 : decode cX2_firstNotAsTold 1 = .ok (.getfield 151, 3) := by decide +kernel
theorem dX2_firstNotAsTold_4 : decode cX2_firstNotAsTold 4 = .ok (.aload_n 1, 1) := by decide +kernel
theorem dX2_firstNotAsTold_5 : decode cX2_firstNotAsTold 5 = .ok (.getfield 120, 3) := by decide +kernel
theorem dX2_firstNotAsTold_8 : decode cX2_firstNotAsTold 8 = .ok (.invokestatic 202, 3) := by decide +kernel
theorem dX2_firstNotAsTold_11 : decode cX2_firstNotAsTold 11 = .ok (.istore_n 2, 1) := by decide +kernel
theorem dX2_firstNotAsTold_12 : decode cX2_firstNotAsTold 12 = .ok (.iconst 0, 1) := by decide +kernel
theorem dX2_firstNotAsTold_13 : decode cX2_firstNotAsTold 13 = .ok (.istore_n 3, 1) := by decide +kernel
theorem dX2_firstNotAsTold_14 : decode cX2_firstNotAsTold 14 = .ok (.iload_n 3, 1) := by decide +kernel
theorem dX2_firstNotAsTold_15 : decode cX2_firstNotAsTold 15 = .ok (.iload_n 2, 1) := by decide +kernel
theorem dX2_firstNotAsTold_16 : decode cX2_firstNotAsTold 16 = .ok (.if_icmp .ge 26, 3) := by decide +kernel
theorem dX2_firstNotAsTold_19 : decode cX2_firstNotAsTold 19 = .ok (.aload_n 0, 1) := by decide +kernel
theorem dX2_firstNotAsTold_20 : decode cX2_firstNotAsTold 20 = .ok (.getfield 39, 3) := by decide +kernel
theorem dX2_firstNotAsTold_23 : decode cX2_firstNotAsTold 23 = .ok (.iload_n 3, 1) := by decide +kernel
theorem dX2_firstNotAsTold_24 : decode cX2_firstNotAsTold 24 = .ok (.iaload, 1) := by decide +kernel
theorem dX2_firstNotAsTold_25 : decode cX2_firstNotAsTold 25 = .ok (.aload_n 1, 1) := by decide +kernel
theorem dX2_firstNotAsTold_26 : decode cX2_firstNotAsTold 26 = .ok (.getfield 76, 3) := by decide +kernel
theorem dX2_firstNotAsTold_29 : decode cX2_firstNotAsTold 29 = .ok (.iload_n 3, 1) := by decide +kernel
theorem dX2_firstNotAsTold_30 : decode cX2_firstNotAsTold 30 = .ok (.iaload, 1) := by decide +kernel
theorem dX2_firstNotAsTold_31 : decode cX2_firstNotAsTold 31 = .ok (.if_icmp .eq 5, 3) := by decide +kernel
theorem dX2_firstNotAsTold_34 : decode cX2_firstNotAsTold 34 = .ok (.iload_n 3, 1) := by decide +kernel
theorem dX2_firstNotAsTold_35 : decode cX2_firstNotAsTold 35 = .ok (.ireturn, 1) := by decide +kernel
theorem dX2_firstNotAsTold_36 : decode cX2_firstNotAsTold 36 = .ok (.iinc 3 1, 3) := by decide +kernel
theorem dX2_firstNotAsTold_39 : decode cX2_firstNotAsTold 39 = .ok (.goto (-25), 3) := by decide +kernel
theorem dX2_firstNotAsTold_42 : decode cX2_firstNotAsTold 42 = .ok (.aload_n 0, 1) := by decide +kernel
theorem dX2_firstNotAsTold_43 : decode cX2_firstNotAsTold 43 = .ok (.getfield 151, 3) := by decide +kernel
theorem dX2_firstNotAsTold_46 : decode cX2_firstNotAsTold 46 = .ok (.aload_n 1, 1) := by decide +kernel
theorem dX2_firstNotAsTold_47 : decode cX2_firstNotAsTold 47 = .ok (.getfield 120, 3) := by decide +kernel
theorem dX2_firstNotAsTold_50 : decode cX2_firstNotAsTold 50 = .ok (.if_icmp .ne 8, 3) := by decide +kernel
theorem dX2_firstNotAsTold_53 : decode cX2_firstNotAsTold 53 = .ok (.bipush (-9), 2) := by decide +kernel
theorem dX2_firstNotAsTold_55 : decode cX2_firstNotAsTold 55 = .ok (.goto 4, 3) := by decide +kernel
theorem dX2_firstNotAsTold_58 : decode cX2_firstNotAsTold 58 = .ok (.iload_n 2, 1) := by decide +kernel
theorem dX2_firstNotAsTold_59 : decode cX2_firstNotAsTold 59 = .ok (.ireturn, 1) := by decide +kernel
theorem dX2_findBestMap_0 : decode cX2_findBestMap 0 = .ok (.iconst 0, 1) := by decide +kernel
theorem dX2_findBestMap_1 : decode cX2_findBestMap 1 = .ok (.istore_n 2, 1) := by decide +kernel
theorem dX2_findBestMap_2 : decode cX2_findBestMap 2 = .ok (.iload_n 2, 1) := by decide +kernel
theorem dX2_findBestMap_3 : decode cX2_findBestMap 3 = .ok (.aload_n 0, 1) := by decide +kernel
theorem dX2_findBestMap_4 : decode cX2_findBestMap 4 = .ok (.getfield 12, 3) := by decide +kernel
theorem dX2_findBestMap_7 : decode cX2_findBestMap 7 = .ok (.getfield 120, 3) := by decide +kernel
theorem dX2_findBestMap_10 : decode cX2_findBestMap 10 = .ok (.if_icmp .ge 16, 3) := by decide +kernel
theorem dX2_findBestMap_13 : decode cX2_findBestMap 13 = .ok (.aload_n 0, 1) := by decide +kernel
theorem dX2_findBestMap_14 : decode cX2_findBestMap 14 = .ok (.getfield 32, 3) := by decide +kernel
theorem dX2_findBestMap_17 : decode cX2_findBestMap 17 = .ok (.iload_n 2, 1) := by decide +kernel
theorem dX2_findBestMap_18 : decode cX2_findBestMap 18 = .ok (.iload_n 2, 1) := by decide +kernel
theorem dX2_findBestMap_19 : decode cX2_findBestMap 19 = .ok (.iastore, 1) := by decide +kernel
theorem dX2_findBestMap_20 : decode cX2_findBestMap 20 = .ok (.iinc 2 1, 3) := by decide +kernel
theorem dX2_findBestMap_23 : decode cX2_findBestMap 23 = .ok (.goto (-21), 3) := by decide +kernel
theorem dX2_findBestMap_26 : decode cX2_findBestMap 26 = .ok (.bipush 55, 2) := by decide +kernel
theorem dX2_findBestMap_28 : decode cX2_findBestMap 28 = .ok (.istore_n 2, 1) := by decide +kernel
theorem dX2_findBestMap_29 : decode cX2_findBestMap 29 = .ok (.iconst 1, 1) := by decide +kernel
theorem dX2_findBestMap_30 : decode cX2_findBestMap 30 = .ok (.istore_n 3, 1) := by decide +kernel
theorem dX2_findBestMap_31 : decode cX2_findBestMap 31 = .ok (.iconst 0, 1) := by decide +kernel
theorem dX2_findBestMap_32 : decode cX2_findBestMap 32 = .ok (.istore 4, 2) := by decide +kernel
theorem dX2_findBestMap_34 : decode cX2_findBestMap 34 = .ok (.iload 4, 2) := by decide +kernel
theorem dX2_findBestMap_36 : decode cX2_findBestMap 36 = .ok (.sipush 720, 3) := by decide +kernel
theorem dX2_findBestMap_39 : decode cX2_findBestMap 39 = .ok (.if_icmp .ge 88, 3) := by decide +kernel
theorem dX2_findBestMap_42 : decode cX2_findBestMap 42 = .ok (.iload_n 3, 1) := by decide +kernel
theorem dX2_findBestMap_43 : decode cX2_findBestMap 43 = .ok (.ifCond .eq 84, 3) := by decide +kernel
theorem dX2_findBestMap_46 : decode cX2_findBestMap 46 = .ok (.aload_n 0, 1) := by decide +kernel
theorem dX2_findBestMap_47 : decode cX2_findBestMap 47 = .ok (.getfield 19, 3) := by decide +kernel
theorem dX2_findBestMap_50 : decode cX2_findBestMap 50 = .ok (.aload_n 0, 1) := by decide +kernel
theorem dX2_findBestMap_51 : decode cX2_findBestMap 51 = .ok (.getfield 12, 3) := by decide +kernel
theorem dX2_findBestMap_54 : decode cX2_findBestMap 54 = .ok (.invokevirtual 106, 3) := by decide +kernel
theorem dX2_findBestMap_57 : decode cX2_findBestMap 57 = .ok (.aload_n 0, 1) := by decide +kernel
theorem dX2_findBestMap_58 : decode cX2_findBestMap 58 = .ok (.getfield 32, 3) := by decide +kernel
theorem dX2_findBestMap_61 : decode cX2_findBestMap 61 = .ok (.iconst 0, 1) := by decide +kernel
theorem dX2_findBestMap_62 : decode cX2_findBestMap 62 = .ok (.aload_n 0, 1) := by decide +kernel
theorem dX2_findBestMap_63 : decode cX2_findBestMap 63 = .ok (.getfield 19, 3) := by decide +kernel
theorem dX2_findBestMap_66 : decode cX2_findBestMap 66 = .ok (.getfield 88, 3) := by decide +kernel
theorem dX2_findBestMap_69 : decode cX2_findBestMap 69 = .ok (.iconst 0, 1) := by decide +kernel
theorem dX2_findBestMap_70 : decode cX2_findBestMap 70 = .ok (.bipush 6, 2) := by decide +kernel
theorem dX2_findBestMap_72 : decode cX2_findBestMap 72 = .ok (.invokestatic 208, 3) := by decide +kernel
theorem dX2_findBestMap_75 : decode cX2_findBestMap 75 = .ok (.aload_n 0, 1) := by decide +kernel
theorem dX2_findBestMap_76 : decode cX2_findBestMap 76 = .ok (.getfield 19, 3) := by decide +kernel
theorem dX2_findBestMap_79 : decode cX2_findBestMap 79 = .ok (.iload_n 1, 1) := by decide +kernel
theorem dX2_findBestMap_80 : decode cX2_findBestMap 80 = .ok (.invokevirtual 110, 3) := by decide +kernel
theorem dX2_findBestMap_83 : decode cX2_findBestMap 83 = .ok (.istore 5, 2) := by decide +kernel
theorem dX2_findBestMap_85 : decode cX2_findBestMap 85 = .ok (.iload 5, 2) := by decide +kernel
theorem dX2_findBestMap_87 : decode cX2_findBestMap 87 = .ok (.iload_n 2, 1) := by decide +kernel
theorem dX2_findBestMap_88 : decode cX2_findBestMap 88 = .ok (.if_icmp .ge 21, 3) := by decide +kernel
theorem dX2_findBestMap_91 : decode cX2_findBestMap 91 = .ok (.iload 5, 2) := by decide +kernel
theorem dX2_findBestMap_93 : decode cX2_findBestMap 93 = .ok (.istore_n 2, 1) := by decide +kernel
theorem dX2_findBestMap_94 : decode cX2_findBestMap 94 = .ok (.aload_n 0, 1) := by decide +kernel
theorem dX2_findBestMap_95 : decode cX2_findBestMap 95 = .ok (.getfield 32, 3) := by decide +kernel
theorem dX2_findBestMap_98 : decode cX2_findBestMap 98 = .ok (.iconst 0, 1) := by decide +kernel
theorem dX2_findBestMap_99 : decode cX2_findBestMap 99 = .ok (.aload_n 0, 1) := by decide +kernel
theorem dX2_findBestMap_100 : decode cX2_findBestMap 100 = .ok (.getfield 36, 3) := by decide +kernel
theorem dX2_findBestMap_103 : decode cX2_findBestMap 103 = .ok (.iconst 0, 1) := by decide +kernel
theorem dX2_findBestMap_104 : decode cX2_findBestMap 104 = .ok (.bipush 6, 2) := by decide +kernel
theorem dX2_findBestMap_106 : decode cX2_findBestMap 106 = .ok (.invokestatic 208, 3) := by decide +kernel
theorem dX2_findBestMap_109 : decode cX2_findBestMap 109 = .ok (.aload_n 0, 1) := by decide +kernel
theorem dX2_findBestMap_110 : decode cX2_findBestMap 110 = .ok (.aload_n 0, 1) := by decide +kernel
theorem dX2_findBestMap_111 : decode cX2_findBestMap 111 = .ok (.getfield 12, 3) := by decide +kernel
theorem dX2_findBestMap_114 : decode cX2_findBestMap 114 = .ok (.getfield 120, 3) := by decide +kernel
theorem dX2_findBestMap_117 : decode cX2_findBestMap 117 = .ok (.invokevirtual 214, 3) := by decide +kernel
theorem dX2_findBestMap_120 : decode cX2_findBestMap 120 = .ok (.istore_n 3, 1) := by decide +kernel
theorem dX2_findBestMap_121 : decode cX2_findBestMap 121 = .ok (.iinc 4 1, 3) := by decide +kernel
theorem dX2_findBestMap_124 : decode cX2_findBestMap 124 = .ok (.goto (-90), 3) := by decide +kernel
theorem dX2_findBestMap_127 : decode cX2_findBestMap 127 = .ok (.iload_n 2, 1) := by decide +kernel
theorem dX2_findBestMap_128 : decode cX2_findBestMap 128 = .ok (.ireturn, 1) := by decide +kernel
theorem dX2_goToNextMap_0 : decode cX2_goToNextMap 0 = .ok (.iload_n 1, 1) := by decide +kernel
theorem dX2_goToNextMap_1 : decode cX2_goToNextMap 1 = .ok (.iconst 2, 1) := by decide +kernel
theorem dX2_goToNextMap_2 : decode cX2_goToNextMap 2 = .ok (.isub, 1) := by decide +kernel
theorem dX2_goToNextMap_3 : decode cX2_goToNextMap 3 = .ok (.istore_n 2, 1) := by decide +kernel
theorem dX2_goToNextMap_4 : decode cX2_goToNextMap 4 = .ok (.iload_n 2, 1) := by decide +kernel
theorem dX2_goToNextMap_5 : decode cX2_goToNextMap 5 = .ok (.ifCond .lt 26, 3) := by decide +kernel
theorem dX2_goToNextMap_8 : decode cX2_goToNextMap 8 = .ok (.aload_n 0, 1) := by decide +kernel
theorem dX2_goToNextMap_9 : decode cX2_goToNextMap 9 = .ok (.getfield 32, 3) := by decide +kernel
theorem dX2_goToNextMap_12 : decode cX2_goToNextMap 12 = .ok (.iload_n 2, 1) := by decide +kernel
theorem dX2_goToNextMap_13 : decode cX2_goToNextMap 13 = .ok (.iaload, 1) := by decide +kernel
theorem dX2_goToNextMap_14 : decode cX2_goToNextMap 14 = .ok (.aload_n 0, 1) := by decide +kernel
theorem dX2_goToNextMap_15 : decode cX2_goToNextMap 15 = .ok (.getfield 32, 3) := by decide +kernel
theorem dX2_goToNextMap_18 : decode cX2_goToNextMap 18 = .ok (.iload_n 2, 1) := by decide +kernel
theorem dX2_goToNextMap_19 : decode cX2_goToNextMap 19 = .ok (.iconst 1, 1) := by decide +kernel
theorem dX2_goToNextMap_20 : decode cX2_goToNextMap 20 = .ok (.iadd, 1) := by decide +kernel
theorem dX2_goToNextMap_21 : decode cX2_goToNextMap 21 = .ok (.iaload, 1) := by decide +kernel
theorem dX2_goToNextMap_22 : decode cX2_goToNextMap 22 = .ok (.if_icmp .le 9, 3) := by decide +kernel
theorem dX2_goToNextMap_25 : decode cX2_goToNextMap 25 = .ok (.iinc 2 (-1), 3) := by decide +kernel
theorem dX2_goToNextMap_28 : decode cX2_goToNextMap 28 = .ok (.goto (-24), 3) := by decide +kernel
theorem dX2_goToNextMap_31 : decode cX2_goToNextMap 31 = .ok (.iload_n 2, 1) := by decide +kernel
theorem dX2_goToNextMap_32 : decode cX2_goToNextMap 32 = .ok (.ifCond .ge 5, 3) := by decide +kernel
theorem dX2_goToNextMap_35 : decode cX2_goToNextMap 35 = .ok (.iconst 0, 1) := by decide +kernel
theorem dX2_goToNextMap_36 : decode cX2_goToNextMap 36 = .ok (.ireturn, 1) := by decide +kernel
theorem dX2_goToNextMap_37 : decode cX2_goToNextMap 37 = .ok (.iload_n 1, 1) := by decide +kernel
theorem dX2_goToNextMap_38 : decode cX2_goToNextMap 38 = .ok (.iconst 1, 1) := by decide +kernel
theorem dX2_goToNextMap_39 : decode cX2_goToNextMap 39 = .ok (.isub, 1) := by decide +kernel
theorem dX2_goToNextMap_40 : decode cX2_goToNextMap 40 = .ok (.istore_n 3, 1) := by decide +kernel
theorem dX2_goToNextMap_41 : decode cX2_goToNextMap 41 = .ok (.iload_n 3, 1) := by decide +kernel
theorem dX2_goToNextMap_42 : decode cX2_goToNextMap 42 = .ok (.iload_n 2, 1) := by decide +kernel
theorem dX2_goToNextMap_43 : decode cX2_goToNextMap 43 = .ok (.if_icmp .le 24, 3) := by decide +kernel
theorem dX2_goToNextMap_46 : decode cX2_goToNextMap 46 = .ok (.aload_n 0, 1) := by decide +kernel
theorem dX2_goToNextMap_47 : decode cX2_goToNextMap 47 = .ok (.getfield 32, 3) := by decide +kernel
theorem dX2_goToNextMap_50 : decode cX2_goToNextMap 50 = .ok (.iload_n 3, 1) := by decide +kernel
theorem dX2_goToNextMap_51 : decode cX2_goToNextMap 51 = .ok (.iaload, 1) := by decide +kernel
theorem dX2_goToNextMap_52 : decode cX2_goToNextMap 52 = .ok (.aload_n 0, 1) := by decide +kernel
theorem dX2_goToNextMap_53 : decode cX2_goToNextMap 53 = .ok (.getfield 32, 3) := by decide +kernel
theorem dX2_goToNextMap_56 : decode cX2_goToNextMap 56 = .ok (.iload_n 2, 1) := by decide +kernel
theorem dX2_goToNextMap_57 : decode cX2_goToNextMap 57 = .ok (.iaload, 1) := by decide +kernel
theorem dX2_goToNextMap_58 : decode cX2_goToNextMap 58 = .ok (.if_icmp .ge 9, 3) := by decide +kernel
theorem dX2_goToNextMap_61 : decode cX2_goToNextMap 61 = .ok (.iinc 3 (-1), 3) := by decide +kernel
theorem dX2_goToNextMap_64 : decode cX2_goToNextMap 64 = .ok (.goto (-23), 3) := by decide +kernel
theorem dX2_goToNextMap_67 : decode cX2_goToNextMap 67 = .ok (.aload_n 0, 1) := by decide +kernel
theorem dX2_goToNextMap_68 : decode cX2_goToNextMap 68 = .ok (.iload_n 2, 1) := by decide +kernel
theorem dX2_goToNextMap_69 : decode cX2_goToNextMap 69 = .ok (.iload_n 3, 1) := by decide +kernel
theorem dX2_goToNextMap_70 : decode cX2_goToNextMap 70 = .ok (.invokevirtual 217, 3) := by decide +kernel
theorem dX2_goToNextMap_73 : decode cX2_goToNextMap 73 = .ok (.iload_n 2, 1) := by decide +kernel
theorem dX2_goToNextMap_74 : decode cX2_goToNextMap 74 = .ok (.iconst 1, 1) := by decide +kernel
theorem dX2_goToNextMap_75 : decode cX2_goToNextMap 75 = .ok (.iadd, 1) := by decide +kernel
theorem dX2_goToNextMap_76 : decode cX2_goToNextMap 76 = .ok (.istore 4, 2) := by decide +kernel
theorem dX2_goToNextMap_78 : decode cX2_goToNextMap 78 = .ok (.iload_n 1, 1) := by decide +kernel
theorem dX2_goToNextMap_79 : decode cX2_goToNextMap 79 = .ok (.iconst 1, 1) := by decide +kernel
theorem dX2_goToNextMap_80 : decode cX2_goToNextMap 80 = .ok (.isub, 1) := by decide +kernel
theorem dX2_goToNextMap_81 : decode cX2_goToNextMap 81 = .ok (.istore 5, 2) := by decide +kernel
theorem dX2_goToNextMap_83 : decode cX2_goToNextMap 83 = .ok (.iload 4, 2) := by decide +kernel
theorem dX2_goToNextMap_85 : decode cX2_goToNextMap 85 = .ok (.iload 5, 2) := by decide +kernel
theorem dX2_goToNextMap_87 : decode cX2_goToNextMap 87 = .ok (.if_icmp .ge 20, 3) := by decide +kernel
theorem dX2_goToNextMap_90 : decode cX2_goToNextMap 90 = .ok (.aload_n 0, 1) := by decide +kernel
theorem dX2_goToNextMap_91 : decode cX2_goToNextMap 91 = .ok (.iload 4, 2) := by decide +kernel
theorem dX2_goToNextMap_93 : decode cX2_goToNextMap 93 = .ok (.iload 5, 2) := by decide +kernel
theorem dX2_goToNextMap_95 : decode cX2_goToNextMap 95 = .ok (.invokevirtual 217, 3) := by decide +kernel
theorem dX2_goToNextMap_98 : decode cX2_goToNextMap 98 = .ok (.iinc 4 1, 3) := by decide +kernel
theorem dX2_goToNextMap_101 : decode cX2_goToNextMap 101 = .ok (.iinc 5 (-1), 3) := by decide +kernel
theorem dX2_goToNextMap_104 : decode cX2_goToNextMap 104 = .ok (.goto (-21), 3) := by decide +kernel
theorem dX2_goToNextMap_107 : decode cX2_goToNextMap 107 = .ok (.iconst 1, 1) := by decide +kernel
theorem dX2_goToNextMap_108 : decode cX2_goToNextMap 108 = .ok (.ireturn, 1) := by decide +kernel
theorem dX2_swapInMap_0 : decode cX2_swapInMap 0 = .ok (.aload_n 0, 1) := by decide +kernel
theorem dX2_swapInMap_1 : decode cX2_swapInMap 1 = .ok (.getfield 32, 3) := by decide +kernel
theorem dX2_swapInMap_4 : decode cX2_swapInMap 4 = .ok (.iload_n 1, 1) := by decide +kernel
theorem dX2_swapInMap_5 : decode cX2_swapInMap 5 = .ok (.iaload, 1) := by decide +kernel
theorem dX2_swapInMap_6 : decode cX2_swapInMap 6 = .ok (.istore_n 3, 1) := by decide +kernel
theorem dX2_swapInMap_7 : decode cX2_swapInMap 7 = .ok (.aload_n 0, 1) := by decide +kernel
theorem dX2_swapInMap_8 : decode cX2_swapInMap 8 = .ok (.getfield 32, 3) := by decide +kernel
theorem dX2_swapInMap_11 : decode cX2_swapInMap 11 = .ok (.iload_n 1, 1) := by decide +kernel
theorem dX2_swapInMap_12 : decode cX2_swapInMap 12 = .ok (.aload_n 0, 1) := by decide +kernel
theorem dX2_swapInMap_13 : decode cX2_swapInMap 13 = .ok (.getfield 32, 3) := by decide +kernel
theorem dX2_swapInMap_16 : decode cX2_swapInMap 16 = .ok (.iload_n 2, 1) := by decide +kernel
theorem dX2_swapInMap_17 : decode cX2_swapInMap 17 = .ok (.iaload, 1) := by decide +kernel
theorem dX2_swapInMap_18 : decode cX2_swapInMap 18 = .ok (.iastore, 1) := by decide +kernel
theorem dX2_swapInMap_19 : decode cX2_swapInMap 19 = .ok (.aload_n 0, 1) := by decide +kernel
theorem dX2_swapInMap_20 : decode cX2_swapInMap 20 = .ok (.getfield 32, 3) := by decide +kernel
theorem dX2_swapInMap_23 : decode cX2_swapInMap 23 = .ok (.iload_n 2, 1) := by decide +kernel
theorem dX2_swapInMap_24 : decode cX2_swapInMap 24 = .ok (.iload_n 3, 1) := by decide +kernel
theorem dX2_swapInMap_25 : decode cX2_swapInMap 25 = .ok (.iastore, 1) := by decide +kernel
theorem dX2_swapInMap_26 : decode cX2_swapInMap 26 = .ok (.return_, 1) := by decide +kernel
end
section
theorem dX3_init_0 : decode cX3_init 0 = .ok (.aload_n 0, 1) := by decide +kernel
theorem dX3_init_1 : decode cX3_init 1 = .ok (.invokespecial 1, 3) := by decide +kernel
theorem dX3_init_4 : decode cX3_init 4 = .ok (.aload_n 0, 1) := by decide +kernel
theorem dX3_init_5 : decode cX3_init 5 = .ok (.bipush 7, 2) := by decide +kernel
theorem dX3_init_7 : decode cX3_init 7 = .ok (.newarray .int, 2) := by decide +kernel
theorem dX3_init_9 : decode cX3_init 9 = .ok (.putfield 7, 3) := by decide +kernel
theorem dX3_init_12 : decode cX3_init 12 = .ok (.aload_n 0, 1) := by decide +kernel
theorem dX3_init_13 : decode cX3_init 13 = .ok (.bipush 51, 2) := by decide +kernel
theorem dX3_init_15 : decode cX3_init 15 = .ok (.newarray .int, 2) := by decide +kernel
theorem dX3_init_17 : decode cX3_init 17 = .ok (.putfield 13, 3) := by decide +kernel
theorem dX3_init_20 : decode cX3_init 20 = .ok (.aload_n 0, 1) := by decide +kernel
theorem dX3_init_21 : decode cX3_init 21 = .ok (.bipush 51, 2) := by decide +kernel
theorem dX3_init_23 : decode cX3_init 23 = .ok (.newarray .int, 2) := by decide +kernel
theorem dX3_init_25 : decode cX3_init 25 = .ok (.putfield 16, 3) := by decide +kernel
theorem dX3_init_28 : decode cX3_init 28 = .ok (.aload_n 0, 1) := by decide +kernel
theorem dX3_init_29 : decode cX3_init 29 = .ok (.bipush 51, 2) := by decide +kernel
theorem dX3_init_31 : decode cX3_init 31 = .ok (.newarray .int, 2) := by decide +kernel
theorem dX3_init_33 : decode cX3_init 33 = .ok (.putfield 19, 3) := by decide +kernel
theorem dX3_init_36 : decode cX3_init 36 = .ok (.aload_n 0, 1) := by decide +kernel
theorem dX3_init_37 : decode cX3_init 37 = .ok (.bipush 51, 2) := by decide +kernel
theorem dX3_init_39 : decode cX3_init 39 = .ok (.newarray .int, 2) := by decide +kernel
theorem dX3_init_41 : decode cX3_init 41 = .ok (.putfield 22, 3) := by decide +kernel
theorem dX3_init_44 : decode cX3_init 44 = .ok (.aload_n 0, 1) := by decide +kernel
theorem dX3_init_45 : decode cX3_init 45 = .ok (.bipush (-9), 2) := by decide +kernel
theorem dX3_init_47 : decode cX3_init 47 = .ok (.putfield 25, 3) := by decide +kernel
theorem dX3_init_50 : decode cX3_init 50 = .ok (.aload_n 0, 1) := by decide +kernel
theorem dX3_init_51 : decode cX3_init 51 = .ok (.bipush (-9), 2) := by decide +kernel
theorem dX3_init_53 : decode cX3_init 53 = .ok (.putfield 29, 3) := by decide +kernel
theorem dX3_init_56 : decode cX3_init 56 = .ok (.aload_n 0, 1) := by decide +kernel
theorem dX3_init_57 : decode cX3_init 57 = .ok (.bipush 64, 2) := by decide +kernel
theorem dX3_init_59 : decode cX3_init 59 = .ok (.newarray .int, 2) := by decide +kernel
theorem dX3_init_61 : decode cX3_init 61 = .ok (.putfield 32, 3) := by decide +kernel
theorem dX3_init_64 : decode cX3_init 64 = .ok (.aload_n 0, 1) := by decide +kernel
theorem dX3_init_65 : decode cX3_init 65 = .ok (.iconst 4, 1) := by decide +kernel
theorem dX3_init_66 : decode cX3_init 66 = .ok (.newarray .int, 2) := by decide +kernel
theorem dX3_init_68 : decode cX3_init 68 = .ok (.putfield 35, 3) := by decide +kernel
theorem dX3_init_71 : decode cX3_init 71 = .ok (.aload_n 0, 1) := by decide +kernel
theorem dX3_init_72 : decode cX3_init 72 = .ok (.bipush 7, 2) := by decide +kernel
theorem dX3_init_74 : decode cX3_init 74 = .ok (.newarray .int, 2) := by decide +kernel
theorem dX3_init_76 : decode cX3_init 76 = .ok (.putfield 38, 3) := by decide +kernel
theorem dX3_init_79 : decode cX3_init 79 = .ok (.aload_n 0, 1) := by decide +kernel
theorem dX3_init_80 : decode cX3_init 80 = .ok (.bipush 51, 2) := by decide +kernel
theorem dX3_init_82 : decode cX3_init 82 = .ok (.newarray .int, 2) := by decide +kernel
theorem dX3_init_84 : decode cX3_init 84 = .ok (.putfield 41, 3) := by decide +kernel
theorem dX3_init_87 : decode cX3_init 87 = .ok (.aload_n 0, 1) := by decide +kernel
theorem dX3_init_88 : decode cX3_init 88 = .ok (.bipush 41, 2) := by decide +kernel
theorem dX3_init_90 : decode cX3_init 90 = .ok (.newarray .int, 2) := by decide +kernel
theorem dX3_init_92 : decode cX3_init 92 = .ok (.putfield 44, 3) := by decide +kernel
theorem dX3_init_95 : decode cX3_init 95 = .ok (.aload_n 0, 1) := by decide +kernel
theorem dX3_init_96 : decode cX3_init 96 = .ok (.bipush 6, 2) := by decide +kernel
theorem dX3_init_98 : decode cX3_init 98 = .ok (.newarray .int, 2) := by decide +kernel
theorem dX3_init_100 : decode cX3_init 100 = .ok (.putfield 47, 3) := by decide +kernel
theorem dX3_init_103 : decode cX3_init 103 = .ok (.aload_n 0, 1) := by decide +kernel
theorem dX3_init_104 : decode cX3_init 104 = .ok (.bipush 6, 2) := by decide +kernel
theorem dX3_init_106 : decode cX3_init 106 = .ok (.newarray .int, 2) := by decide +kernel
theorem dX3_init_108 : decode cX3_init 108 = .ok (.putfield 50, 3) := by decide +kernel
theorem dX3_init_111 : decode cX3_init 111 = .ok (.aload_n 0, 1) := by decide +kernel
theorem dX3_init_112 : decode cX3_init 112 = .ok (.bipush 6, 2) := by decide +kernel
theorem dX3_init_114 : decode cX3_init 114 = .ok (.newarray .int, 2) := by decide +kernel
theorem dX3_init_116 : decode cX3_init 116 = .ok (.putfield 53, 3) := by decide +kernel
theorem dX3_init_119 : decode cX3_init 119 = .ok (.return_, 1) := by decide +kernel
theorem dX3_refuse_0 : decode cX3_refuse 0 = .ok (.aload_n 0, 1) := by decide +kernel
theorem dX3_refuse_1 : decode cX3_refuse 1 = .ok (.getfield 7, 3) := by decide +kernel
theorem dX3_refuse_4 : decode cX3_refuse 4 = .ok (.iload_n 1, 1) := by decide +kernel
theorem dX3_refuse_5 : decode cX3_refuse 5 = .ok (.ineg, 1) := by decide +kernel
theorem dX3_refuse_6 : decode cX3_refuse 6 = .ok (.dup2, 1) := by decide +kernel
theorem dX3_refuse_7 : decode cX3_refuse 7 = .ok (.iaload, 1) := by decide +kernel
theorem dX3_refuse_8 : decode cX3_refuse 8 = .ok (.iconst 1, 1) := by decide +kernel
theorem dX3_refuse_9 : decode cX3_refuse 9 = .ok (.iadd, 1) := by decide +kernel
theorem dX3_refuse_10 : decode cX3_refuse 10 = .ok (.iastore, 1) := by decide +kernel
theorem dX3_refuse_11 : decode cX3_refuse 11 = .ok (.iload_n 1, 1) := by decide +kernel
theorem dX3_refuse_12 : decode cX3_refuse 12 = .ok (.ireturn, 1) := by decide +kernel
theorem dX3_isIn_0 : decode cX3_isIn 0 = .ok (.iload_n 0, 1) := by decide +kernel
theorem dX3_isIn_1 : decode cX3_isIn 1 = .ok (.ifCond .lt 12, 3) := by decide +kernel
theorem dX3_isIn_4 : decode cX3_isIn 4 = .ok (.iload_n 0, 1) := by decide +kernel
theorem dX3_isIn_5 : decode cX3_isIn 5 = .ok (.iload_n 1, 1) := by decide +kernel
theorem dX3_isIn_6 : decode cX3_isIn 6 = .ok (.if_icmp .ge 7, 3) := by decide +kernel
theorem dX3_isIn_9 : decode cX3_isIn 9 = .ok (.iconst 1, 1) := by decide +kernel
theorem dX3_isIn_10 : decode cX3_isIn 10 = .ok (.goto 4, 3) := by decide +kernel
theorem dX3_isIn_13 : decode cX3_isIn 13 = .ok (.iconst 0, 1) := by decide +kernel
theorem dX3_isIn_14 : decode cX3_isIn 14 = .ok (.ireturn, 1) := by decide +kernel
theorem dX3_within_0 : decode cX3_within 0 = .ok (.iload_n 0, 1) := by decide +kernel
theorem dX3_within_1 : decode cX3_within 1 = .ok (.iload_n 1, 1) := by decide +kernel
theorem dX3_within_2 : decode cX3_within 2 = .ok (.if_icmp .ge 8, 3) := by decide +kernel
theorem dX3_within_5 : decode cX3_within 5 = .ok (.bipush (-4), 2) := by decide +kernel
theorem dX3_within_7 : decode cX3_within 7 = .ok (.goto 14, 3) := by decide +kernel
theorem dX3_within_10 : decode cX3_within 10 = .ok (.iload_n 0, 1) := by decide +kernel
theorem dX3_within_11 : decode cX3_within 11 = .ok (.iload_n 2, 1) := by decide +kernel
theorem dX3_within_12 : decode cX3_within 12 = .ok (.if_icmp .le 8, 3) := by decide +kernel
theorem dX3_within_15 : decode cX3_within 15 = .ok (.bipush (-6), 2) := by decide +kernel
theorem dX3_within_17 : decode cX3_within 17 = .ok (.goto 4, 3) := by decide +kernel
theorem dX3_within_20 : decode cX3_within 20 = .ok (.iconst 0, 1) := by decide +kernel
theorem dX3_within_21 : decode cX3_within 21 = .ok (.ireturn, 1) := by decide +kernel
theorem dX3_lays_0 : decode cX3_lays 0 = .ok (.iconst 0, 1) := by decide +kernel
theorem dX3_lays_1 : decode cX3_lays 1 = .ok (.istore_n 2, 1) := by decide +kernel
theorem dX3_lays_2 : decode cX3_lays 2 = .ok (.iload_n 2, 1) := by decide +kernel
theorem dX3_lays_3 : decode cX3_lays 3 = .ok (.bipush 51, 2) := by decide +kernel
theorem dX3_lays_5 : decode cX3_lays 5 = .ok (.if_icmp .ge 15, 3) := by decide +kernel
theorem dX3_lays_8 : decode cX3_lays 8 = .ok (.aload_n 1, 1) := by decide +kernel
theorem dX3_lays_9 : decode cX3_lays 9 = .ok (.iload_n 2, 1) := by decide +kernel
theorem dX3_lays_10 : decode cX3_lays 10 = .ok (.aload_n 0, 1) := by decide +kernel
theorem dX3_lays_11 : decode cX3_lays 11 = .ok (.iload_n 2, 1) := by decide +kernel
theorem dX3_lays_12 : decode cX3_lays 12 = .ok (.iaload, 1) := by decide +kernel
theorem dX3_lays_13 : decode cX3_lays 13 = .ok (.iastore, 1) := by decide +kernel
theorem dX3_lays_14 : decode cX3_lays 14 = .ok (.iinc 2 1, 3) := by decide +kernel
theorem dX3_lays_17 : decode cX3_lays 17 = .ok (.goto (-15), 3) := by decide +kernel
theorem dX3_lays_20 : decode cX3_lays 20 = .ok (.return_, 1) := by decide +kernel
theorem dX3_begins_0 : decode cX3_begins 0 = .ok (.aload_n 0, 1) := by decide +kernel
theorem dX3_begins_1 : decode cX3_begins 1 = .ok (.getfield 13, 3) := by decide +kernel
theorem dX3_begins_4 : decode cX3_begins 4 = .ok (.aload_n 0, 1) := by decide +kernel
theorem dX3_begins_5 : decode cX3_begins 5 = .ok (.getfield 22, 3) := by decide +kernel
theorem dX3_begins_8 : decode cX3_begins 8 = .ok (.invokestatic 56, 3) := by decide +kernel
theorem dX3_begins_11 : decode cX3_begins 11 = .ok (.return_, 1) := by decide +kernel
theorem dX3_ends_0 : decode cX3_ends 0 = .ok (.aload_n 0, 1) := by decide +kernel
theorem dX3_ends_1 : decode cX3_ends 1 = .ok (.getfield 22, 3) := by decide +kernel
theorem dX3_ends_4 : decode cX3_ends 4 = .ok (.aload_n 0, 1) := by decide +kernel
theorem dX3_ends_5 : decode cX3_ends 5 = .ok (.getfield 13, 3) := by decide +kernel
theorem dX3_ends_8 : decode cX3_ends 8 = .ok (.invokestatic 56, 3) := by decide +kernel
theorem dX3_ends_11 : decode cX3_ends 11 = .ok (.return_, 1) := by decide +kernel
theorem dX3_isStreet_0 : decode cX3_isStreet 0 = .ok (.iload_n 1, 1) := by decide +kernel
theorem dX3_isStreet_1 : decode cX3_isStreet 1 = .ok (.aload_n 0, 1) := by decide +kernel
theorem dX3_isStreet_2 : decode cX3_isStreet 2 = .ok (.getfield 13, 3) := by decide +kernel
theorem dX3_isStreet_5 : decode cX3_isStreet 5 = .ok (.iconst 0, 1) := by decide +kernel
theorem dX3_isStreet_6 : decode cX3_isStreet 6 = .ok (.iaload, 1) := by decide +kernel
theorem dX3_isStreet_7 : decode cX3_isStreet 7 = .ok (.invokestatic 60, 3) := by decide +kernel
theorem dX3_isStreet_10 : decode cX3_isStreet 10 = .ok (.ireturn, 1) := by decide +kernel
theorem dX3_get_0 : decode cX3_get 0 = .ok (.aload_n 0, 1) := by decide +kernel
theorem dX3_get_1 : decode cX3_get 1 = .ok (.getfield 13, 3) := by decide +kernel
theorem dX3_get_4 : decode cX3_get 4 = .ok (.iconst 2, 1) := by decide +kernel
theorem dX3_get_5 : decode cX3_get 5 = .ok (.bipush 7, 2) := by decide +kernel
theorem dX3_get_7 : decode cX3_get 7 = .ok (.iload_n 1, 1) := by decide +kernel
theorem dX3_get_8 : decode cX3_get 8 = .ok (.imul, 1) := by decide +kernel
theorem dX3_get_9 : decode cX3_get 9 = .ok (.iadd, 1) := by decide +kernel
theorem dX3_get_10 : decode cX3_get 10 = .ok (.iload_n 2, 1) := by decide +kernel
theorem dX3_get_11 : decode cX3_get 11 = .ok (.iadd, 1) := by decide +kernel
theorem dX3_get_12 : decode cX3_get 12 = .ok (.iaload, 1) := by decide +kernel
theorem dX3_get_13 : decode cX3_get 13 = .ok (.ireturn, 1) := by decide +kernel
theorem dX3_puts_0 : decode cX3_puts 0 = .ok (.aload_n 0, 1) := by decide +kernel
theorem dX3_puts_1 : decode cX3_puts 1 = .ok (.getfield 13, 3) := by decide +kernel
theorem dX3_puts_4 : decode cX3_puts 4 = .ok (.iconst 2, 1) := by decide +kernel
theorem dX3_puts_5 : decode cX3_puts 5 = .ok (.bipush 7, 2) := by decide +kernel
theorem dX3_puts_7 : decode cX3_puts 7 = .ok (.iload_n 1, 1) := by decide +kernel
theorem dX3_puts_8 : decode cX3_puts 8 = .ok (.imul, 1) := by decide +kernel
theorem dX3_puts_9 : decode cX3_puts 9 = .ok (.iadd, 1) := by decide +kernel
theorem dX3_puts_10 : decode cX3_puts 10 = .ok (.iload_n 2, 1) := by decide +kernel
theorem dX3_puts_11 : decode cX3_puts 11 = .ok (.iadd, 1) := by decide +kernel
theorem dX3_puts_12 : decode cX3_puts 12 = .ok (.iload_n 3, 1) := by decide +kernel
theorem dX3_puts_13 : decode cX3_puts 13 = .ok (.iastore, 1) := by decide +kernel
theorem dX3_puts_14 : decode cX3_puts 14 = .ok (.return_, 1) := by decide +kernel
theorem dX3_letter_0 : decode cX3_letter 0 = .ok (.iload_n 1, 1) := by decide +kernel
theorem dX3_letter_1 : decode cX3_letter 1 = .ok (.iconst 0, 1) := by decide +kernel
theorem dX3_letter_2 : decode cX3_letter 2 = .ok (.sipush 255, 3) := by decide +kernel
theorem dX3_letter_5 : decode cX3_letter 5 = .ok (.invokestatic 64, 3) := by decide +kernel
theorem dX3_letter_8 : decode cX3_letter 8 = .ok (.istore_n 2, 1) := by decide +kernel
theorem dX3_letter_9 : decode cX3_letter 9 = .ok (.iload_n 2, 1) := by decide +kernel
theorem dX3_letter_10 : decode cX3_letter 10 = .ok (.ifCond .ne 15, 3) := by decide +kernel
theorem dX3_letter_13 : decode cX3_letter 13 = .ok (.aload_n 0, 1) := by decide +kernel
theorem dX3_letter_14 : decode cX3_letter 14 = .ok (.getfield 68, 3) := by decide +kernel
theorem dX3_letter_17 : decode cX3_letter 17 = .ok (.bipush 64, 2) := by decide +kernel
theorem dX3_letter_19 : decode cX3_letter 19 = .ok (.if_icmp .ne 6, 3) := by decide +kernel
theorem dX3_letter_22 : decode cX3_letter 22 = .ok (.bipush (-6), 2) := by decide +kernel
theorem dX3_letter_24 : decode cX3_letter 24 = .ok (.istore_n 2, 1) := by decide +kernel
theorem dX3_letter_25 : decode cX3_letter 25 = .ok (.iload_n 2, 1) := by decide +kernel
theorem dX3_letter_26 : decode cX3_letter 26 = .ok (.ifCond .eq 9, 3) := by decide +kernel
theorem dX3_letter_29 : decode cX3_letter 29 = .ok (.aload_n 0, 1) := by decide +kernel
theorem dX3_letter_30 : decode cX3_letter 30 = .ok (.iload_n 2, 1) := by decide +kernel
theorem dX3_letter_31 : decode cX3_letter 31 = .ok (.invokevirtual 71, 3) := by decide +kernel
theorem dX3_letter_34 : decode cX3_letter 34 = .ok (.ireturn, 1) := by decide +kernel
theorem dX3_letter_35 : decode cX3_letter 35 = .ok (.aload_n 0, 1) := by decide +kernel
theorem dX3_letter_36 : decode cX3_letter 36 = .ok (.getfield 32, 3) := by decide +kernel
theorem dX3_letter_39 : decode cX3_letter 39 = .ok (.aload_n 0, 1) := by decide +kernel
theorem dX3_letter_40 : decode cX3_letter 40 = .ok (.getfield 68, 3) := by decide +kernel
theorem dX3_letter_43 : decode cX3_letter 43 = .ok (.iload_n 1, 1) := by decide +kernel
theorem dX3_letter_44 : decode cX3_letter 44 = .ok (.iastore, 1) := by decide +kernel
theorem dX3_letter_45 : decode cX3_letter 45 = .ok (.aload_n 0, 1) := by decide +kernel
theorem dX3_letter_46 : decode cX3_letter 46 = .ok (.dup, 1) := by decide +kernel
theorem dX3_letter_47 : decode cX3_letter 47 = .ok (.getfield 68, 3) := by decide +kernel
theorem dX3_letter_50 : decode cX3_letter 50 = .ok (.iconst 1, 1) := by decide +kernel
theorem dX3_letter_51 : decode cX3_letter 51 = .ok (.iadd, 1) := by decide +kernel
theorem dX3_letter_52 : decode cX3_letter 52 = .ok (.putfield 68, 3) := by decide +kernel
theorem dX3_letter_55 : decode cX3_letter 55 = .ok (.aload_n 0, 1) := by decide +kernel
theorem dX3_letter_56 : decode cX3_letter 56 = .ok (.getfield 68, 3) := by decide +kernel
theorem dX3_letter_59 : decode cX3_letter 59 = .ok (.ireturn, 1) := by decide +kernel
theorem dX3_sign_0 : decode cX3_sign 0 = .ok (.aload_n 0, 1) := by decide +kernel
theorem dX3_sign_1 : decode cX3_sign 1 = .ok (.getfield 75, 3) := by decide +kernel
theorem dX3_sign_4 : decode cX3_sign 4 = .ok (.aload_n 0, 1) := by decide +kernel
theorem dX3_sign_5 : decode cX3_sign 5 = .ok (.getfield 68, 3) := by decide +kernel
theorem dX3_sign_8 : decode cX3_sign 8 = .ok (.if_icmp .ge 15, 3) := by decide +kernel
theorem dX3_sign_11 : decode cX3_sign 11 = .ok (.aload_n 0, 1) := by decide +kernel
theorem dX3_sign_12 : decode cX3_sign 12 = .ok (.getfield 32, 3) := by decide +kernel
theorem dX3_sign_15 : decode cX3_sign 15 = .ok (.aload_n 0, 1) := by decide +kernel
theorem dX3_sign_16 : decode cX3_sign 16 = .ok (.getfield 75, 3) := by decide +kernel
theorem dX3_sign_19 : decode cX3_sign 19 = .ok (.iaload, 1) := by decide +kernel
theorem dX3_sign_20 : decode cX3_sign 20 = .ok (.goto 4, 3) := by decide +kernel
theorem dX3_sign_23 : decode cX3_sign 23 = .ok (.iconst (-1), 1) := by decide +kernel
theorem dX3_sign_24 : decode cX3_sign 24 = .ok (.ireturn, 1) := by decide +kernel
theorem dX3_takes_0 : decode cX3_takes 0 = .ok (.aload_n 0, 1) := by decide +kernel
theorem dX3_takes_1 : decode cX3_takes 1 = .ok (.invokevirtual 78, 3) := by decide +kernel
theorem dX3_takes_4 : decode cX3_takes 4 = .ok (.iload_n 1, 1) := by decide +kernel
theorem dX3_takes_5 : decode cX3_takes 5 = .ok (.if_icmp .eq 5, 3) := by decide +kernel
theorem dX3_takes_8 : decode cX3_takes 8 = .ok (.iconst 0, 1) := by decide +kernel
theorem dX3_takes_9 : decode cX3_takes 9 = .ok (.ireturn, 1) := by decide +kernel
theorem dX3_takes_10 : decode cX3_takes 10 = .ok (.aload_n 0, 1) := by decide +kernel
theorem dX3_takes_11 : decode cX3_takes 11 = .ok (.dup, 1) := by decide +kernel
theorem dX3_takes_12 : decode cX3_takes 12 = .ok (.getfield 75, 3) := by decide +kernel
theorem dX3_takes_15 : decode cX3_takes 15 = .ok (.iconst 1, 1) := by decide +kernel
theorem dX3_takes_16 : decode cX3_takes 16 = .ok (.iadd, 1) := by decide +kernel
theorem dX3_takes_17 : decode cX3_takes 17 = .ok (.putfield 75, 3) := by decide +kernel
theorem dX3_takes_20 : decode cX3_takes 20 = .ok (.iconst 1, 1) := by decide +kernel
theorem dX3_takes_21 : decode cX3_takes 21 = .ok (.ireturn, 1) := by decide +kernel
theorem dX3_readsNumber_0 : decode cX3_readsNumber 0 = .ok (.aload_n 0, 1) := by decide +kernel
theorem dX3_readsNumber_1 : decode cX3_readsNumber 1 = .ok (.getfield 35, 3) := by decide +kernel
theorem dX3_readsNumber_4 : decode cX3_readsNumber 4 = .ok (.iload_n 1, 1) := by decide +kernel
theorem dX3_readsNumber_5 : decode cX3_readsNumber 5 = .ok (.iconst 0, 1) := by decide +kernel
theorem dX3_readsNumber_6 : decode cX3_readsNumber 6 = .ok (.iastore, 1) := by decide +kernel
theorem dX3_readsNumber_7 : decode cX3_readsNumber 7 = .ok (.iconst 0, 1) := by decide +kernel
theorem dX3_readsNumber_8 : decode cX3_readsNumber 8 = .ok (.istore_n 3, 1) := by decide +kernel
theorem dX3_readsNumber_9 : decode cX3_readsNumber 9 = .ok (.iload_n 3, 1) := by decide +kernel
theorem dX3_readsNumber_10 : decode cX3_readsNumber 10 = .ok (.iload_n 2, 1) := by decide +kernel
theorem dX3_readsNumber_11 : decode cX3_readsNumber 11 = .ok (.if_icmp .ge 57, 3) := by decide +kernel
theorem dX3_readsNumber_14 : decode cX3_readsNumber 14 = .ok (.aload_n 0, 1) := by decide +kernel
theorem dX3_readsNumber_15 : decode cX3_readsNumber 15 = .ok (.invokevirtual 78, 3) := by decide +kernel
theorem dX3_readsNumber_18 : decode cX3_readsNumber 18 = .ok (.bipush 48, 2) := by decide +kernel
theorem dX3_readsNumber_20 : decode cX3_readsNumber 20 = .ok (.isub, 1) := by decide +kernel
theorem dX3_readsNumber_21 : decode cX3_readsNumber 21 = .ok (.bipush 10, 2) := by decide +kernel
theorem dX3_readsNumber_23 : decode cX3_readsNumber 23 = .ok (.invokestatic 60, 3) := by decide +kernel
theorem dX3_readsNumber_26 : decode cX3_readsNumber 26 = .ok (.ifCond .eq 42, 3) := by decide +kernel
theorem dX3_readsNumber_29 : decode cX3_readsNumber 29 = .ok (.aload_n 0, 1) := by decide +kernel
theorem dX3_readsNumber_30 : decode cX3_readsNumber 30 = .ok (.getfield 35, 3) := by decide +kernel
theorem dX3_readsNumber_33 : decode cX3_readsNumber 33 = .ok (.iload_n 1, 1) := by decide +kernel
theorem dX3_readsNumber_34 : decode cX3_readsNumber 34 = .ok (.bipush 10, 2) := by decide +kernel
theorem dX3_readsNumber_36 : decode cX3_readsNumber 36 = .ok (.aload_n 0, 1) := by decide +kernel
theorem dX3_readsNumber_37 : decode cX3_readsNumber 37 = .ok (.getfield 35, 3) := by decide +kernel
theorem dX3_readsNumber_40 : decode cX3_readsNumber 40 = .ok (.iload_n 1, 1) := by decide +kernel
theorem dX3_readsNumber_41 : decode cX3_readsNumber 41 = .ok (.iaload, 1) := by decide +kernel
theorem dX3_readsNumber_42 : decode cX3_readsNumber 42 = .ok (.imul, 1) := by decide +kernel
theorem dX3_readsNumber_43 : decode cX3_readsNumber 43 = .ok (.aload_n 0, 1) := by decide +kernel
theorem dX3_readsNumber_44 : decode cX3_readsNumber 44 = .ok (.invokevirtual 78, 3) := by decide +kernel
theorem dX3_readsNumber_47 : decode cX3_readsNumber 47 = .ok (.iadd, 1) := by decide +kernel
theorem dX3_readsNumber_48 : decode cX3_readsNumber 48 = .ok (.bipush 48, 2) := by decide +kernel
theorem dX3_readsNumber_50 : decode cX3_readsNumber 50 = .ok (.isub, 1) := by decide +kernel
theorem dX3_readsNumber_51 : decode cX3_readsNumber 51 = .ok (.iastore, 1) := by decide +kernel
theorem dX3_readsNumber_52 : decode cX3_readsNumber 52 = .ok (.aload_n 0, 1) := by decide +kernel
theorem dX3_readsNumber_53 : decode cX3_readsNumber 53 = .ok (.dup, 1) := by decide +kernel
theorem dX3_readsNumber_54 : decode cX3_readsNumber 54 = .ok (.getfield 75, 3) := by decide +kernel
theorem dX3_readsNumber_57 : decode cX3_readsNumber 57 = .ok (.iconst 1, 1) := by decide +kernel
theorem dX3_readsNumber_58 : decode cX3_readsNumber 58 = .ok (.iadd, 1) := by decide +kernel
theorem dX3_readsNumber_59 : decode cX3_readsNumber 59 = .ok (.putfield 75, 3) := by decide +kernel
theorem dX3_readsNumber_62 : decode cX3_readsNumber 62 = .ok (.iinc 3 1, 3) := by decide +kernel
theorem dX3_readsNumber_65 : decode cX3_readsNumber 65 = .ok (.goto (-56), 3) := by decide +kernel
theorem dX3_readsNumber_68 : decode cX3_readsNumber 68 = .ok (.iload_n 3, 1) := by decide +kernel
theorem dX3_readsNumber_69 : decode cX3_readsNumber 69 = .ok (.ifCond .le 7, 3) := by decide +kernel
theorem dX3_readsNumber_72 : decode cX3_readsNumber 72 = .ok (.iconst 1, 1) := by decide +kernel
theorem dX3_readsNumber_73 : decode cX3_readsNumber 73 = .ok (.goto 4, 3) := by decide +kernel
theorem dX3_readsNumber_76 : decode cX3_readsNumber 76 = .ok (.iconst 0, 1) := by decide +kernel
theorem dX3_readsNumber_77 : decode cX3_readsNumber 77 = .ok (.ireturn, 1) := by decide +kernel
theorem dX3_kindOf_0 : decode cX3_kindOf 0 = .ok (.iload_n 0, 1) := by decide +kernel
theorem dX3_kindOf_1 : decode cX3_kindOf 1 = .ok (.lookupswitch 71 #[(99, 69), (100, 59), (108, 61), (109, 67), (116, 63), (119, 65)], 59) := by decide +kernel
theorem dX3_kindOf_60 : decode cX3_kindOf 60 = .ok (.iconst 0, 1) := by decide +kernel
theorem dX3_kindOf_61 : decode cX3_kindOf 61 = .ok (.ireturn, 1) := by decide +kernel
theorem dX3_kindOf_62 : decode cX3_kindOf 62 = .ok (.iconst 1, 1) := by decide +kernel
theorem dX3_kindOf_63 : decode cX3_kindOf 63 = .ok (.ireturn, 1) := by decide +kernel
theorem dX3_kindOf_64 : decode cX3_kindOf 64 = .ok (.iconst 2, 1) := by decide +kernel
theorem dX3_kindOf_65 : decode cX3_kindOf 65 = .ok (.ireturn, 1) := by decide +kernel
theorem dX3_kindOf_66 : decode cX3_kindOf 66 = .ok (.iconst 3, 1) := by decide +kernel
theorem dX3_kindOf_67 : decode cX3_kindOf 67 = .ok (.ireturn, 1) := by decide +kernel
theorem dX3_kindOf_68 : decode cX3_kindOf 68 = .ok (.iconst 4, 1) := by decide +kernel
theorem dX3_kindOf_69 : decode cX3_kindOf 69 = .ok (.ireturn, 1) := by decide +kernel
theorem dX3_kindOf_70 : decode cX3_kindOf 70 = .ok (.iconst 5, 1) := by decide +kernel
theorem dX3_kindOf_71 : decode cX3_kindOf 71 = .ok (.ireturn, 1) := by decide +kernel
theorem dX3_kindOf_72 : decode cX3_kindOf 72 = .ok (.bipush (-9), 2) := by decide +kernel
theorem dX3_kindOf_74 : decode cX3_kindOf 74 = .ok (.ireturn, 1) := by decide +kernel
theorem dX3_readsKind_0 : decode cX3_readsKind 0 = .ok (.aload_n 0, 1) := by decide +kernel
theorem dX3_readsKind_1 : decode cX3_readsKind 1 = .ok (.getfield 35, 3) := by decide +kernel
theorem dX3_readsKind_4 : decode cX3_readsKind 4 = .ok (.iconst 0, 1) := by decide +kernel
theorem dX3_readsKind_5 : decode cX3_readsKind 5 = .ok (.aload_n 0, 1) := by decide +kernel
theorem dX3_readsKind_6 : decode cX3_readsKind 6 = .ok (.invokevirtual 78, 3) := by decide +kernel
theorem dX3_readsKind_9 : decode cX3_readsKind 9 = .ok (.invokestatic 82, 3) := by decide +kernel
theorem dX3_readsKind_12 : decode cX3_readsKind 12 = .ok (.iastore, 1) := by decide +kernel
theorem dX3_readsKind_13 : decode cX3_readsKind 13 = .ok (.aload_n 0, 1) := by decide +kernel
theorem dX3_readsKind_14 : decode cX3_readsKind 14 = .ok (.getfield 35, 3) := by decide +kernel
theorem dX3_readsKind_17 : decode cX3_readsKind 17 = .ok (.iconst 0, 1) := by decide +kernel
theorem dX3_readsKind_18 : decode cX3_readsKind 18 = .ok (.iaload, 1) := by decide +kernel
theorem dX3_readsKind_19 : decode cX3_readsKind 19 = .ok (.ifCond .ge 5, 3) := by decide +kernel
theorem dX3_readsKind_22 : decode cX3_readsKind 22 = .ok (.iconst 0, 1) := by decide +kernel
theorem dX3_readsKind_23 : decode cX3_readsKind 23 = .ok (.ireturn, 1) := by decide +kernel
theorem dX3_readsKind_24 : decode cX3_readsKind 24 = .ok (.aload_n 0, 1) := by decide +kernel
theorem dX3_readsKind_25 : decode cX3_readsKind 25 = .ok (.dup, 1) := by decide +kernel
theorem dX3_readsKind_26 : decode cX3_readsKind 26 = .ok (.getfield 75, 3) := by decide +kernel
theorem dX3_readsKind_29 : decode cX3_readsKind 29 = .ok (.iconst 1, 1) := by decide +kernel
theorem dX3_readsKind_30 : decode cX3_readsKind 30 = .ok (.iadd, 1) := by decide +kernel
theorem dX3_readsKind_31 : decode cX3_readsKind 31 = .ok (.putfield 75, 3) := by decide +kernel
theorem dX3_readsKind_34 : decode cX3_readsKind 34 = .ok (.iconst 1, 1) := by decide +kernel
theorem dX3_readsKind_35 : decode cX3_readsKind 35 = .ok (.ireturn, 1) := by decide +kernel
theorem dX3_readsStatement_0 : decode cX3_readsStatement 0 = .ok (.aload_n 0, 1) := by decide +kernel
theorem dX3_readsStatement_1 : decode cX3_readsStatement 1 = .ok (.invokevirtual 78, 3) := by decide +kernel
theorem dX3_readsStatement_4 : decode cX3_readsStatement 4 = .ok (.istore_n 1, 1) := by decide +kernel
theorem dX3_readsStatement_5 : decode cX3_readsStatement 5 = .ok (.iconst 0, 1) := by decide +kernel
theorem dX3_readsStatement_6 : decode cX3_readsStatement 6 = .ok (.istore_n 2, 1) := by decide +kernel
theorem dX3_readsStatement_7 : decode cX3_readsStatement 7 = .ok (.aload_n 0, 1) := by decide +kernel
theorem dX3_readsStatement_8 : decode cX3_readsStatement 8 = .ok (.dup, 1) := by decide +kernel
theorem dX3_readsStatement_9 : decode cX3_readsStatement 9 = .ok (.getfield 75, 3) := by decide +kernel
theorem dX3_readsStatement_12 : decode cX3_readsStatement 12 = .ok (.iconst 1, 1) := by decide +kernel
theorem dX3_readsStatement_13 : decode cX3_readsStatement 13 = .ok (.iadd, 1) := by decide +kernel
theorem dX3_readsStatement_14 : decode cX3_readsStatement 14 = .ok (.putfield 75, 3) := by decide +kernel
theorem dX3_readsStatement_17 : decode cX3_readsStatement 17 = .ok (.iload_n 1, 1) := by decide +kernel
theorem dX3_readsStatement_18 : decode cX3_readsStatement 18 = .ok (.lookupswitch 140 #[(109, 77), (112, 104), (115, 34)], 34) := by decide +kernel
theorem dX3_readsStatement_52 : decode cX3_readsStatement 52 = .ok (.aload_n 0, 1) := by decide +kernel
theorem dX3_readsStatement_53 : decode cX3_readsStatement 53 = .ok (.invokevirtual 85, 3) := by decide +kernel
theorem dX3_readsStatement_56 : decode cX3_readsStatement 56 = .ok (.ifCond .eq 34, 3) := by decide +kernel
theorem dX3_readsStatement_59 : decode cX3_readsStatement 59 = .ok (.aload_n 0, 1) := by decide +kernel
theorem dX3_readsStatement_60 : decode cX3_readsStatement 60 = .ok (.iconst 1, 1) := by decide +kernel
theorem dX3_readsStatement_61 : decode cX3_readsStatement 61 = .ok (.iconst 1, 1) := by decide +kernel
theorem dX3_readsStatement_62 : decode cX3_readsStatement 62 = .ok (.invokevirtual 89, 3) := by decide +kernel
theorem dX3_readsStatement_65 : decode cX3_readsStatement 65 = .ok (.ifCond .eq 25, 3) := by decide +kernel
theorem dX3_readsStatement_68 : decode cX3_readsStatement 68 = .ok (.aload_n 0, 1) := by decide +kernel
theorem dX3_readsStatement_69 : decode cX3_readsStatement 69 = .ok (.iconst 2, 1) := by decide +kernel
theorem dX3_readsStatement_70 : decode cX3_readsStatement 70 = .ok (.iconst 1, 1) := by decide +kernel
theorem dX3_readsStatement_71 : decode cX3_readsStatement 71 = .ok (.invokevirtual 89, 3) := by decide +kernel
theorem dX3_readsStatement_74 : decode cX3_readsStatement 74 = .ok (.ifCond .eq 16, 3) := by decide +kernel
theorem dX3_readsStatement_77 : decode cX3_readsStatement 77 = .ok (.aload_n 0, 1) := by decide +kernel
theorem dX3_readsStatement_78 : decode cX3_readsStatement 78 = .ok (.iconst 3, 1) := by decide +kernel
theorem dX3_readsStatement_79 : decode cX3_readsStatement 79 = .ok (.iconst 1, 1) := by decide +kernel
theorem dX3_readsStatement_80 : decode cX3_readsStatement 80 = .ok (.invokevirtual 89, 3) := by decide +kernel
theorem dX3_readsStatement_83 : decode cX3_readsStatement 83 = .ok (.ifCond .eq 7, 3) := by decide +kernel
theorem dX3_readsStatement_86 : decode cX3_readsStatement 86 = .ok (.iconst 1, 1) := by decide +kernel
theorem dX3_readsStatement_87 : decode cX3_readsStatement 87 = .ok (.goto 4, 3) := by decide +kernel
theorem dX3_readsStatement_90 : decode cX3_readsStatement 90 = .ok (.iconst 0, 1) := by decide +kernel
theorem dX3_readsStatement_91 : decode cX3_readsStatement 91 = .ok (.istore_n 2, 1) := by decide +kernel
theorem dX3_readsStatement_92 : decode cX3_readsStatement 92 = .ok (.goto 78, 3) := by decide +kernel
theorem dX3_readsStatement_95 : decode cX3_readsStatement 95 = .ok (.aload_n 0, 1) := by decide +kernel
theorem dX3_readsStatement_96 : decode cX3_readsStatement 96 = .ok (.iconst 0, 1) := by decide +kernel
theorem dX3_readsStatement_97 : decode cX3_readsStatement 97 = .ok (.iconst 1, 1) := by decide +kernel
theorem dX3_readsStatement_98 : decode cX3_readsStatement 98 = .ok (.invokevirtual 89, 3) := by decide +kernel
theorem dX3_readsStatement_101 : decode cX3_readsStatement 101 = .ok (.ifCond .eq 16, 3) := by decide +kernel
theorem dX3_readsStatement_104 : decode cX3_readsStatement 104 = .ok (.aload_n 0, 1) := by decide +kernel
theorem dX3_readsStatement_105 : decode cX3_readsStatement 105 = .ok (.iconst 1, 1) := by decide +kernel
theorem dX3_readsStatement_106 : decode cX3_readsStatement 106 = .ok (.iconst 1, 1) := by decide +kernel
theorem dX3_readsStatement_107 : decode cX3_readsStatement 107 = .ok (.invokevirtual 89, 3) := by decide +kernel
theorem dX3_readsStatement_110 : decode cX3_readsStatement 110 = .ok (.ifCond .eq 7, 3) := by decide +kernel
theorem dX3_readsStatement_113 : decode cX3_readsStatement 113 = .ok (.iconst 1, 1) := by decide +kernel
theorem dX3_readsStatement_114 : decode cX3_readsStatement 114 = .ok (.goto 4, 3) := by decide +kernel
theorem dX3_readsStatement_117 : decode cX3_readsStatement 117 = .ok (.iconst 0, 1) := by decide +kernel
theorem dX3_readsStatement_118 : decode cX3_readsStatement 118 = .ok (.istore_n 2, 1) := by decide +kernel
theorem dX3_readsStatement_119 : decode cX3_readsStatement 119 = .ok (.goto 51, 3) := by decide +kernel
theorem dX3_readsStatement_122 : decode cX3_readsStatement 122 = .ok (.aload_n 0, 1) := by decide +kernel
theorem dX3_readsStatement_123 : decode cX3_readsStatement 123 = .ok (.iconst 0, 1) := by decide +kernel
theorem dX3_readsStatement_124 : decode cX3_readsStatement 124 = .ok (.iconst 1, 1) := by decide +kernel
theorem dX3_readsStatement_125 : decode cX3_readsStatement 125 = .ok (.invokevirtual 89, 3) := by decide +kernel
theorem dX3_readsStatement_128 : decode cX3_readsStatement 128 = .ok (.ifCond .eq 25, 3) := by decide +kernel
theorem dX3_readsStatement_131 : decode cX3_readsStatement 131 = .ok (.aload_n 0, 1) := by decide +kernel
theorem dX3_readsStatement_132 : decode cX3_readsStatement 132 = .ok (.bipush 44, 2) := by decide +kernel
theorem dX3_readsStatement_134 : decode cX3_readsStatement 134 = .ok (.invokevirtual 92, 3) := by decide +kernel
theorem dX3_readsStatement_137 : decode cX3_readsStatement 137 = .ok (.ifCond .eq 16, 3) := by decide +kernel
theorem dX3_readsStatement_140 : decode cX3_readsStatement 140 = .ok (.aload_n 0, 1) := by decide +kernel
theorem dX3_readsStatement_141 : decode cX3_readsStatement 141 = .ok (.iconst 1, 1) := by decide +kernel
theorem dX3_readsStatement_142 : decode cX3_readsStatement 142 = .ok (.iconst 2, 1) := by decide +kernel
theorem dX3_readsStatement_143 : decode cX3_readsStatement 143 = .ok (.invokevirtual 89, 3) := by decide +kernel
theorem dX3_readsStatement_146 : decode cX3_readsStatement 146 = .ok (.ifCond .eq 7, 3) := by decide +kernel
theorem dX3_readsStatement_149 : decode cX3_readsStatement 149 = .ok (.iconst 1, 1) := by decide +kernel
theorem dX3_readsStatement_150 : decode cX3_readsStatement 150 = .ok (.goto 4, 3) := by decide +kernel
theorem dX3_readsStatement_153 : decode cX3_readsStatement 153 = .ok (.iconst 0, 1) := by decide +kernel
theorem dX3_readsStatement_154 : decode cX3_readsStatement 154 = .ok (.istore_n 2, 1) := by decide +kernel
theorem dX3_readsStatement_155 : decode cX3_readsStatement 155 = .ok (.goto 15, 3) := by decide +kernel
theorem dX3_readsStatement_158 : decode cX3_readsStatement 158 = .ok (.aload_n 0, 1) := by decide +kernel
theorem dX3_readsStatement_159 : decode cX3_readsStatement 159 = .ok (.dup, 1) := by decide +kernel
theorem dX3_readsStatement_160 : decode cX3_readsStatement 160 = .ok (.getfield 75, 3) := by decide +kernel
theorem dX3_readsStatement_163 : decode cX3_readsStatement 163 = .ok (.iconst 1, 1) := by decide +kernel
theorem dX3_readsStatement_164 : decode cX3_readsStatement 164 = .ok (.isub, 1) := by decide +kernel
theorem dX3_readsStatement_165 : decode cX3_readsStatement 165 = .ok (.putfield 75, 3) := by decide +kernel
theorem dX3_readsStatement_168 : decode cX3_readsStatement 168 = .ok (.iconst 0, 1) := by decide +kernel
theorem dX3_readsStatement_169 : decode cX3_readsStatement 169 = .ok (.ireturn, 1) := by decide +kernel
theorem dX3_readsStatement_170 : decode cX3_readsStatement 170 = .ok (.iload_n 2, 1) := by decide +kernel
theorem dX3_readsStatement_171 : decode cX3_readsStatement 171 = .ok (.ifCond .eq 16, 3) := by decide +kernel
theorem dX3_readsStatement_174 : decode cX3_readsStatement 174 = .ok (.aload_n 0, 1) := by decide +kernel
theorem dX3_readsStatement_175 : decode cX3_readsStatement 175 = .ok (.bipush 59, 2) := by decide +kernel
theorem dX3_readsStatement_177 : decode cX3_readsStatement 177 = .ok (.invokevirtual 92, 3) := by decide +kernel
theorem dX3_readsStatement_180 : decode cX3_readsStatement 180 = .ok (.ifCond .eq 7, 3) := by decide +kernel
theorem dX3_readsStatement_183 : decode cX3_readsStatement 183 = .ok (.iconst 1, 1) := by decide +kernel
theorem dX3_readsStatement_184 : decode cX3_readsStatement 184 = .ok (.goto 4, 3) := by decide +kernel
theorem dX3_readsStatement_187 : decode cX3_readsStatement 187 = .ok (.iconst 0, 1) := by decide +kernel
theorem dX3_readsStatement_188 : decode cX3_readsStatement 188 = .ok (.ireturn, 1) := by decide +kernel
theorem dX3_setIn_0 : decode cX3_setIn 0 = .ok (.aload_n 0, 1) := by decide +kernel
theorem dX3_setIn_1 : decode cX3_setIn 1 = .ok (.iconst 2, 1) := by decide +kernel
theorem dX3_setIn_2 : decode cX3_setIn 2 = .ok (.bipush 7, 2) := by decide +kernel
theorem dX3_setIn_4 : decode cX3_setIn 4 = .ok (.iload_n 1, 1) := by decide +kernel
theorem dX3_setIn_5 : decode cX3_setIn 5 = .ok (.imul, 1) := by decide +kernel
theorem dX3_setIn_6 : decode cX3_setIn 6 = .ok (.iadd, 1) := by decide +kernel
theorem dX3_setIn_7 : decode cX3_setIn 7 = .ok (.iload_n 2, 1) := by decide +kernel
theorem dX3_setIn_8 : decode cX3_setIn 8 = .ok (.iadd, 1) := by decide +kernel
theorem dX3_setIn_9 : decode cX3_setIn 9 = .ok (.iload_n 3, 1) := by decide +kernel
theorem dX3_setIn_10 : decode cX3_setIn 10 = .ok (.iastore, 1) := by decide +kernel
theorem dX3_setIn_11 : decode cX3_setIn 11 = .ok (.return_, 1) := by decide +kernel
theorem dX3_comes_0 : decode cX3_comes 0 = .ok (.aload_n 0, 1) := by decide +kernel
theorem dX3_comes_1 : decode cX3_comes 1 = .ok (.getfield 35, 3) := by decide +kernel
theorem dX3_comes_4 : decode cX3_comes 4 = .ok (.iconst 0, 1) := by decide +kernel
theorem dX3_comes_5 : decode cX3_comes 5 = .ok (.iaload, 1) := by decide +kernel
theorem dX3_comes_6 : decode cX3_comes 6 = .ok (.istore_n 2, 1) := by decide +kernel
theorem dX3_comes_7 : decode cX3_comes 7 = .ok (.iload_n 1, 1) := by decide +kernel
theorem dX3_comes_8 : decode cX3_comes 8 = .ok (.lookupswitch 217 #[(109, 173), (115, 28)], 28) := by decide +kernel
theorem dX3_comes_36 : decode cX3_comes 36 = .ok (.aload_n 0, 1) := by decide +kernel
theorem dX3_comes_37 : decode cX3_comes 37 = .ok (.getfield 19, 3) := by decide +kernel
theorem dX3_comes_40 : decode cX3_comes 40 = .ok (.iconst 0, 1) := by decide +kernel
theorem dX3_comes_41 : decode cX3_comes 41 = .ok (.iaload, 1) := by decide +kernel
theorem dX3_comes_42 : decode cX3_comes 42 = .ok (.istore_n 3, 1) := by decide +kernel
theorem dX3_comes_43 : decode cX3_comes 43 = .ok (.aload_n 0, 1) := by decide +kernel
theorem dX3_comes_44 : decode cX3_comes 44 = .ok (.getfield 35, 3) := by decide +kernel
theorem dX3_comes_47 : decode cX3_comes 47 = .ok (.iconst 2, 1) := by decide +kernel
theorem dX3_comes_48 : decode cX3_comes 48 = .ok (.iaload, 1) := by decide +kernel
theorem dX3_comes_49 : decode cX3_comes 49 = .ok (.iconst 3, 1) := by decide +kernel
theorem dX3_comes_50 : decode cX3_comes 50 = .ok (.if_icmp .gt 19, 3) := by decide +kernel
theorem dX3_comes_53 : decode cX3_comes 53 = .ok (.aload_n 0, 1) := by decide +kernel
theorem dX3_comes_54 : decode cX3_comes 54 = .ok (.getfield 35, 3) := by decide +kernel
theorem dX3_comes_57 : decode cX3_comes 57 = .ok (.iconst 3, 1) := by decide +kernel
theorem dX3_comes_58 : decode cX3_comes 58 = .ok (.iaload, 1) := by decide +kernel
theorem dX3_comes_59 : decode cX3_comes 59 = .ok (.iconst 4, 1) := by decide +kernel
theorem dX3_comes_60 : decode cX3_comes 60 = .ok (.if_icmp .gt 9, 3) := by decide +kernel
theorem dX3_comes_63 : decode cX3_comes 63 = .ok (.iload_n 3, 1) := by decide +kernel
theorem dX3_comes_64 : decode cX3_comes 64 = .ok (.bipush 6, 2) := by decide +kernel
theorem dX3_comes_66 : decode cX3_comes 66 = .ok (.if_icmp .ne 5, 3) := by decide +kernel
theorem dX3_comes_69 : decode cX3_comes 69 = .ok (.iconst 0, 1) := by decide +kernel
theorem dX3_comes_70 : decode cX3_comes 70 = .ok (.ireturn, 1) := by decide +kernel
theorem dX3_comes_71 : decode cX3_comes 71 = .ok (.iconst 0, 1) := by decide +kernel
theorem dX3_comes_72 : decode cX3_comes 72 = .ok (.istore 4, 2) := by decide +kernel
theorem dX3_comes_74 : decode cX3_comes 74 = .ok (.iload 4, 2) := by decide +kernel
theorem dX3_comes_76 : decode cX3_comes 76 = .ok (.iconst 4, 1) := by decide +kernel
theorem dX3_comes_77 : decode cX3_comes 77 = .ok (.if_icmp .ge 26, 3) := by decide +kernel
theorem dX3_comes_80 : decode cX3_comes 80 = .ok (.aload_n 0, 1) := by decide +kernel
theorem dX3_comes_81 : decode cX3_comes 81 = .ok (.getfield 19, 3) := by decide +kernel
theorem dX3_comes_84 : decode cX3_comes 84 = .ok (.iload_n 3, 1) := by decide +kernel
theorem dX3_comes_85 : decode cX3_comes 85 = .ok (.iload 4, 2) := by decide +kernel
theorem dX3_comes_87 : decode cX3_comes 87 = .ok (.aload_n 0, 1) := by decide +kernel
theorem dX3_comes_88 : decode cX3_comes 88 = .ok (.getfield 35, 3) := by decide +kernel
theorem dX3_comes_91 : decode cX3_comes 91 = .ok (.iload 4, 2) := by decide +kernel
theorem dX3_comes_93 : decode cX3_comes 93 = .ok (.iaload, 1) := by decide +kernel
theorem dX3_comes_94 : decode cX3_comes 94 = .ok (.invokestatic 96, 3) := by decide +kernel
theorem dX3_comes_97 : decode cX3_comes 97 = .ok (.iinc 4 1, 3) := by decide +kernel
theorem dX3_comes_100 : decode cX3_comes 100 = .ok (.goto (-26), 3) := by decide +kernel
theorem dX3_comes_103 : decode cX3_comes 103 = .ok (.aload_n 0, 1) := by decide +kernel
theorem dX3_comes_104 : decode cX3_comes 104 = .ok (.getfield 19, 3) := by decide +kernel
theorem dX3_comes_107 : decode cX3_comes 107 = .ok (.iload_n 3, 1) := by decide +kernel
theorem dX3_comes_108 : decode cX3_comes 108 = .ok (.iconst 4, 1) := by decide +kernel
theorem dX3_comes_109 : decode cX3_comes 109 = .ok (.bipush 9, 2) := by decide +kernel
theorem dX3_comes_111 : decode cX3_comes 111 = .ok (.invokestatic 96, 3) := by decide +kernel
theorem dX3_comes_114 : decode cX3_comes 114 = .ok (.aload_n 0, 1) := by decide +kernel
theorem dX3_comes_115 : decode cX3_comes 115 = .ok (.getfield 19, 3) := by decide +kernel
theorem dX3_comes_118 : decode cX3_comes 118 = .ok (.iload_n 3, 1) := by decide +kernel
theorem dX3_comes_119 : decode cX3_comes 119 = .ok (.iconst 5, 1) := by decide +kernel
theorem dX3_comes_120 : decode cX3_comes 120 = .ok (.iconst 0, 1) := by decide +kernel
theorem dX3_comes_121 : decode cX3_comes 121 = .ok (.invokestatic 96, 3) := by decide +kernel
theorem dX3_comes_124 : decode cX3_comes 124 = .ok (.aload_n 0, 1) := by decide +kernel
theorem dX3_comes_125 : decode cX3_comes 125 = .ok (.getfield 19, 3) := by decide +kernel
theorem dX3_comes_128 : decode cX3_comes 128 = .ok (.iload_n 3, 1) := by decide +kernel
theorem dX3_comes_129 : decode cX3_comes 129 = .ok (.bipush 6, 2) := by decide +kernel
theorem dX3_comes_131 : decode cX3_comes 131 = .ok (.iconst 0, 1) := by decide +kernel
theorem dX3_comes_132 : decode cX3_comes 132 = .ok (.invokestatic 96, 3) := by decide +kernel
theorem dX3_comes_135 : decode cX3_comes 135 = .ok (.iload_n 3, 1) := by decide +kernel
theorem dX3_comes_136 : decode cX3_comes 136 = .ok (.ifCond .le 33, 3) := by decide +kernel
theorem dX3_comes_139 : decode cX3_comes 139 = .ok (.aload_n 0, 1) := by decide +kernel
theorem dX3_comes_140 : decode cX3_comes 140 = .ok (.getfield 19, 3) := by decide +kernel
theorem dX3_comes_143 : decode cX3_comes 143 = .ok (.iconst 2, 1) := by decide +kernel
theorem dX3_comes_144 : decode cX3_comes 144 = .ok (.bipush 7, 2) := by decide +kernel
theorem dX3_comes_146 : decode cX3_comes 146 = .ok (.iload_n 3, 1) := by decide +kernel
theorem dX3_comes_147 : decode cX3_comes 147 = .ok (.iconst 1, 1) := by decide +kernel
theorem dX3_comes_148 : decode cX3_comes 148 = .ok (.isub, 1) := by decide +kernel
theorem dX3_comes_149 : decode cX3_comes 149 = .ok (.imul, 1) := by decide +kernel
theorem dX3_comes_150 : decode cX3_comes 150 = .ok (.iadd, 1) := by decide +kernel
theorem dX3_comes_151 : decode cX3_comes 151 = .ok (.iconst 5, 1) := by decide +kernel
theorem dX3_comes_152 : decode cX3_comes 152 = .ok (.iadd, 1) := by decide +kernel
theorem dX3_comes_153 : decode cX3_comes 153 = .ok (.iaload, 1) := by decide +kernel
theorem dX3_comes_154 : decode cX3_comes 154 = .ok (.ifCond .ne 15, 3) := by decide +kernel
theorem dX3_comes_157 : decode cX3_comes 157 = .ok (.aload_n 0, 1) := by decide +kernel
theorem dX3_comes_158 : decode cX3_comes 158 = .ok (.getfield 19, 3) := by decide +kernel
theorem dX3_comes_161 : decode cX3_comes 161 = .ok (.iload_n 3, 1) := by decide +kernel
theorem dX3_comes_162 : decode cX3_comes 162 = .ok (.iconst 1, 1) := by decide +kernel
theorem dX3_comes_163 : decode cX3_comes 163 = .ok (.isub, 1) := by decide +kernel
theorem dX3_comes_164 : decode cX3_comes 164 = .ok (.iconst 5, 1) := by decide +kernel
theorem dX3_comes_165 : decode cX3_comes 165 = .ok (.iload_n 3, 1) := by decide +kernel
theorem dX3_comes_166 : decode cX3_comes 166 = .ok (.invokestatic 96, 3) := by decide +kernel
theorem dX3_comes_169 : decode cX3_comes 169 = .ok (.aload_n 0, 1) := by decide +kernel
theorem dX3_comes_170 : decode cX3_comes 170 = .ok (.getfield 19, 3) := by decide +kernel
theorem dX3_comes_173 : decode cX3_comes 173 = .ok (.iconst 0, 1) := by decide +kernel
theorem dX3_comes_174 : decode cX3_comes 174 = .ok (.dup2, 1) := by decide +kernel
theorem dX3_comes_175 : decode cX3_comes 175 = .ok (.iaload, 1) := by decide +kernel
theorem dX3_comes_176 : decode cX3_comes 176 = .ok (.iconst 1, 1) := by decide +kernel
theorem dX3_comes_177 : decode cX3_comes 177 = .ok (.iadd, 1) := by decide +kernel
theorem dX3_comes_178 : decode cX3_comes 178 = .ok (.iastore, 1) := by decide +kernel
theorem dX3_comes_179 : decode cX3_comes 179 = .ok (.iconst 1, 1) := by decide +kernel
theorem dX3_comes_180 : decode cX3_comes 180 = .ok (.ireturn, 1) := by decide +kernel
theorem dX3_comes_181 : decode cX3_comes 181 = .ok (.iload_n 2, 1) := by decide +kernel
theorem dX3_comes_182 : decode cX3_comes 182 = .ok (.aload_n 0, 1) := by decide +kernel
theorem dX3_comes_183 : decode cX3_comes 183 = .ok (.getfield 19, 3) := by decide +kernel
theorem dX3_comes_186 : decode cX3_comes 186 = .ok (.iconst 0, 1) := by decide +kernel
theorem dX3_comes_187 : decode cX3_comes 187 = .ok (.iaload, 1) := by decide +kernel
theorem dX3_comes_188 : decode cX3_comes 188 = .ok (.if_icmp .ge 18, 3) := by decide +kernel
theorem dX3_comes_191 : decode cX3_comes 191 = .ok (.aload_n 0, 1) := by decide +kernel
theorem dX3_comes_192 : decode cX3_comes 192 = .ok (.getfield 35, 3) := by decide +kernel
theorem dX3_comes_195 : decode cX3_comes 195 = .ok (.iconst 1, 1) := by decide +kernel
theorem dX3_comes_196 : decode cX3_comes 196 = .ok (.iaload, 1) := by decide +kernel
theorem dX3_comes_197 : decode cX3_comes 197 = .ok (.aload_n 0, 1) := by decide +kernel
theorem dX3_comes_198 : decode cX3_comes 198 = .ok (.getfield 19, 3) := by decide +kernel
theorem dX3_comes_201 : decode cX3_comes 201 = .ok (.iconst 0, 1) := by decide +kernel
theorem dX3_comes_202 : decode cX3_comes 202 = .ok (.iaload, 1) := by decide +kernel
theorem dX3_comes_203 : decode cX3_comes 203 = .ok (.if_icmp .lt 5, 3) := by decide +kernel
theorem dX3_comes_206 : decode cX3_comes 206 = .ok (.iconst 0, 1) := by decide +kernel
theorem dX3_comes_207 : decode cX3_comes 207 = .ok (.ireturn, 1) := by decide +kernel
theorem dX3_comes_208 : decode cX3_comes 208 = .ok (.aload_n 0, 1) := by decide +kernel
theorem dX3_comes_209 : decode cX3_comes 209 = .ok (.getfield 19, 3) := by decide +kernel
theorem dX3_comes_212 : decode cX3_comes 212 = .ok (.iload_n 2, 1) := by decide +kernel
theorem dX3_comes_213 : decode cX3_comes 213 = .ok (.iconst 5, 1) := by decide +kernel
theorem dX3_comes_214 : decode cX3_comes 214 = .ok (.aload_n 0, 1) := by decide +kernel
theorem dX3_comes_215 : decode cX3_comes 215 = .ok (.getfield 35, 3) := by decide +kernel
theorem dX3_comes_218 : decode cX3_comes 218 = .ok (.iconst 1, 1) := by decide +kernel
theorem dX3_comes_219 : decode cX3_comes 219 = .ok (.iaload, 1) := by decide +kernel
theorem dX3_comes_220 : decode cX3_comes 220 = .ok (.invokestatic 96, 3) := by decide +kernel
theorem dX3_comes_223 : decode cX3_comes 223 = .ok (.iconst 1, 1) := by decide +kernel
theorem dX3_comes_224 : decode cX3_comes 224 = .ok (.ireturn, 1) := by decide +kernel
theorem dX3_comes_225 : decode cX3_comes 225 = .ok (.iload_n 2, 1) := by decide +kernel
theorem dX3_comes_226 : decode cX3_comes 226 = .ok (.aload_n 0, 1) := by decide +kernel
theorem dX3_comes_227 : decode cX3_comes 227 = .ok (.getfield 19, 3) := by decide +kernel
theorem dX3_comes_230 : decode cX3_comes 230 = .ok (.iconst 0, 1) := by decide +kernel
theorem dX3_comes_231 : decode cX3_comes 231 = .ok (.iaload, 1) := by decide +kernel
theorem dX3_comes_232 : decode cX3_comes 232 = .ok (.if_icmp .lt 5, 3) := by decide +kernel
theorem dX3_comes_235 : decode cX3_comes 235 = .ok (.iconst 0, 1) := by decide +kernel
theorem dX3_comes_236 : decode cX3_comes 236 = .ok (.ireturn, 1) := by decide +kernel
theorem dX3_comes_237 : decode cX3_comes 237 = .ok (.aload_n 0, 1) := by decide +kernel
theorem dX3_comes_238 : decode cX3_comes 238 = .ok (.getfield 19, 3) := by decide +kernel
theorem dX3_comes_241 : decode cX3_comes 241 = .ok (.iload_n 2, 1) := by decide +kernel
theorem dX3_comes_242 : decode cX3_comes 242 = .ok (.iconst 4, 1) := by decide +kernel
theorem dX3_comes_243 : decode cX3_comes 243 = .ok (.aload_n 0, 1) := by decide +kernel
theorem dX3_comes_244 : decode cX3_comes 244 = .ok (.getfield 35, 3) := by decide +kernel
theorem dX3_comes_247 : decode cX3_comes 247 = .ok (.iconst 1, 1) := by decide +kernel
theorem dX3_comes_248 : decode cX3_comes 248 = .ok (.iaload, 1) := by decide +kernel
theorem dX3_comes_249 : decode cX3_comes 249 = .ok (.invokestatic 96, 3) := by decide +kernel
theorem dX3_comes_252 : decode cX3_comes 252 = .ok (.iconst 1, 1) := by decide +kernel
theorem dX3_comes_253 : decode cX3_comes 253 = .ok (.ireturn, 1) := by decide +kernel
theorem dX3_reads_0 : decode cX3_reads 0 = .ok (.aload_n 0, 1) := by decide +kernel
theorem dX3_reads_1 : decode cX3_reads 1 = .ok (.iconst 0, 1) := by decide +kernel
theorem dX3_reads_2 : decode cX3_reads 2 = .ok (.putfield 75, 3) := by decide +kernel
theorem dX3_reads_5 : decode cX3_reads 5 = .ok (.iconst 0, 1) := by decide +kernel
theorem dX3_reads_6 : decode cX3_reads 6 = .ok (.istore_n 1, 1) := by decide +kernel
theorem dX3_reads_7 : decode cX3_reads 7 = .ok (.aload_n 0, 1) := by decide +kernel
theorem dX3_reads_8 : decode cX3_reads 8 = .ok (.invokevirtual 100, 3) := by decide +kernel
theorem dX3_reads_11 : decode cX3_reads 11 = .ok (.ifCond .ne 12, 3) := by decide +kernel
theorem dX3_reads_14 : decode cX3_reads 14 = .ok (.sipush (-1000), 3) := by decide +kernel
theorem dX3_reads_17 : decode cX3_reads 17 = .ok (.aload_n 0, 1) := by decide +kernel
theorem dX3_reads_18 : decode cX3_reads 18 = .ok (.getfield 75, 3) := by decide +kernel
theorem dX3_reads_21 : decode cX3_reads 21 = .ok (.isub, 1) := by decide +kernel
theorem dX3_reads_22 : decode cX3_reads 22 = .ok (.ireturn, 1) := by decide +kernel
theorem dX3_reads_23 : decode cX3_reads 23 = .ok (.iinc 1 1, 3) := by decide +kernel
theorem dX3_reads_26 : decode cX3_reads 26 = .ok (.aload_n 0, 1) := by decide +kernel
theorem dX3_reads_27 : decode cX3_reads 27 = .ok (.getfield 75, 3) := by decide +kernel
theorem dX3_reads_30 : decode cX3_reads 30 = .ok (.aload_n 0, 1) := by decide +kernel
theorem dX3_reads_31 : decode cX3_reads 31 = .ok (.getfield 68, 3) := by decide +kernel
theorem dX3_reads_34 : decode cX3_reads 34 = .ok (.if_icmp .lt (-27), 3) := by decide +kernel
theorem dX3_reads_37 : decode cX3_reads 37 = .ok (.aload_n 0, 1) := by decide +kernel
theorem dX3_reads_38 : decode cX3_reads 38 = .ok (.getfield 13, 3) := by decide +kernel
theorem dX3_reads_41 : decode cX3_reads 41 = .ok (.aload_n 0, 1) := by decide +kernel
theorem dX3_reads_42 : decode cX3_reads 42 = .ok (.getfield 19, 3) := by decide +kernel
theorem dX3_reads_45 : decode cX3_reads 45 = .ok (.invokestatic 56, 3) := by decide +kernel
theorem dX3_reads_48 : decode cX3_reads 48 = .ok (.aload_n 0, 1) := by decide +kernel
theorem dX3_reads_49 : decode cX3_reads 49 = .ok (.iconst 0, 1) := by decide +kernel
theorem dX3_reads_50 : decode cX3_reads 50 = .ok (.putfield 75, 3) := by decide +kernel
theorem dX3_reads_53 : decode cX3_reads 53 = .ok (.aload_n 0, 1) := by decide +kernel
theorem dX3_reads_54 : decode cX3_reads 54 = .ok (.getfield 75, 3) := by decide +kernel
theorem dX3_reads_57 : decode cX3_reads 57 = .ok (.aload_n 0, 1) := by decide +kernel
theorem dX3_reads_58 : decode cX3_reads 58 = .ok (.getfield 68, 3) := by decide +kernel
theorem dX3_reads_61 : decode cX3_reads 61 = .ok (.if_icmp .ge 36, 3) := by decide +kernel
theorem dX3_reads_64 : decode cX3_reads 64 = .ok (.aload_n 0, 1) := by decide +kernel
theorem dX3_reads_65 : decode cX3_reads 65 = .ok (.getfield 75, 3) := by decide +kernel
theorem dX3_reads_68 : decode cX3_reads 68 = .ok (.istore_n 2, 1) := by decide +kernel
theorem dX3_reads_69 : decode cX3_reads 69 = .ok (.aload_n 0, 1) := by decide +kernel
theorem dX3_reads_70 : decode cX3_reads 70 = .ok (.invokevirtual 78, 3) := by decide +kernel
theorem dX3_reads_73 : decode cX3_reads 73 = .ok (.istore_n 3, 1) := by decide +kernel
theorem dX3_reads_74 : decode cX3_reads 74 = .ok (.aload_n 0, 1) := by decide +kernel
theorem dX3_reads_75 : decode cX3_reads 75 = .ok (.invokevirtual 100, 3) := by decide +kernel
theorem dX3_reads_78 : decode cX3_reads 78 = .ok (.istore 4, 2) := by decide +kernel
theorem dX3_reads_80 : decode cX3_reads 80 = .ok (.aload_n 0, 1) := by decide +kernel
theorem dX3_reads_81 : decode cX3_reads 81 = .ok (.iload_n 3, 1) := by decide +kernel
theorem dX3_reads_82 : decode cX3_reads 82 = .ok (.invokevirtual 103, 3) := by decide +kernel
theorem dX3_reads_85 : decode cX3_reads 85 = .ok (.ifCond .ne 9, 3) := by decide +kernel
theorem dX3_reads_88 : decode cX3_reads 88 = .ok (.sipush (-2000), 3) := by decide +kernel
theorem dX3_reads_91 : decode cX3_reads 91 = .ok (.iload_n 2, 1) := by decide +kernel
theorem dX3_reads_92 : decode cX3_reads 92 = .ok (.isub, 1) := by decide +kernel
theorem dX3_reads_93 : decode cX3_reads 93 = .ok (.ireturn, 1) := by decide +kernel
theorem dX3_reads_94 : decode cX3_reads 94 = .ok (.goto (-41), 3) := by decide +kernel
theorem dX3_reads_97 : decode cX3_reads 97 = .ok (.aload_n 0, 1) := by decide +kernel
theorem dX3_reads_98 : decode cX3_reads 98 = .ok (.getfield 19, 3) := by decide +kernel
theorem dX3_reads_101 : decode cX3_reads 101 = .ok (.aload_n 0, 1) := by decide +kernel
theorem dX3_reads_102 : decode cX3_reads 102 = .ok (.getfield 13, 3) := by decide +kernel
theorem dX3_reads_105 : decode cX3_reads 105 = .ok (.invokestatic 56, 3) := by decide +kernel
theorem dX3_reads_108 : decode cX3_reads 108 = .ok (.iload_n 1, 1) := by decide +kernel
theorem dX3_reads_109 : decode cX3_reads 109 = .ok (.ireturn, 1) := by decide +kernel
theorem dX3_town_0 : decode cX3_town 0 = .ok (.aload_n 0, 1) := by decide +kernel
theorem dX3_town_1 : decode cX3_town 1 = .ok (.invokevirtual 106, 3) := by decide +kernel
theorem dX3_town_4 : decode cX3_town 4 = .ok (.istore_n 1, 1) := by decide +kernel
theorem dX3_town_5 : decode cX3_town 5 = .ok (.aload_n 0, 1) := by decide +kernel
theorem dX3_town_6 : decode cX3_town 6 = .ok (.iconst 0, 1) := by decide +kernel
theorem dX3_town_7 : decode cX3_town 7 = .ok (.putfield 68, 3) := by decide +kernel
theorem dX3_town_10 : decode cX3_town 10 = .ok (.iload_n 1, 1) := by decide +kernel
theorem dX3_town_11 : decode cX3_town 11 = .ok (.ireturn, 1) := by decide +kernel
theorem dX3_trustOf_0 : decode cX3_trustOf 0 = .ok (.aload_n 0, 1) := by decide +kernel
theorem dX3_trustOf_1 : decode cX3_trustOf 1 = .ok (.iload_n 1, 1) := by decide +kernel
theorem dX3_trustOf_2 : decode cX3_trustOf 2 = .ok (.iconst 3, 1) := by decide +kernel
theorem dX3_trustOf_3 : decode cX3_trustOf 3 = .ok (.invokevirtual 109, 3) := by decide +kernel
theorem dX3_trustOf_6 : decode cX3_trustOf 6 = .ok (.aload_n 0, 1) := by decide +kernel
theorem dX3_trustOf_7 : decode cX3_trustOf 7 = .ok (.iload_n 1, 1) := by decide +kernel
theorem dX3_trustOf_8 : decode cX3_trustOf 8 = .ok (.bipush 6, 2) := by decide +kernel
theorem dX3_trustOf_10 : decode cX3_trustOf 10 = .ok (.invokevirtual 109, 3) := by decide +kernel
theorem dX3_trustOf_13 : decode cX3_trustOf 13 = .ok (.iconst 1, 1) := by decide +kernel
theorem dX3_trustOf_14 : decode cX3_trustOf 14 = .ok (.iadd, 1) := by decide +kernel
theorem dX3_trustOf_15 : decode cX3_trustOf 15 = .ok (.if_icmp .ge 12, 3) := by decide +kernel
theorem dX3_trustOf_18 : decode cX3_trustOf 18 = .ok (.aload_n 0, 1) := by decide +kernel
theorem dX3_trustOf_19 : decode cX3_trustOf 19 = .ok (.iload_n 1, 1) := by decide +kernel
theorem dX3_trustOf_20 : decode cX3_trustOf 20 = .ok (.iconst 3, 1) := by decide +kernel
theorem dX3_trustOf_21 : decode cX3_trustOf 21 = .ok (.invokevirtual 109, 3) := by decide +kernel
theorem dX3_trustOf_24 : decode cX3_trustOf 24 = .ok (.goto 12, 3) := by decide +kernel
theorem dX3_trustOf_27 : decode cX3_trustOf 27 = .ok (.aload_n 0, 1) := by decide +kernel
theorem dX3_trustOf_28 : decode cX3_trustOf 28 = .ok (.iload_n 1, 1) := by decide +kernel
theorem dX3_trustOf_29 : decode cX3_trustOf 29 = .ok (.bipush 6, 2) := by decide +kernel
theorem dX3_trustOf_31 : decode cX3_trustOf 31 = .ok (.invokevirtual 109, 3) := by decide +kernel
theorem dX3_trustOf_34 : decode cX3_trustOf 34 = .ok (.iconst 1, 1) := by decide +kernel
theorem dX3_trustOf_35 : decode cX3_trustOf 35 = .ok (.iadd, 1) := by decide +kernel
theorem dX3_trustOf_36 : decode cX3_trustOf 36 = .ok (.ireturn, 1) := by decide +kernel
theorem dX3_mendsBy_0 : decode cX3_mendsBy 0 = .ok (.aload_n 0, 1) := by decide +kernel
theorem dX3_mendsBy_1 : decode cX3_mendsBy 1 = .ok (.iload_n 1, 1) := by decide +kernel
theorem dX3_mendsBy_2 : decode cX3_mendsBy 2 = .ok (.iconst 3, 1) := by decide +kernel
theorem dX3_mendsBy_3 : decode cX3_mendsBy 3 = .ok (.invokevirtual 109, 3) := by decide +kernel
theorem dX3_mendsBy_6 : decode cX3_mendsBy 6 = .ok (.istore_n 2, 1) := by decide +kernel
theorem dX3_mendsBy_7 : decode cX3_mendsBy 7 = .ok (.iload_n 1, 1) := by decide +kernel
theorem dX3_mendsBy_8 : decode cX3_mendsBy 8 = .ok (.aload_n 0, 1) := by decide +kernel
theorem dX3_mendsBy_9 : decode cX3_mendsBy 9 = .ok (.getfield 25, 3) := by decide +kernel
theorem dX3_mendsBy_12 : decode cX3_mendsBy 12 = .ok (.if_icmp .eq 11, 3) := by decide +kernel
theorem dX3_mendsBy_15 : decode cX3_mendsBy 15 = .ok (.iload_n 1, 1) := by decide +kernel
theorem dX3_mendsBy_16 : decode cX3_mendsBy 16 = .ok (.aload_n 0, 1) := by decide +kernel
theorem dX3_mendsBy_17 : decode cX3_mendsBy 17 = .ok (.getfield 29, 3) := by decide +kernel
theorem dX3_mendsBy_20 : decode cX3_mendsBy 20 = .ok (.if_icmp .ne 5, 3) := by decide +kernel
theorem dX3_mendsBy_23 : decode cX3_mendsBy 23 = .ok (.iconst 0, 1) := by decide +kernel
theorem dX3_mendsBy_24 : decode cX3_mendsBy 24 = .ok (.ireturn, 1) := by decide +kernel
theorem dX3_mendsBy_25 : decode cX3_mendsBy 25 = .ok (.aload_n 0, 1) := by decide +kernel
theorem dX3_mendsBy_26 : decode cX3_mendsBy 26 = .ok (.iload_n 1, 1) := by decide +kernel
theorem dX3_mendsBy_27 : decode cX3_mendsBy 27 = .ok (.iconst 0, 1) := by decide +kernel
theorem dX3_mendsBy_28 : decode cX3_mendsBy 28 = .ok (.invokevirtual 109, 3) := by decide +kernel
theorem dX3_mendsBy_31 : decode cX3_mendsBy 31 = .ok (.tableswitch 103 1 5 #[33, 50, 56, 73, 77], 33) := by decide +kernel
theorem dX3_mendsBy_64 : decode cX3_mendsBy 64 = .ok (.aload_n 0, 1) := by decide +kernel
theorem dX3_mendsBy_65 : decode cX3_mendsBy 65 = .ok (.getfield 13, 3) := by decide +kernel
theorem dX3_mendsBy_68 : decode cX3_mendsBy 68 = .ok (.iconst 1, 1) := by decide +kernel
theorem dX3_mendsBy_69 : decode cX3_mendsBy 69 = .ok (.iaload, 1) := by decide +kernel
theorem dX3_mendsBy_70 : decode cX3_mendsBy 70 = .ok (.iconst 2, 1) := by decide +kernel
theorem dX3_mendsBy_71 : decode cX3_mendsBy 71 = .ok (.irem, 1) := by decide +kernel
theorem dX3_mendsBy_72 : decode cX3_mendsBy 72 = .ok (.ifCond .ne 7, 3) := by decide +kernel
theorem dX3_mendsBy_75 : decode cX3_mendsBy 75 = .ok (.iload_n 2, 1) := by decide +kernel
theorem dX3_mendsBy_76 : decode cX3_mendsBy 76 = .ok (.goto 4, 3) := by decide +kernel
theorem dX3_mendsBy_79 : decode cX3_mendsBy 79 = .ok (.iconst 0, 1) := by decide +kernel
theorem dX3_mendsBy_80 : decode cX3_mendsBy 80 = .ok (.ireturn, 1) := by decide +kernel
theorem dX3_mendsBy_81 : decode cX3_mendsBy 81 = .ok (.aload_n 0, 1) := by decide +kernel
theorem dX3_mendsBy_82 : decode cX3_mendsBy 82 = .ok (.iload_n 1, 1) := by decide +kernel
theorem dX3_mendsBy_83 : decode cX3_mendsBy 83 = .ok (.invokevirtual 113, 3) := by decide +kernel
theorem dX3_mendsBy_86 : decode cX3_mendsBy 86 = .ok (.ireturn, 1) := by decide +kernel
theorem dX3_mendsBy_87 : decode cX3_mendsBy 87 = .ok (.aload_n 0, 1) := by decide +kernel
theorem dX3_mendsBy_88 : decode cX3_mendsBy 88 = .ok (.iload_n 1, 1) := by decide +kernel
theorem dX3_mendsBy_89 : decode cX3_mendsBy 89 = .ok (.iconst 4, 1) := by decide +kernel
theorem dX3_mendsBy_90 : decode cX3_mendsBy 90 = .ok (.invokevirtual 109, 3) := by decide +kernel
theorem dX3_mendsBy_93 : decode cX3_mendsBy 93 = .ok (.ifCond .le 9, 3) := by decide +kernel
theorem dX3_mendsBy_96 : decode cX3_mendsBy 96 = .ok (.iload_n 2, 1) := by decide +kernel
theorem dX3_mendsBy_97 : decode cX3_mendsBy 97 = .ok (.iconst 1, 1) := by decide +kernel
theorem dX3_mendsBy_98 : decode cX3_mendsBy 98 = .ok (.iadd, 1) := by decide +kernel
theorem dX3_mendsBy_99 : decode cX3_mendsBy 99 = .ok (.goto 4, 3) := by decide +kernel
theorem dX3_mendsBy_102 : decode cX3_mendsBy 102 = .ok (.iconst 0, 1) := by decide +kernel
theorem dX3_mendsBy_103 : decode cX3_mendsBy 103 = .ok (.ireturn, 1) := by decide +kernel
theorem dX3_mendsBy_104 : decode cX3_mendsBy 104 = .ok (.iconst 2, 1) := by decide +kernel
theorem dX3_mendsBy_105 : decode cX3_mendsBy 105 = .ok (.iload_n 2, 1) := by decide +kernel
theorem dX3_mendsBy_106 : decode cX3_mendsBy 106 = .ok (.imul, 1) := by decide +kernel
theorem dX3_mendsBy_107 : decode cX3_mendsBy 107 = .ok (.ireturn, 1) := by decide +kernel
theorem dX3_mendsBy_108 : decode cX3_mendsBy 108 = .ok (.aload_n 0, 1) := by decide +kernel
theorem dX3_mendsBy_109 : decode cX3_mendsBy 109 = .ok (.aload_n 0, 1) := by decide +kernel
theorem dX3_mendsBy_110 : decode cX3_mendsBy 110 = .ok (.iload_n 1, 1) := by decide +kernel
theorem dX3_mendsBy_111 : decode cX3_mendsBy 111 = .ok (.iconst 5, 1) := by decide +kernel
theorem dX3_mendsBy_112 : decode cX3_mendsBy 112 = .ok (.invokevirtual 109, 3) := by decide +kernel
theorem dX3_mendsBy_115 : decode cX3_mendsBy 115 = .ok (.iconst 1, 1) := by decide +kernel
theorem dX3_mendsBy_116 : decode cX3_mendsBy 116 = .ok (.invokevirtual 109, 3) := by decide +kernel
theorem dX3_mendsBy_119 : decode cX3_mendsBy 119 = .ok (.bipush 6, 2) := by decide +kernel
theorem dX3_mendsBy_121 : decode cX3_mendsBy 121 = .ok (.if_icmp .lt 7, 3) := by decide +kernel
theorem dX3_mendsBy_124 : decode cX3_mendsBy 124 = .ok (.iload_n 2, 1) := by decide +kernel
theorem dX3_mendsBy_125 : decode cX3_mendsBy 125 = .ok (.goto 8, 3) := by decide +kernel
theorem dX3_mendsBy_128 : decode cX3_mendsBy 128 = .ok (.aload_n 0, 1) := by decide +kernel
theorem dX3_mendsBy_129 : decode cX3_mendsBy 129 = .ok (.iload_n 1, 1) := by decide +kernel
theorem dX3_mendsBy_130 : decode cX3_mendsBy 130 = .ok (.invokevirtual 113, 3) := by decide +kernel
theorem dX3_mendsBy_133 : decode cX3_mendsBy 133 = .ok (.ireturn, 1) := by decide +kernel
theorem dX3_mendsBy_134 : decode cX3_mendsBy 134 = .ok (.iload_n 2, 1) := by decide +kernel
theorem dX3_mendsBy_135 : decode cX3_mendsBy 135 = .ok (.ireturn, 1) := by decide +kernel
theorem dX3_paysFor_0 : decode cX3_paysFor 0 = .ok (.bipush (-9), 2) := by decide +kernel
theorem dX3_paysFor_2 : decode cX3_paysFor 2 = .ok (.istore_n 2, 1) := by decide +kernel
theorem dX3_paysFor_3 : decode cX3_paysFor 3 = .ok (.iconst 0, 1) := by decide +kernel
theorem dX3_paysFor_4 : decode cX3_paysFor 4 = .ok (.istore_n 3, 1) := by decide +kernel
theorem dX3_paysFor_5 : decode cX3_paysFor 5 = .ok (.iload_n 3, 1) := by decide +kernel
theorem dX3_paysFor_6 : decode cX3_paysFor 6 = .ok (.aload_n 0, 1) := by decide +kernel
theorem dX3_paysFor_7 : decode cX3_paysFor 7 = .ok (.getfield 13, 3) := by decide +kernel
theorem dX3_paysFor_10 : decode cX3_paysFor 10 = .ok (.iconst 0, 1) := by decide +kernel
theorem dX3_paysFor_11 : decode cX3_paysFor 11 = .ok (.iaload, 1) := by decide +kernel
theorem dX3_paysFor_12 : decode cX3_paysFor 12 = .ok (.if_icmp .ge 33, 3) := by decide +kernel
theorem dX3_paysFor_15 : decode cX3_paysFor 15 = .ok (.iload_n 2, 1) := by decide +kernel
theorem dX3_paysFor_16 : decode cX3_paysFor 16 = .ok (.ifCond .ge 29, 3) := by decide +kernel
theorem dX3_paysFor_19 : decode cX3_paysFor 19 = .ok (.iload_n 3, 1) := by decide +kernel
theorem dX3_paysFor_20 : decode cX3_paysFor 20 = .ok (.aload_n 0, 1) := by decide +kernel
theorem dX3_paysFor_21 : decode cX3_paysFor 21 = .ok (.getfield 29, 3) := by decide +kernel
theorem dX3_paysFor_24 : decode cX3_paysFor 24 = .ok (.if_icmp .eq 15, 3) := by decide +kernel
theorem dX3_paysFor_27 : decode cX3_paysFor 27 = .ok (.aload_n 0, 1) := by decide +kernel
theorem dX3_paysFor_28 : decode cX3_paysFor 28 = .ok (.iload_n 3, 1) := by decide +kernel
theorem dX3_paysFor_29 : decode cX3_paysFor 29 = .ok (.iconst 5, 1) := by decide +kernel
theorem dX3_paysFor_30 : decode cX3_paysFor 30 = .ok (.invokevirtual 109, 3) := by decide +kernel
theorem dX3_paysFor_33 : decode cX3_paysFor 33 = .ok (.iload_n 1, 1) := by decide +kernel
theorem dX3_paysFor_34 : decode cX3_paysFor 34 = .ok (.if_icmp .ne 5, 3) := by decide +kernel
theorem dX3_paysFor_37 : decode cX3_paysFor 37 = .ok (.iload_n 3, 1) := by decide +kernel
theorem dX3_paysFor_38 : decode cX3_paysFor 38 = .ok (.istore_n 2, 1) := by decide +kernel
theorem dX3_paysFor_39 : decode cX3_paysFor 39 = .ok (.iinc 3 1, 3) := by decide +kernel
theorem dX3_paysFor_42 : decode cX3_paysFor 42 = .ok (.goto (-37), 3) := by decide +kernel
theorem dX3_paysFor_45 : decode cX3_paysFor 45 = .ok (.iload_n 2, 1) := by decide +kernel
theorem dX3_paysFor_46 : decode cX3_paysFor 46 = .ok (.ifCond .ge 4, 3) := by decide +kernel
theorem dX3_paysFor_49 : decode cX3_paysFor 49 = .ok (.return_, 1) := by decide +kernel
theorem dX3_paysFor_50 : decode cX3_paysFor 50 = .ok (.aload_n 0, 1) := by decide +kernel
theorem dX3_paysFor_51 : decode cX3_paysFor 51 = .ok (.iload_n 1, 1) := by decide +kernel
theorem dX3_paysFor_52 : decode cX3_paysFor 52 = .ok (.iconst 4, 1) := by decide +kernel
theorem dX3_paysFor_53 : decode cX3_paysFor 53 = .ok (.aload_n 0, 1) := by decide +kernel
theorem dX3_paysFor_54 : decode cX3_paysFor 54 = .ok (.iload_n 1, 1) := by decide +kernel
theorem dX3_paysFor_55 : decode cX3_paysFor 55 = .ok (.iconst 4, 1) := by decide +kernel
theorem dX3_paysFor_56 : decode cX3_paysFor 56 = .ok (.invokevirtual 109, 3) := by decide +kernel
theorem dX3_paysFor_59 : decode cX3_paysFor 59 = .ok (.iconst 1, 1) := by decide +kernel
theorem dX3_paysFor_60 : decode cX3_paysFor 60 = .ok (.isub, 1) := by decide +kernel
theorem dX3_paysFor_61 : decode cX3_paysFor 61 = .ok (.invokevirtual 116, 3) := by decide +kernel
theorem dX3_paysFor_64 : decode cX3_paysFor 64 = .ok (.aload_n 0, 1) := by decide +kernel
theorem dX3_paysFor_65 : decode cX3_paysFor 65 = .ok (.iload_n 2, 1) := by decide +kernel
theorem dX3_paysFor_66 : decode cX3_paysFor 66 = .ok (.iconst 4, 1) := by decide +kernel
theorem dX3_paysFor_67 : decode cX3_paysFor 67 = .ok (.invokevirtual 109, 3) := by decide +kernel
theorem dX3_paysFor_70 : decode cX3_paysFor 70 = .ok (.bipush 99, 2) := by decide +kernel
theorem dX3_paysFor_72 : decode cX3_paysFor 72 = .ok (.if_icmp .ge 17, 3) := by decide +kernel
theorem dX3_paysFor_75 : decode cX3_paysFor 75 = .ok (.aload_n 0, 1) := by decide +kernel
theorem dX3_paysFor_76 : decode cX3_paysFor 76 = .ok (.iload_n 2, 1) := by decide +kernel
theorem dX3_paysFor_77 : decode cX3_paysFor 77 = .ok (.iconst 4, 1) := by decide +kernel
theorem dX3_paysFor_78 : decode cX3_paysFor 78 = .ok (.aload_n 0, 1) := by decide +kernel
theorem dX3_paysFor_79 : decode cX3_paysFor 79 = .ok (.iload_n 2, 1) := by decide +kernel
theorem dX3_paysFor_80 : decode cX3_paysFor 80 = .ok (.iconst 4, 1) := by decide +kernel
theorem dX3_paysFor_81 : decode cX3_paysFor 81 = .ok (.invokevirtual 109, 3) := by decide +kernel
theorem dX3_paysFor_84 : decode cX3_paysFor 84 = .ok (.iconst 1, 1) := by decide +kernel
theorem dX3_paysFor_85 : decode cX3_paysFor 85 = .ok (.iadd, 1) := by decide +kernel
theorem dX3_paysFor_86 : decode cX3_paysFor 86 = .ok (.invokevirtual 116, 3) := by decide +kernel
theorem dX3_paysFor_89 : decode cX3_paysFor 89 = .ok (.return_, 1) := by decide +kernel
theorem dX3_goes_0 : decode cX3_goes 0 = .ok (.iconst 0, 1) := by decide +kernel
theorem dX3_goes_1 : decode cX3_goes 1 = .ok (.istore_n 1, 1) := by decide +kernel
theorem dX3_goes_2 : decode cX3_goes 2 = .ok (.iconst 0, 1) := by decide +kernel
theorem dX3_goes_3 : decode cX3_goes 3 = .ok (.istore_n 2, 1) := by decide +kernel
theorem dX3_goes_4 : decode cX3_goes 4 = .ok (.iload_n 2, 1) := by decide +kernel
theorem dX3_goes_5 : decode cX3_goes 5 = .ok (.aload_n 0, 1) := by decide +kernel
theorem dX3_goes_6 : decode cX3_goes 6 = .ok (.getfield 13, 3) := by decide +kernel
theorem dX3_goes_9 : decode cX3_goes 9 = .ok (.iconst 0, 1) := by decide +kernel
theorem dX3_goes_10 : decode cX3_goes 10 = .ok (.iaload, 1) := by decide +kernel
theorem dX3_goes_11 : decode cX3_goes 11 = .ok (.if_icmp .ge 85, 3) := by decide +kernel
theorem dX3_goes_14 : decode cX3_goes 14 = .ok (.aload_n 0, 1) := by decide +kernel
theorem dX3_goes_15 : decode cX3_goes 15 = .ok (.iload_n 2, 1) := by decide +kernel
theorem dX3_goes_16 : decode cX3_goes 16 = .ok (.iconst 1, 1) := by decide +kernel
theorem dX3_goes_17 : decode cX3_goes 17 = .ok (.invokevirtual 109, 3) := by decide +kernel
theorem dX3_goes_20 : decode cX3_goes 20 = .ok (.aload_n 0, 1) := by decide +kernel
theorem dX3_goes_21 : decode cX3_goes 21 = .ok (.iload_n 2, 1) := by decide +kernel
theorem dX3_goes_22 : decode cX3_goes 22 = .ok (.iconst 2, 1) := by decide +kernel
theorem dX3_goes_23 : decode cX3_goes 23 = .ok (.invokevirtual 109, 3) := by decide +kernel
theorem dX3_goes_26 : decode cX3_goes 26 = .ok (.iadd, 1) := by decide +kernel
theorem dX3_goes_27 : decode cX3_goes 27 = .ok (.istore_n 3, 1) := by decide +kernel
theorem dX3_goes_28 : decode cX3_goes 28 = .ok (.aload_n 0, 1) := by decide +kernel
theorem dX3_goes_29 : decode cX3_goes 29 = .ok (.iload_n 2, 1) := by decide +kernel
theorem dX3_goes_30 : decode cX3_goes 30 = .ok (.iconst 1, 1) := by decide +kernel
theorem dX3_goes_31 : decode cX3_goes 31 = .ok (.iload_n 3, 1) := by decide +kernel
theorem dX3_goes_32 : decode cX3_goes 32 = .ok (.bipush 9, 2) := by decide +kernel
theorem dX3_goes_34 : decode cX3_goes 34 = .ok (.if_icmp .le 8, 3) := by decide +kernel
theorem dX3_goes_37 : decode cX3_goes 37 = .ok (.bipush 9, 2) := by decide +kernel
theorem dX3_goes_39 : decode cX3_goes 39 = .ok (.goto 4, 3) := by decide +kernel
theorem dX3_goes_42 : decode cX3_goes 42 = .ok (.iload_n 3, 1) := by decide +kernel
theorem dX3_goes_43 : decode cX3_goes 43 = .ok (.invokevirtual 116, 3) := by decide +kernel
theorem dX3_goes_46 : decode cX3_goes 46 = .ok (.aload_n 0, 1) := by decide +kernel
theorem dX3_goes_47 : decode cX3_goes 47 = .ok (.getfield 38, 3) := by decide +kernel
theorem dX3_goes_50 : decode cX3_goes 50 = .ok (.iload_n 2, 1) := by decide +kernel
theorem dX3_goes_51 : decode cX3_goes 51 = .ok (.iconst 0, 1) := by decide +kernel
theorem dX3_goes_52 : decode cX3_goes 52 = .ok (.iastore, 1) := by decide +kernel
theorem dX3_goes_53 : decode cX3_goes 53 = .ok (.iload_n 1, 1) := by decide +kernel
theorem dX3_goes_54 : decode cX3_goes 54 = .ok (.aload_n 0, 1) := by decide +kernel
theorem dX3_goes_55 : decode cX3_goes 55 = .ok (.iload_n 2, 1) := by decide +kernel
theorem dX3_goes_56 : decode cX3_goes 56 = .ok (.iconst 0, 1) := by decide +kernel
theorem dX3_goes_57 : decode cX3_goes 57 = .ok (.invokevirtual 109, 3) := by decide +kernel
theorem dX3_goes_60 : decode cX3_goes 60 = .ok (.iconst 3, 1) := by decide +kernel
theorem dX3_goes_61 : decode cX3_goes 61 = .ok (.if_icmp .ne 26, 3) := by decide +kernel
theorem dX3_goes_64 : decode cX3_goes 64 = .ok (.aload_n 0, 1) := by decide +kernel
theorem dX3_goes_65 : decode cX3_goes 65 = .ok (.iload_n 2, 1) := by decide +kernel
theorem dX3_goes_66 : decode cX3_goes 66 = .ok (.iconst 4, 1) := by decide +kernel
theorem dX3_goes_67 : decode cX3_goes 67 = .ok (.invokevirtual 109, 3) := by decide +kernel
theorem dX3_goes_70 : decode cX3_goes 70 = .ok (.ifCond .le 17, 3) := by decide +kernel
theorem dX3_goes_73 : decode cX3_goes 73 = .ok (.iload_n 2, 1) := by decide +kernel
theorem dX3_goes_74 : decode cX3_goes 74 = .ok (.aload_n 0, 1) := by decide +kernel
theorem dX3_goes_75 : decode cX3_goes 75 = .ok (.getfield 29, 3) := by decide +kernel
theorem dX3_goes_78 : decode cX3_goes 78 = .ok (.if_icmp .eq 9, 3) := by decide +kernel
theorem dX3_goes_81 : decode cX3_goes 81 = .ok (.iconst 1, 1) := by decide +kernel
theorem dX3_goes_82 : decode cX3_goes 82 = .ok (.iload_n 2, 1) := by decide +kernel
theorem dX3_goes_83 : decode cX3_goes 83 = .ok (.ishl, 1) := by decide +kernel
theorem dX3_goes_84 : decode cX3_goes 84 = .ok (.goto 4, 3) := by decide +kernel
theorem dX3_goes_87 : decode cX3_goes 87 = .ok (.iconst 0, 1) := by decide +kernel
theorem dX3_goes_88 : decode cX3_goes 88 = .ok (.ior, 1) := by decide +kernel
theorem dX3_goes_89 : decode cX3_goes 89 = .ok (.istore_n 1, 1) := by decide +kernel
theorem dX3_goes_90 : decode cX3_goes 90 = .ok (.iinc 2 1, 3) := by decide +kernel
theorem dX3_goes_93 : decode cX3_goes 93 = .ok (.goto (-89), 3) := by decide +kernel
theorem dX3_goes_96 : decode cX3_goes 96 = .ok (.iconst 0, 1) := by decide +kernel
theorem dX3_goes_97 : decode cX3_goes 97 = .ok (.istore_n 2, 1) := by decide +kernel
theorem dX3_goes_98 : decode cX3_goes 98 = .ok (.iload_n 2, 1) := by decide +kernel
theorem dX3_goes_99 : decode cX3_goes 99 = .ok (.aload_n 0, 1) := by decide +kernel
theorem dX3_goes_100 : decode cX3_goes 100 = .ok (.getfield 13, 3) := by decide +kernel
theorem dX3_goes_103 : decode cX3_goes 103 = .ok (.iconst 0, 1) := by decide +kernel
theorem dX3_goes_104 : decode cX3_goes 104 = .ok (.iaload, 1) := by decide +kernel
theorem dX3_goes_105 : decode cX3_goes 105 = .ok (.if_icmp .ge 28, 3) := by decide +kernel
theorem dX3_goes_108 : decode cX3_goes 108 = .ok (.aload_n 0, 1) := by decide +kernel
theorem dX3_goes_109 : decode cX3_goes 109 = .ok (.getfield 38, 3) := by decide +kernel
theorem dX3_goes_112 : decode cX3_goes 112 = .ok (.aload_n 0, 1) := by decide +kernel
theorem dX3_goes_113 : decode cX3_goes 113 = .ok (.iload_n 2, 1) := by decide +kernel
theorem dX3_goes_114 : decode cX3_goes 114 = .ok (.iconst 5, 1) := by decide +kernel
theorem dX3_goes_115 : decode cX3_goes 115 = .ok (.invokevirtual 109, 3) := by decide +kernel
theorem dX3_goes_118 : decode cX3_goes 118 = .ok (.dup2, 1) := by decide +kernel
theorem dX3_goes_119 : decode cX3_goes 119 = .ok (.iaload, 1) := by decide +kernel
theorem dX3_goes_120 : decode cX3_goes 120 = .ok (.aload_n 0, 1) := by decide +kernel
theorem dX3_goes_121 : decode cX3_goes 121 = .ok (.iload_n 2, 1) := by decide +kernel
theorem dX3_goes_122 : decode cX3_goes 122 = .ok (.invokevirtual 120, 3) := by decide +kernel
theorem dX3_goes_125 : decode cX3_goes 125 = .ok (.iadd, 1) := by decide +kernel
theorem dX3_goes_126 : decode cX3_goes 126 = .ok (.iastore, 1) := by decide +kernel
theorem dX3_goes_127 : decode cX3_goes 127 = .ok (.iinc 2 1, 3) := by decide +kernel
theorem dX3_goes_130 : decode cX3_goes 130 = .ok (.goto (-32), 3) := by decide +kernel
theorem dX3_goes_133 : decode cX3_goes 133 = .ok (.iconst 0, 1) := by decide +kernel
theorem dX3_goes_134 : decode cX3_goes 134 = .ok (.istore_n 2, 1) := by decide +kernel
theorem dX3_goes_135 : decode cX3_goes 135 = .ok (.iload_n 2, 1) := by decide +kernel
theorem dX3_goes_136 : decode cX3_goes 136 = .ok (.aload_n 0, 1) := by decide +kernel
theorem dX3_goes_137 : decode cX3_goes 137 = .ok (.getfield 13, 3) := by decide +kernel
theorem dX3_goes_140 : decode cX3_goes 140 = .ok (.iconst 0, 1) := by decide +kernel
theorem dX3_goes_141 : decode cX3_goes 141 = .ok (.iaload, 1) := by decide +kernel
theorem dX3_goes_142 : decode cX3_goes 142 = .ok (.if_icmp .ge 51, 3) := by decide +kernel
theorem dX3_goes_145 : decode cX3_goes 145 = .ok (.aload_n 0, 1) := by decide +kernel
theorem dX3_goes_146 : decode cX3_goes 146 = .ok (.iload_n 2, 1) := by decide +kernel
theorem dX3_goes_147 : decode cX3_goes 147 = .ok (.bipush 6, 2) := by decide +kernel
theorem dX3_goes_149 : decode cX3_goes 149 = .ok (.aload_n 0, 1) := by decide +kernel
theorem dX3_goes_150 : decode cX3_goes 150 = .ok (.getfield 38, 3) := by decide +kernel
theorem dX3_goes_153 : decode cX3_goes 153 = .ok (.iload_n 2, 1) := by decide +kernel
theorem dX3_goes_154 : decode cX3_goes 154 = .ok (.iaload, 1) := by decide +kernel
theorem dX3_goes_155 : decode cX3_goes 155 = .ok (.invokevirtual 116, 3) := by decide +kernel
theorem dX3_goes_158 : decode cX3_goes 158 = .ok (.aload_n 0, 1) := by decide +kernel
theorem dX3_goes_159 : decode cX3_goes 159 = .ok (.iload_n 2, 1) := by decide +kernel
theorem dX3_goes_160 : decode cX3_goes 160 = .ok (.iconst 1, 1) := by decide +kernel
theorem dX3_goes_161 : decode cX3_goes 161 = .ok (.invokevirtual 109, 3) := by decide +kernel
theorem dX3_goes_164 : decode cX3_goes 164 = .ok (.aload_n 0, 1) := by decide +kernel
theorem dX3_goes_165 : decode cX3_goes 165 = .ok (.getfield 38, 3) := by decide +kernel
theorem dX3_goes_168 : decode cX3_goes 168 = .ok (.iload_n 2, 1) := by decide +kernel
theorem dX3_goes_169 : decode cX3_goes 169 = .ok (.iaload, 1) := by decide +kernel
theorem dX3_goes_170 : decode cX3_goes 170 = .ok (.isub, 1) := by decide +kernel
theorem dX3_goes_171 : decode cX3_goes 171 = .ok (.istore_n 3, 1) := by decide +kernel
theorem dX3_goes_172 : decode cX3_goes 172 = .ok (.aload_n 0, 1) := by decide +kernel
theorem dX3_goes_173 : decode cX3_goes 173 = .ok (.iload_n 2, 1) := by decide +kernel
theorem dX3_goes_174 : decode cX3_goes 174 = .ok (.iconst 1, 1) := by decide +kernel
theorem dX3_goes_175 : decode cX3_goes 175 = .ok (.iload_n 3, 1) := by decide +kernel
theorem dX3_goes_176 : decode cX3_goes 176 = .ok (.ifCond .ge 7, 3) := by decide +kernel
theorem dX3_goes_179 : decode cX3_goes 179 = .ok (.iconst 0, 1) := by decide +kernel
theorem dX3_goes_180 : decode cX3_goes 180 = .ok (.goto 4, 3) := by decide +kernel
theorem dX3_goes_183 : decode cX3_goes 183 = .ok (.iload_n 3, 1) := by decide +kernel
theorem dX3_goes_184 : decode cX3_goes 184 = .ok (.invokevirtual 116, 3) := by decide +kernel
theorem dX3_goes_187 : decode cX3_goes 187 = .ok (.iinc 2 1, 3) := by decide +kernel
theorem dX3_goes_190 : decode cX3_goes 190 = .ok (.goto (-55), 3) := by decide +kernel
theorem dX3_goes_193 : decode cX3_goes 193 = .ok (.iconst 0, 1) := by decide +kernel
theorem dX3_goes_194 : decode cX3_goes 194 = .ok (.istore_n 2, 1) := by decide +kernel
theorem dX3_goes_195 : decode cX3_goes 195 = .ok (.iload_n 2, 1) := by decide +kernel
theorem dX3_goes_196 : decode cX3_goes 196 = .ok (.aload_n 0, 1) := by decide +kernel
theorem dX3_goes_197 : decode cX3_goes 197 = .ok (.getfield 13, 3) := by decide +kernel
theorem dX3_goes_200 : decode cX3_goes 200 = .ok (.iconst 0, 1) := by decide +kernel
theorem dX3_goes_201 : decode cX3_goes 201 = .ok (.iaload, 1) := by decide +kernel
theorem dX3_goes_202 : decode cX3_goes 202 = .ok (.if_icmp .ge 23, 3) := by decide +kernel
theorem dX3_goes_205 : decode cX3_goes 205 = .ok (.iload_n 1, 1) := by decide +kernel
theorem dX3_goes_206 : decode cX3_goes 206 = .ok (.iload_n 2, 1) := by decide +kernel
theorem dX3_goes_207 : decode cX3_goes 207 = .ok (.ishr, 1) := by decide +kernel
theorem dX3_goes_208 : decode cX3_goes 208 = .ok (.iconst 1, 1) := by decide +kernel
theorem dX3_goes_209 : decode cX3_goes 209 = .ok (.iand, 1) := by decide +kernel
theorem dX3_goes_210 : decode cX3_goes 210 = .ok (.iconst 1, 1) := by decide +kernel
theorem dX3_goes_211 : decode cX3_goes 211 = .ok (.if_icmp .ne 8, 3) := by decide +kernel
theorem dX3_goes_214 : decode cX3_goes 214 = .ok (.aload_n 0, 1) := by decide +kernel
theorem dX3_goes_215 : decode cX3_goes 215 = .ok (.iload_n 2, 1) := by decide +kernel
theorem dX3_goes_216 : decode cX3_goes 216 = .ok (.invokevirtual 123, 3) := by decide +kernel
theorem dX3_goes_219 : decode cX3_goes 219 = .ok (.iinc 2 1, 3) := by decide +kernel
theorem dX3_goes_222 : decode cX3_goes 222 = .ok (.goto (-27), 3) := by decide +kernel
theorem dX3_goes_225 : decode cX3_goes 225 = .ok (.aload_n 0, 1) := by decide +kernel
theorem dX3_goes_226 : decode cX3_goes 226 = .ok (.getfield 13, 3) := by decide +kernel
theorem dX3_goes_229 : decode cX3_goes 229 = .ok (.iconst 1, 1) := by decide +kernel
theorem dX3_goes_230 : decode cX3_goes 230 = .ok (.dup2, 1) := by decide +kernel
theorem dX3_goes_231 : decode cX3_goes 231 = .ok (.iaload, 1) := by decide +kernel
theorem dX3_goes_232 : decode cX3_goes 232 = .ok (.iconst 1, 1) := by decide +kernel
theorem dX3_goes_233 : decode cX3_goes 233 = .ok (.iadd, 1) := by decide +kernel
theorem dX3_goes_234 : decode cX3_goes 234 = .ok (.iastore, 1) := by decide +kernel
theorem dX3_goes_235 : decode cX3_goes 235 = .ok (.return_, 1) := by decide +kernel
theorem dX3_goesFor_0 : decode cX3_goesFor 0 = .ok (.iconst 0, 1) := by decide +kernel
theorem dX3_goesFor_1 : decode cX3_goesFor 1 = .ok (.istore_n 2, 1) := by decide +kernel
theorem dX3_goesFor_2 : decode cX3_goesFor 2 = .ok (.iload_n 2, 1) := by decide +kernel
theorem dX3_goesFor_3 : decode cX3_goesFor 3 = .ok (.iload_n 1, 1) := by decide +kernel
theorem dX3_goesFor_4 : decode cX3_goesFor 4 = .ok (.if_icmp .ge 13, 3) := by decide +kernel
theorem dX3_goesFor_7 : decode cX3_goesFor 7 = .ok (.aload_n 0, 1) := by decide +kernel
theorem dX3_goesFor_8 : decode cX3_goesFor 8 = .ok (.invokevirtual 127, 3) := by decide +kernel
theorem dX3_goesFor_11 : decode cX3_goesFor 11 = .ok (.iinc 2 1, 3) := by decide +kernel
theorem dX3_goesFor_14 : decode cX3_goesFor 14 = .ok (.goto (-12), 3) := by decide +kernel
theorem dX3_goesFor_17 : decode cX3_goesFor 17 = .ok (.return_, 1) := by decide +kernel
theorem dX3_mudOf_0 : decode cX3_mudOf 0 = .ok (.iconst 0, 1) := by decide +kernel
theorem dX3_mudOf_1 : decode cX3_mudOf 1 = .ok (.istore_n 2, 1) := by decide +kernel
theorem dX3_mudOf_2 : decode cX3_mudOf 2 = .ok (.iconst 0, 1) := by decide +kernel
theorem dX3_mudOf_3 : decode cX3_mudOf 3 = .ok (.istore_n 3, 1) := by decide +kernel
theorem dX3_mudOf_4 : decode cX3_mudOf 4 = .ok (.iload_n 3, 1) := by decide +kernel
theorem dX3_mudOf_5 : decode cX3_mudOf 5 = .ok (.iload_n 1, 1) := by decide +kernel
theorem dX3_mudOf_6 : decode cX3_mudOf 6 = .ok (.if_icmp .ge 18, 3) := by decide +kernel
theorem dX3_mudOf_9 : decode cX3_mudOf 9 = .ok (.iload_n 2, 1) := by decide +kernel
theorem dX3_mudOf_10 : decode cX3_mudOf 10 = .ok (.aload_n 0, 1) := by decide +kernel
theorem dX3_mudOf_11 : decode cX3_mudOf 11 = .ok (.iload_n 3, 1) := by decide +kernel
theorem dX3_mudOf_12 : decode cX3_mudOf 12 = .ok (.iconst 1, 1) := by decide +kernel
theorem dX3_mudOf_13 : decode cX3_mudOf 13 = .ok (.invokevirtual 109, 3) := by decide +kernel
theorem dX3_mudOf_16 : decode cX3_mudOf 16 = .ok (.iadd, 1) := by decide +kernel
theorem dX3_mudOf_17 : decode cX3_mudOf 17 = .ok (.istore_n 2, 1) := by decide +kernel
theorem dX3_mudOf_18 : decode cX3_mudOf 18 = .ok (.iinc 3 1, 3) := by decide +kernel
theorem dX3_mudOf_21 : decode cX3_mudOf 21 = .ok (.goto (-17), 3) := by decide +kernel
theorem dX3_mudOf_24 : decode cX3_mudOf 24 = .ok (.iload_n 2, 1) := by decide +kernel
theorem dX3_mudOf_25 : decode cX3_mudOf 25 = .ok (.ireturn, 1) := by decide +kernel
theorem dX3_allMud_0 : decode cX3_allMud 0 = .ok (.aload_n 0, 1) := by decide +kernel
theorem dX3_allMud_1 : decode cX3_allMud 1 = .ok (.aload_n 0, 1) := by decide +kernel
theorem dX3_allMud_2 : decode cX3_allMud 2 = .ok (.getfield 13, 3) := by decide +kernel
theorem dX3_allMud_5 : decode cX3_allMud 5 = .ok (.iconst 0, 1) := by decide +kernel
theorem dX3_allMud_6 : decode cX3_allMud 6 = .ok (.iaload, 1) := by decide +kernel
theorem dX3_allMud_7 : decode cX3_allMud 7 = .ok (.invokevirtual 130, 3) := by decide +kernel
theorem dX3_allMud_10 : decode cX3_allMud 10 = .ok (.ireturn, 1) := by decide +kernel
theorem dX3_mudBehind_0 : decode cX3_mudBehind 0 = .ok (.aload_n 0, 1) := by decide +kernel
theorem dX3_mudBehind_1 : decode cX3_mudBehind 1 = .ok (.iload_n 1, 1) := by decide +kernel
theorem dX3_mudBehind_2 : decode cX3_mudBehind 2 = .ok (.invokevirtual 133, 3) := by decide +kernel
theorem dX3_mudBehind_5 : decode cX3_mudBehind 5 = .ok (.aload_n 0, 1) := by decide +kernel
theorem dX3_mudBehind_6 : decode cX3_mudBehind 6 = .ok (.invokevirtual 136, 3) := by decide +kernel
theorem dX3_mudBehind_9 : decode cX3_mudBehind 9 = .ok (.istore_n 2, 1) := by decide +kernel
theorem dX3_mudBehind_10 : decode cX3_mudBehind 10 = .ok (.aload_n 0, 1) := by decide +kernel
theorem dX3_mudBehind_11 : decode cX3_mudBehind 11 = .ok (.invokevirtual 139, 3) := by decide +kernel
theorem dX3_mudBehind_14 : decode cX3_mudBehind 14 = .ok (.iload_n 2, 1) := by decide +kernel
theorem dX3_mudBehind_15 : decode cX3_mudBehind 15 = .ok (.ireturn, 1) := by decide +kernel
theorem dX3_fed_0 : decode cX3_fed 0 = .ok (.iconst 0, 1) := by decide +kernel
theorem dX3_fed_1 : decode cX3_fed 1 = .ok (.istore_n 2, 1) := by decide +kernel
theorem dX3_fed_2 : decode cX3_fed 2 = .ok (.iconst 0, 1) := by decide +kernel
theorem dX3_fed_3 : decode cX3_fed 3 = .ok (.istore_n 3, 1) := by decide +kernel
theorem dX3_fed_4 : decode cX3_fed 4 = .ok (.iload_n 3, 1) := by decide +kernel
theorem dX3_fed_5 : decode cX3_fed 5 = .ok (.aload_n 0, 1) := by decide +kernel
theorem dX3_fed_6 : decode cX3_fed 6 = .ok (.getfield 13, 3) := by decide +kernel
theorem dX3_fed_9 : decode cX3_fed 9 = .ok (.iconst 0, 1) := by decide +kernel
theorem dX3_fed_10 : decode cX3_fed 10 = .ok (.iaload, 1) := by decide +kernel
theorem dX3_fed_11 : decode cX3_fed 11 = .ok (.if_icmp .ge 27, 3) := by decide +kernel
theorem dX3_fed_14 : decode cX3_fed 14 = .ok (.iload_n 2, 1) := by decide +kernel
theorem dX3_fed_15 : decode cX3_fed 15 = .ok (.aload_n 0, 1) := by decide +kernel
theorem dX3_fed_16 : decode cX3_fed 16 = .ok (.iload_n 3, 1) := by decide +kernel
theorem dX3_fed_17 : decode cX3_fed 17 = .ok (.iconst 5, 1) := by decide +kernel
theorem dX3_fed_18 : decode cX3_fed 18 = .ok (.invokevirtual 109, 3) := by decide +kernel
theorem dX3_fed_21 : decode cX3_fed 21 = .ok (.iload_n 1, 1) := by decide +kernel
theorem dX3_fed_22 : decode cX3_fed 22 = .ok (.if_icmp .ne 7, 3) := by decide +kernel
theorem dX3_fed_25 : decode cX3_fed 25 = .ok (.iconst 1, 1) := by decide +kernel
theorem dX3_fed_26 : decode cX3_fed 26 = .ok (.goto 4, 3) := by decide +kernel
theorem dX3_fed_29 : decode cX3_fed 29 = .ok (.iconst 0, 1) := by decide +kernel
theorem dX3_fed_30 : decode cX3_fed 30 = .ok (.iadd, 1) := by decide +kernel
theorem dX3_fed_31 : decode cX3_fed 31 = .ok (.istore_n 2, 1) := by decide +kernel
theorem dX3_fed_32 : decode cX3_fed 32 = .ok (.iinc 3 1, 3) := by decide +kernel
theorem dX3_fed_35 : decode cX3_fed 35 = .ok (.goto (-31), 3) := by decide +kernel
theorem dX3_fed_38 : decode cX3_fed 38 = .ok (.iload_n 2, 1) := by decide +kernel
theorem dX3_fed_39 : decode cX3_fed 39 = .ok (.ireturn, 1) := by decide +kernel
theorem dX3_street_0 : decode cX3_street 0 = .ok (.aload_n 0, 1) := by decide +kernel
theorem dX3_street_1 : decode cX3_street 1 = .ok (.iload_n 1, 1) := by decide +kernel
theorem dX3_street_2 : decode cX3_street 2 = .ok (.invokevirtual 142, 3) := by decide +kernel
theorem dX3_street_5 : decode cX3_street 5 = .ok (.ifCond .ne 11, 3) := by decide +kernel
theorem dX3_street_8 : decode cX3_street 8 = .ok (.aload_n 0, 1) := by decide +kernel
theorem dX3_street_9 : decode cX3_street 9 = .ok (.iconst (-1), 1) := by decide +kernel
theorem dX3_street_10 : decode cX3_street 10 = .ok (.invokevirtual 71, 3) := by decide +kernel
theorem dX3_street_13 : decode cX3_street 13 = .ok (.goto 41, 3) := by decide +kernel
theorem dX3_street_16 : decode cX3_street 16 = .ok (.iload_n 2, 1) := by decide +kernel
theorem dX3_street_17 : decode cX3_street 17 = .ok (.bipush 7, 2) := by decide +kernel
theorem dX3_street_19 : decode cX3_street 19 = .ok (.if_icmp .ne 11, 3) := by decide +kernel
theorem dX3_street_22 : decode cX3_street 22 = .ok (.aload_n 0, 1) := by decide +kernel
theorem dX3_street_23 : decode cX3_street 23 = .ok (.iload_n 1, 1) := by decide +kernel
theorem dX3_street_24 : decode cX3_street 24 = .ok (.invokevirtual 145, 3) := by decide +kernel
theorem dX3_street_27 : decode cX3_street 27 = .ok (.goto 27, 3) := by decide +kernel
theorem dX3_street_30 : decode cX3_street 30 = .ok (.iload_n 2, 1) := by decide +kernel
theorem dX3_street_31 : decode cX3_street 31 = .ok (.bipush 7, 2) := by decide +kernel
theorem dX3_street_33 : decode cX3_street 33 = .ok (.invokestatic 60, 3) := by decide +kernel
theorem dX3_street_36 : decode cX3_street 36 = .ok (.ifCond .eq 12, 3) := by decide +kernel
theorem dX3_street_39 : decode cX3_street 39 = .ok (.aload_n 0, 1) := by decide +kernel
theorem dX3_street_40 : decode cX3_street 40 = .ok (.iload_n 1, 1) := by decide +kernel
theorem dX3_street_41 : decode cX3_street 41 = .ok (.iload_n 2, 1) := by decide +kernel
theorem dX3_street_42 : decode cX3_street 42 = .ok (.invokevirtual 109, 3) := by decide +kernel
theorem dX3_street_45 : decode cX3_street 45 = .ok (.goto 9, 3) := by decide +kernel
theorem dX3_street_48 : decode cX3_street 48 = .ok (.aload_n 0, 1) := by decide +kernel
theorem dX3_street_49 : decode cX3_street 49 = .ok (.bipush (-2), 2) := by decide +kernel
theorem dX3_street_51 : decode cX3_street 51 = .ok (.invokevirtual 71, 3) := by decide +kernel
theorem dX3_street_54 : decode cX3_street 54 = .ok (.ireturn, 1) := by decide +kernel
theorem dX3_mends_0 : decode cX3_mends 0 = .ok (.aload_n 0, 1) := by decide +kernel
theorem dX3_mends_1 : decode cX3_mends 1 = .ok (.iload_n 1, 1) := by decide +kernel
theorem dX3_mends_2 : decode cX3_mends 2 = .ok (.invokevirtual 142, 3) := by decide +kernel
theorem dX3_mends_5 : decode cX3_mends 5 = .ok (.ifCond .eq 11, 3) := by decide +kernel
theorem dX3_mends_8 : decode cX3_mends 8 = .ok (.aload_n 0, 1) := by decide +kernel
theorem dX3_mends_9 : decode cX3_mends 9 = .ok (.iload_n 2, 1) := by decide +kernel
theorem dX3_mends_10 : decode cX3_mends 10 = .ok (.invokevirtual 142, 3) := by decide +kernel
theorem dX3_mends_13 : decode cX3_mends 13 = .ok (.ifCond .ne 9, 3) := by decide +kernel
theorem dX3_mends_16 : decode cX3_mends 16 = .ok (.aload_n 0, 1) := by decide +kernel
theorem dX3_mends_17 : decode cX3_mends 17 = .ok (.iconst (-1), 1) := by decide +kernel
theorem dX3_mends_18 : decode cX3_mends 18 = .ok (.invokevirtual 71, 3) := by decide +kernel
theorem dX3_mends_21 : decode cX3_mends 21 = .ok (.ireturn, 1) := by decide +kernel
theorem dX3_mends_22 : decode cX3_mends 22 = .ok (.aload_n 0, 1) := by decide +kernel
theorem dX3_mends_23 : decode cX3_mends 23 = .ok (.iload_n 1, 1) := by decide +kernel
theorem dX3_mends_24 : decode cX3_mends 24 = .ok (.iconst 5, 1) := by decide +kernel
theorem dX3_mends_25 : decode cX3_mends 25 = .ok (.invokevirtual 109, 3) := by decide +kernel
theorem dX3_mends_28 : decode cX3_mends 28 = .ok (.istore_n 3, 1) := by decide +kernel
theorem dX3_mends_29 : decode cX3_mends 29 = .ok (.aload_n 0, 1) := by decide +kernel
theorem dX3_mends_30 : decode cX3_mends 30 = .ok (.iload_n 1, 1) := by decide +kernel
theorem dX3_mends_31 : decode cX3_mends 31 = .ok (.iconst 5, 1) := by decide +kernel
theorem dX3_mends_32 : decode cX3_mends 32 = .ok (.iload_n 2, 1) := by decide +kernel
theorem dX3_mends_33 : decode cX3_mends 33 = .ok (.invokevirtual 116, 3) := by decide +kernel
theorem dX3_mends_36 : decode cX3_mends 36 = .ok (.iload_n 3, 1) := by decide +kernel
theorem dX3_mends_37 : decode cX3_mends 37 = .ok (.ireturn, 1) := by decide +kernel
theorem dX3_becomes_0 : decode cX3_becomes 0 = .ok (.aload_n 0, 1) := by decide +kernel
theorem dX3_becomes_1 : decode cX3_becomes 1 = .ok (.iload_n 1, 1) := by decide +kernel
theorem dX3_becomes_2 : decode cX3_becomes 2 = .ok (.invokevirtual 142, 3) := by decide +kernel
theorem dX3_becomes_5 : decode cX3_becomes 5 = .ok (.ifCond .eq 13, 3) := by decide +kernel
theorem dX3_becomes_8 : decode cX3_becomes 8 = .ok (.iload_n 3, 1) := by decide +kernel
theorem dX3_becomes_9 : decode cX3_becomes 9 = .ok (.iconst 0, 1) := by decide +kernel
theorem dX3_becomes_10 : decode cX3_becomes 10 = .ok (.iload 4, 2) := by decide +kernel
theorem dX3_becomes_12 : decode cX3_becomes 12 = .ok (.invokestatic 64, 3) := by decide +kernel
theorem dX3_becomes_15 : decode cX3_becomes 15 = .ok (.goto 4, 3) := by decide +kernel
theorem dX3_becomes_18 : decode cX3_becomes 18 = .ok (.iconst (-1), 1) := by decide +kernel
theorem dX3_becomes_19 : decode cX3_becomes 19 = .ok (.istore 5, 2) := by decide +kernel
theorem dX3_becomes_21 : decode cX3_becomes 21 = .ok (.iload 5, 2) := by decide +kernel
theorem dX3_becomes_23 : decode cX3_becomes 23 = .ok (.ifCond .eq 10, 3) := by decide +kernel
theorem dX3_becomes_26 : decode cX3_becomes 26 = .ok (.aload_n 0, 1) := by decide +kernel
theorem dX3_becomes_27 : decode cX3_becomes 27 = .ok (.iload 5, 2) := by decide +kernel
theorem dX3_becomes_29 : decode cX3_becomes 29 = .ok (.invokevirtual 71, 3) := by decide +kernel
theorem dX3_becomes_32 : decode cX3_becomes 32 = .ok (.ireturn, 1) := by decide +kernel
theorem dX3_becomes_33 : decode cX3_becomes 33 = .ok (.aload_n 0, 1) := by decide +kernel
theorem dX3_becomes_34 : decode cX3_becomes 34 = .ok (.iload_n 1, 1) := by decide +kernel
theorem dX3_becomes_35 : decode cX3_becomes 35 = .ok (.iload_n 2, 1) := by decide +kernel
theorem dX3_becomes_36 : decode cX3_becomes 36 = .ok (.invokevirtual 109, 3) := by decide +kernel
theorem dX3_becomes_39 : decode cX3_becomes 39 = .ok (.istore 6, 2) := by decide +kernel
theorem dX3_becomes_41 : decode cX3_becomes 41 = .ok (.aload_n 0, 1) := by decide +kernel
theorem dX3_becomes_42 : decode cX3_becomes 42 = .ok (.iload_n 1, 1) := by decide +kernel
theorem dX3_becomes_43 : decode cX3_becomes 43 = .ok (.iload_n 2, 1) := by decide +kernel
theorem dX3_becomes_44 : decode cX3_becomes 44 = .ok (.iload_n 3, 1) := by decide +kernel
theorem dX3_becomes_45 : decode cX3_becomes 45 = .ok (.invokevirtual 116, 3) := by decide +kernel
theorem dX3_becomes_48 : decode cX3_becomes 48 = .ok (.iload 6, 2) := by decide +kernel
theorem dX3_becomes_50 : decode cX3_becomes 50 = .ok (.ireturn, 1) := by decide +kernel
theorem dX3_pence_0 : decode cX3_pence 0 = .ok (.aload_n 0, 1) := by decide +kernel
theorem dX3_pence_1 : decode cX3_pence 1 = .ok (.iload_n 1, 1) := by decide +kernel
theorem dX3_pence_2 : decode cX3_pence 2 = .ok (.iconst 4, 1) := by decide +kernel
theorem dX3_pence_3 : decode cX3_pence 3 = .ok (.iload_n 2, 1) := by decide +kernel
theorem dX3_pence_4 : decode cX3_pence 4 = .ok (.bipush 99, 2) := by decide +kernel
theorem dX3_pence_6 : decode cX3_pence 6 = .ok (.invokevirtual 148, 3) := by decide +kernel
theorem dX3_pence_9 : decode cX3_pence 9 = .ok (.ireturn, 1) := by decide +kernel
theorem dX3_hands_0 : decode cX3_hands 0 = .ok (.aload_n 0, 1) := by decide +kernel
theorem dX3_hands_1 : decode cX3_hands 1 = .ok (.iload_n 1, 1) := by decide +kernel
theorem dX3_hands_2 : decode cX3_hands 2 = .ok (.iconst 3, 1) := by decide +kernel
theorem dX3_hands_3 : decode cX3_hands 3 = .ok (.iload_n 2, 1) := by decide +kernel
theorem dX3_hands_4 : decode cX3_hands 4 = .ok (.iconst 4, 1) := by decide +kernel
theorem dX3_hands_5 : decode cX3_hands 5 = .ok (.invokevirtual 148, 3) := by decide +kernel
theorem dX3_hands_8 : decode cX3_hands 8 = .ok (.ireturn, 1) := by decide +kernel
theorem dX3_year_0 : decode cX3_year 0 = .ok (.aload_n 0, 1) := by decide +kernel
theorem dX3_year_1 : decode cX3_year 1 = .ok (.getfield 13, 3) := by decide +kernel
theorem dX3_year_4 : decode cX3_year 4 = .ok (.iconst 1, 1) := by decide +kernel
theorem dX3_year_5 : decode cX3_year 5 = .ok (.iaload, 1) := by decide +kernel
theorem dX3_year_6 : decode cX3_year 6 = .ok (.sipush 999, 3) := by decide +kernel
theorem dX3_year_9 : decode cX3_year 9 = .ok (.if_icmp .ne 10, 3) := by decide +kernel
theorem dX3_year_12 : decode cX3_year 12 = .ok (.aload_n 0, 1) := by decide +kernel
theorem dX3_year_13 : decode cX3_year 13 = .ok (.bipush (-6), 2) := by decide +kernel
theorem dX3_year_15 : decode cX3_year 15 = .ok (.invokevirtual 71, 3) := by decide +kernel
theorem dX3_year_18 : decode cX3_year 18 = .ok (.ireturn, 1) := by decide +kernel
theorem dX3_year_19 : decode cX3_year 19 = .ok (.aload_n 0, 1) := by decide +kernel
theorem dX3_year_20 : decode cX3_year 20 = .ok (.invokevirtual 127, 3) := by decide +kernel
theorem dX3_year_23 : decode cX3_year 23 = .ok (.aload_n 0, 1) := by decide +kernel
theorem dX3_year_24 : decode cX3_year 24 = .ok (.invokevirtual 136, 3) := by decide +kernel
theorem dX3_year_27 : decode cX3_year 27 = .ok (.ireturn, 1) := by decide +kernel
theorem dX3_mud_0 : decode cX3_mud 0 = .ok (.iload_n 1, 1) := by decide +kernel
theorem dX3_mud_1 : decode cX3_mud 1 = .ok (.iconst (-1), 1) := by decide +kernel
theorem dX3_mud_2 : decode cX3_mud 2 = .ok (.if_icmp .eq 11, 3) := by decide +kernel
theorem dX3_mud_5 : decode cX3_mud 5 = .ok (.aload_n 0, 1) := by decide +kernel
theorem dX3_mud_6 : decode cX3_mud 6 = .ok (.iload_n 1, 1) := by decide +kernel
theorem dX3_mud_7 : decode cX3_mud 7 = .ok (.invokevirtual 142, 3) := by decide +kernel
theorem dX3_mud_10 : decode cX3_mud 10 = .ok (.ifCond .eq 13, 3) := by decide +kernel
theorem dX3_mud_13 : decode cX3_mud 13 = .ok (.iload_n 2, 1) := by decide +kernel
theorem dX3_mud_14 : decode cX3_mud 14 = .ok (.iconst 0, 1) := by decide +kernel
theorem dX3_mud_15 : decode cX3_mud 15 = .ok (.bipush 60, 2) := by decide +kernel
theorem dX3_mud_17 : decode cX3_mud 17 = .ok (.invokestatic 64, 3) := by decide +kernel
theorem dX3_mud_20 : decode cX3_mud 20 = .ok (.goto 4, 3) := by decide +kernel
theorem dX3_mud_23 : decode cX3_mud 23 = .ok (.iconst (-1), 1) := by decide +kernel
theorem dX3_mud_24 : decode cX3_mud 24 = .ok (.istore_n 3, 1) := by decide +kernel
theorem dX3_mud_25 : decode cX3_mud 25 = .ok (.iload_n 3, 1) := by decide +kernel
theorem dX3_mud_26 : decode cX3_mud 26 = .ok (.ifCond .eq 9, 3) := by decide +kernel
theorem dX3_mud_29 : decode cX3_mud 29 = .ok (.aload_n 0, 1) := by decide +kernel
theorem dX3_mud_30 : decode cX3_mud 30 = .ok (.iload_n 3, 1) := by decide +kernel
theorem dX3_mud_31 : decode cX3_mud 31 = .ok (.invokevirtual 71, 3) := by decide +kernel
theorem dX3_mud_34 : decode cX3_mud 34 = .ok (.ireturn, 1) := by decide +kernel
theorem dX3_mud_35 : decode cX3_mud 35 = .ok (.aload_n 0, 1) := by decide +kernel
theorem dX3_mud_36 : decode cX3_mud 36 = .ok (.invokevirtual 152, 3) := by decide +kernel
theorem dX3_mud_39 : decode cX3_mud 39 = .ok (.aload_n 0, 1) := by decide +kernel
theorem dX3_mud_40 : decode cX3_mud 40 = .ok (.iload_n 2, 1) := by decide +kernel
theorem dX3_mud_41 : decode cX3_mud 41 = .ok (.invokevirtual 133, 3) := by decide +kernel
theorem dX3_mud_44 : decode cX3_mud 44 = .ok (.iload_n 1, 1) := by decide +kernel
theorem dX3_mud_45 : decode cX3_mud 45 = .ok (.ifCond .ge 10, 3) := by decide +kernel
theorem dX3_mud_48 : decode cX3_mud 48 = .ok (.aload_n 0, 1) := by decide +kernel
theorem dX3_mud_49 : decode cX3_mud 49 = .ok (.invokevirtual 136, 3) := by decide +kernel
theorem dX3_mud_52 : decode cX3_mud 52 = .ok (.goto 9, 3) := by decide +kernel
theorem dX3_mud_55 : decode cX3_mud 55 = .ok (.aload_n 0, 1) := by decide +kernel
theorem dX3_mud_56 : decode cX3_mud 56 = .ok (.iload_n 1, 1) := by decide +kernel
theorem dX3_mud_57 : decode cX3_mud 57 = .ok (.iconst 1, 1) := by decide +kernel
theorem dX3_mud_58 : decode cX3_mud 58 = .ok (.invokevirtual 109, 3) := by decide +kernel
theorem dX3_mud_61 : decode cX3_mud 61 = .ok (.istore 4, 2) := by decide +kernel
theorem dX3_mud_63 : decode cX3_mud 63 = .ok (.aload_n 0, 1) := by decide +kernel
theorem dX3_mud_64 : decode cX3_mud 64 = .ok (.invokevirtual 139, 3) := by decide +kernel
theorem dX3_mud_67 : decode cX3_mud 67 = .ok (.iload 4, 2) := by decide +kernel
theorem dX3_mud_69 : decode cX3_mud 69 = .ok (.ireturn, 1) := by decide +kernel
theorem dX3_worst_0 : decode cX3_worst 0 = .ok (.iload_n 1, 1) := by decide +kernel
theorem dX3_worst_1 : decode cX3_worst 1 = .ok (.iconst 0, 1) := by decide +kernel
theorem dX3_worst_2 : decode cX3_worst 2 = .ok (.bipush 60, 2) := by decide +kernel
theorem dX3_worst_4 : decode cX3_worst 4 = .ok (.invokestatic 64, 3) := by decide +kernel
theorem dX3_worst_7 : decode cX3_worst 7 = .ok (.istore_n 3, 1) := by decide +kernel
theorem dX3_worst_8 : decode cX3_worst 8 = .ok (.iload_n 3, 1) := by decide +kernel
theorem dX3_worst_9 : decode cX3_worst 9 = .ok (.ifCond .ne 14, 3) := by decide +kernel
theorem dX3_worst_12 : decode cX3_worst 12 = .ok (.iload_n 2, 1) := by decide +kernel
theorem dX3_worst_13 : decode cX3_worst 13 = .ok (.iconst 2, 1) := by decide +kernel
theorem dX3_worst_14 : decode cX3_worst 14 = .ok (.invokestatic 60, 3) := by decide +kernel
theorem dX3_worst_17 : decode cX3_worst 17 = .ok (.ifCond .ne 6, 3) := by decide +kernel
theorem dX3_worst_20 : decode cX3_worst 20 = .ok (.bipush (-2), 2) := by decide +kernel
theorem dX3_worst_22 : decode cX3_worst 22 = .ok (.istore_n 3, 1) := by decide +kernel
theorem dX3_worst_23 : decode cX3_worst 23 = .ok (.iload_n 3, 1) := by decide +kernel
theorem dX3_worst_24 : decode cX3_worst 24 = .ok (.ifCond .eq 9, 3) := by decide +kernel
theorem dX3_worst_27 : decode cX3_worst 27 = .ok (.aload_n 0, 1) := by decide +kernel
theorem dX3_worst_28 : decode cX3_worst 28 = .ok (.iload_n 3, 1) := by decide +kernel
theorem dX3_worst_29 : decode cX3_worst 29 = .ok (.invokevirtual 71, 3) := by decide +kernel
theorem dX3_worst_32 : decode cX3_worst 32 = .ok (.ireturn, 1) := by decide +kernel
theorem dX3_worst_33 : decode cX3_worst 33 = .ok (.aload_n 0, 1) := by decide +kernel
theorem dX3_worst_34 : decode cX3_worst 34 = .ok (.invokevirtual 152, 3) := by decide +kernel
theorem dX3_worst_37 : decode cX3_worst 37 = .ok (.aload_n 0, 1) := by decide +kernel
theorem dX3_worst_38 : decode cX3_worst 38 = .ok (.iload_n 1, 1) := by decide +kernel
theorem dX3_worst_39 : decode cX3_worst 39 = .ok (.invokevirtual 133, 3) := by decide +kernel
theorem dX3_worst_42 : decode cX3_worst 42 = .ok (.bipush (-9), 2) := by decide +kernel
theorem dX3_worst_44 : decode cX3_worst 44 = .ok (.istore 4, 2) := by decide +kernel
theorem dX3_worst_46 : decode cX3_worst 46 = .ok (.iconst 0, 1) := by decide +kernel
theorem dX3_worst_47 : decode cX3_worst 47 = .ok (.istore 5, 2) := by decide +kernel
theorem dX3_worst_49 : decode cX3_worst 49 = .ok (.iconst 0, 1) := by decide +kernel
theorem dX3_worst_50 : decode cX3_worst 50 = .ok (.istore 6, 2) := by decide +kernel
theorem dX3_worst_52 : decode cX3_worst 52 = .ok (.iload 6, 2) := by decide +kernel
theorem dX3_worst_54 : decode cX3_worst 54 = .ok (.aload_n 0, 1) := by decide +kernel
theorem dX3_worst_55 : decode cX3_worst 55 = .ok (.getfield 13, 3) := by decide +kernel
theorem dX3_worst_58 : decode cX3_worst 58 = .ok (.iconst 0, 1) := by decide +kernel
theorem dX3_worst_59 : decode cX3_worst 59 = .ok (.iaload, 1) := by decide +kernel
theorem dX3_worst_60 : decode cX3_worst 60 = .ok (.if_icmp .ge 42, 3) := by decide +kernel
theorem dX3_worst_63 : decode cX3_worst 63 = .ok (.iload 4, 2) := by decide +kernel
theorem dX3_worst_65 : decode cX3_worst 65 = .ok (.ifCond .lt 18, 3) := by decide +kernel
theorem dX3_worst_68 : decode cX3_worst 68 = .ok (.aload_n 0, 1) := by decide +kernel
theorem dX3_worst_69 : decode cX3_worst 69 = .ok (.iload 6, 2) := by decide +kernel
theorem dX3_worst_71 : decode cX3_worst 71 = .ok (.iconst 1, 1) := by decide +kernel
theorem dX3_worst_72 : decode cX3_worst 72 = .ok (.invokevirtual 109, 3) := by decide +kernel
theorem dX3_worst_75 : decode cX3_worst 75 = .ok (.iload 5, 2) := by decide +kernel
theorem dX3_worst_77 : decode cX3_worst 77 = .ok (.if_icmp .gt 6, 3) := by decide +kernel
theorem dX3_worst_80 : decode cX3_worst 80 = .ok (.goto 16, 3) := by decide +kernel
theorem dX3_worst_83 : decode cX3_worst 83 = .ok (.iload 6, 2) := by decide +kernel
theorem dX3_worst_85 : decode cX3_worst 85 = .ok (.istore 4, 2) := by decide +kernel
theorem dX3_worst_87 : decode cX3_worst 87 = .ok (.aload_n 0, 1) := by decide +kernel
theorem dX3_worst_88 : decode cX3_worst 88 = .ok (.iload 6, 2) := by decide +kernel
theorem dX3_worst_90 : decode cX3_worst 90 = .ok (.iconst 1, 1) := by decide +kernel
theorem dX3_worst_91 : decode cX3_worst 91 = .ok (.invokevirtual 109, 3) := by decide +kernel
theorem dX3_worst_94 : decode cX3_worst 94 = .ok (.istore 5, 2) := by decide +kernel
theorem dX3_worst_96 : decode cX3_worst 96 = .ok (.iinc 6 1, 3) := by decide +kernel
theorem dX3_worst_99 : decode cX3_worst 99 = .ok (.goto (-47), 3) := by decide +kernel
theorem dX3_worst_102 : decode cX3_worst 102 = .ok (.aload_n 0, 1) := by decide +kernel
theorem dX3_worst_103 : decode cX3_worst 103 = .ok (.invokevirtual 139, 3) := by decide +kernel
theorem dX3_worst_106 : decode cX3_worst 106 = .ok (.iload_n 2, 1) := by decide +kernel
theorem dX3_worst_107 : decode cX3_worst 107 = .ok (.ifCond .ne 8, 3) := by decide +kernel
theorem dX3_worst_110 : decode cX3_worst 110 = .ok (.iload 5, 2) := by decide +kernel
theorem dX3_worst_112 : decode cX3_worst 112 = .ok (.goto 5, 3) := by decide +kernel
theorem dX3_worst_115 : decode cX3_worst 115 = .ok (.iload 4, 2) := by decide +kernel
theorem dX3_worst_117 : decode cX3_worst 117 = .ok (.ireturn, 1) := by decide +kernel
theorem dX3_isAsThen_0 : decode cX3_isAsThen 0 = .ok (.iconst 0, 1) := by decide +kernel
theorem dX3_isAsThen_1 : decode cX3_isAsThen 1 = .ok (.istore_n 1, 1) := by decide +kernel
theorem dX3_isAsThen_2 : decode cX3_isAsThen 2 = .ok (.iload_n 1, 1) := by decide +kernel
theorem dX3_isAsThen_3 : decode cX3_isAsThen 3 = .ok (.aload_n 0, 1) := by decide +kernel
theorem dX3_isAsThen_4 : decode cX3_isAsThen 4 = .ok (.getfield 13, 3) := by decide +kernel
theorem dX3_isAsThen_7 : decode cX3_isAsThen 7 = .ok (.iconst 0, 1) := by decide +kernel
theorem dX3_isAsThen_8 : decode cX3_isAsThen 8 = .ok (.iaload, 1) := by decide +kernel
theorem dX3_isAsThen_9 : decode cX3_isAsThen 9 = .ok (.if_icmp .ge 47, 3) := by decide +kernel
theorem dX3_isAsThen_12 : decode cX3_isAsThen 12 = .ok (.iconst 1, 1) := by decide +kernel
theorem dX3_isAsThen_13 : decode cX3_isAsThen 13 = .ok (.istore_n 2, 1) := by decide +kernel
theorem dX3_isAsThen_14 : decode cX3_isAsThen 14 = .ok (.iload_n 2, 1) := by decide +kernel
theorem dX3_isAsThen_15 : decode cX3_isAsThen 15 = .ok (.bipush 6, 2) := by decide +kernel
theorem dX3_isAsThen_17 : decode cX3_isAsThen 17 = .ok (.if_icmp .gt 33, 3) := by decide +kernel
theorem dX3_isAsThen_20 : decode cX3_isAsThen 20 = .ok (.aload_n 0, 1) := by decide +kernel
theorem dX3_isAsThen_21 : decode cX3_isAsThen 21 = .ok (.iload_n 1, 1) := by decide +kernel
theorem dX3_isAsThen_22 : decode cX3_isAsThen 22 = .ok (.iload_n 2, 1) := by decide +kernel
theorem dX3_isAsThen_23 : decode cX3_isAsThen 23 = .ok (.invokevirtual 109, 3) := by decide +kernel
theorem dX3_isAsThen_26 : decode cX3_isAsThen 26 = .ok (.aload_n 0, 1) := by decide +kernel
theorem dX3_isAsThen_27 : decode cX3_isAsThen 27 = .ok (.getfield 41, 3) := by decide +kernel
theorem dX3_isAsThen_30 : decode cX3_isAsThen 30 = .ok (.iconst 2, 1) := by decide +kernel
theorem dX3_isAsThen_31 : decode cX3_isAsThen 31 = .ok (.bipush 7, 2) := by decide +kernel
theorem dX3_isAsThen_33 : decode cX3_isAsThen 33 = .ok (.iload_n 1, 1) := by decide +kernel
theorem dX3_isAsThen_34 : decode cX3_isAsThen 34 = .ok (.imul, 1) := by decide +kernel
theorem dX3_isAsThen_35 : decode cX3_isAsThen 35 = .ok (.iadd, 1) := by decide +kernel
theorem dX3_isAsThen_36 : decode cX3_isAsThen 36 = .ok (.iload_n 2, 1) := by decide +kernel
theorem dX3_isAsThen_37 : decode cX3_isAsThen 37 = .ok (.iadd, 1) := by decide +kernel
theorem dX3_isAsThen_38 : decode cX3_isAsThen 38 = .ok (.iaload, 1) := by decide +kernel
theorem dX3_isAsThen_39 : decode cX3_isAsThen 39 = .ok (.if_icmp .eq 5, 3) := by decide +kernel
theorem dX3_isAsThen_42 : decode cX3_isAsThen 42 = .ok (.iconst 0, 1) := by decide +kernel
theorem dX3_isAsThen_43 : decode cX3_isAsThen 43 = .ok (.ireturn, 1) := by decide +kernel
theorem dX3_isAsThen_44 : decode cX3_isAsThen 44 = .ok (.iinc 2 5, 3) := by decide +kernel
theorem dX3_isAsThen_47 : decode cX3_isAsThen 47 = .ok (.goto (-33), 3) := by decide +kernel
theorem dX3_isAsThen_50 : decode cX3_isAsThen 50 = .ok (.iinc 1 1, 3) := by decide +kernel
theorem dX3_isAsThen_53 : decode cX3_isAsThen 53 = .ok (.goto (-51), 3) := by decide +kernel
theorem dX3_isAsThen_56 : decode cX3_isAsThen 56 = .ok (.iconst 1, 1) := by decide +kernel
theorem dX3_isAsThen_57 : decode cX3_isAsThen 57 = .ok (.ireturn, 1) := by decide +kernel
theorem dX3_again_0 : decode cX3_again 0 = .ok (.aload_n 0, 1) := by decide +kernel
theorem dX3_again_1 : decode cX3_again 1 = .ok (.invokevirtual 152, 3) := by decide +kernel
theorem dX3_again_4 : decode cX3_again 4 = .ok (.aload_n 0, 1) := by decide +kernel
theorem dX3_again_5 : decode cX3_again 5 = .ok (.bipush 40, 2) := by decide +kernel
theorem dX3_again_7 : decode cX3_again 7 = .ok (.invokevirtual 133, 3) := by decide +kernel
theorem dX3_again_10 : decode cX3_again 10 = .ok (.aload_n 0, 1) := by decide +kernel
theorem dX3_again_11 : decode cX3_again 11 = .ok (.getfield 13, 3) := by decide +kernel
theorem dX3_again_14 : decode cX3_again 14 = .ok (.aload_n 0, 1) := by decide +kernel
theorem dX3_again_15 : decode cX3_again 15 = .ok (.getfield 41, 3) := by decide +kernel
theorem dX3_again_18 : decode cX3_again 18 = .ok (.invokestatic 56, 3) := by decide +kernel
theorem dX3_again_21 : decode cX3_again 21 = .ok (.bipush (-9), 2) := by decide +kernel
theorem dX3_again_23 : decode cX3_again 23 = .ok (.istore_n 1, 1) := by decide +kernel
theorem dX3_again_24 : decode cX3_again 24 = .ok (.iconst 1, 1) := by decide +kernel
theorem dX3_again_25 : decode cX3_again 25 = .ok (.istore_n 2, 1) := by decide +kernel
theorem dX3_again_26 : decode cX3_again 26 = .ok (.iload_n 2, 1) := by decide +kernel
theorem dX3_again_27 : decode cX3_again 27 = .ok (.bipush 30, 2) := by decide +kernel
theorem dX3_again_29 : decode cX3_again 29 = .ok (.if_icmp .gt 31, 3) := by decide +kernel
theorem dX3_again_32 : decode cX3_again 32 = .ok (.iload_n 1, 1) := by decide +kernel
theorem dX3_again_33 : decode cX3_again 33 = .ok (.ifCond .ge 27, 3) := by decide +kernel
theorem dX3_again_36 : decode cX3_again 36 = .ok (.aload_n 0, 1) := by decide +kernel
theorem dX3_again_37 : decode cX3_again 37 = .ok (.invokevirtual 127, 3) := by decide +kernel
theorem dX3_again_40 : decode cX3_again 40 = .ok (.aload_n 0, 1) := by decide +kernel
theorem dX3_again_41 : decode cX3_again 41 = .ok (.invokevirtual 155, 3) := by decide +kernel
theorem dX3_again_44 : decode cX3_again 44 = .ok (.ifCond .eq 7, 3) := by decide +kernel
theorem dX3_again_47 : decode cX3_again 47 = .ok (.iload_n 2, 1) := by decide +kernel
theorem dX3_again_48 : decode cX3_again 48 = .ok (.goto 5, 3) := by decide +kernel
theorem dX3_again_51 : decode cX3_again 51 = .ok (.bipush (-9), 2) := by decide +kernel
theorem dX3_again_53 : decode cX3_again 53 = .ok (.istore_n 1, 1) := by decide +kernel
theorem dX3_again_54 : decode cX3_again 54 = .ok (.iinc 2 1, 3) := by decide +kernel
theorem dX3_again_57 : decode cX3_again 57 = .ok (.goto (-31), 3) := by decide +kernel
theorem dX3_again_60 : decode cX3_again 60 = .ok (.aload_n 0, 1) := by decide +kernel
theorem dX3_again_61 : decode cX3_again 61 = .ok (.invokevirtual 139, 3) := by decide +kernel
theorem dX3_again_64 : decode cX3_again 64 = .ok (.iload_n 1, 1) := by decide +kernel
theorem dX3_again_65 : decode cX3_again 65 = .ok (.ireturn, 1) := by decide +kernel
theorem dX3_wayOf_0 : decode cX3_wayOf 0 = .ok (.iload_n 1, 1) := by decide +kernel
theorem dX3_wayOf_1 : decode cX3_wayOf 1 = .ok (.istore_n 3, 1) := by decide +kernel
theorem dX3_wayOf_2 : decode cX3_wayOf 2 = .ok (.iconst 0, 1) := by decide +kernel
theorem dX3_wayOf_3 : decode cX3_wayOf 3 = .ok (.istore 4, 2) := by decide +kernel
theorem dX3_wayOf_5 : decode cX3_wayOf 5 = .ok (.iload 4, 2) := by decide +kernel
theorem dX3_wayOf_7 : decode cX3_wayOf 7 = .ok (.bipush 6, 2) := by decide +kernel
theorem dX3_wayOf_9 : decode cX3_wayOf 9 = .ok (.if_icmp .gt 24, 3) := by decide +kernel
theorem dX3_wayOf_12 : decode cX3_wayOf 12 = .ok (.iload_n 3, 1) := by decide +kernel
theorem dX3_wayOf_13 : decode cX3_wayOf 13 = .ok (.iload_n 2, 1) := by decide +kernel
theorem dX3_wayOf_14 : decode cX3_wayOf 14 = .ok (.if_icmp .ne 6, 3) := by decide +kernel
theorem dX3_wayOf_17 : decode cX3_wayOf 17 = .ok (.iload 4, 2) := by decide +kernel
theorem dX3_wayOf_19 : decode cX3_wayOf 19 = .ok (.ireturn, 1) := by decide +kernel
theorem dX3_wayOf_20 : decode cX3_wayOf 20 = .ok (.aload_n 0, 1) := by decide +kernel
theorem dX3_wayOf_21 : decode cX3_wayOf 21 = .ok (.iload_n 3, 1) := by decide +kernel
theorem dX3_wayOf_22 : decode cX3_wayOf 22 = .ok (.iconst 5, 1) := by decide +kernel
theorem dX3_wayOf_23 : decode cX3_wayOf 23 = .ok (.invokevirtual 109, 3) := by decide +kernel
theorem dX3_wayOf_26 : decode cX3_wayOf 26 = .ok (.istore_n 3, 1) := by decide +kernel
theorem dX3_wayOf_27 : decode cX3_wayOf 27 = .ok (.iinc 4 1, 3) := by decide +kernel
theorem dX3_wayOf_30 : decode cX3_wayOf 30 = .ok (.goto (-25), 3) := by decide +kernel
theorem dX3_wayOf_33 : decode cX3_wayOf 33 = .ok (.bipush (-9), 2) := by decide +kernel
theorem dX3_wayOf_35 : decode cX3_wayOf 35 = .ok (.ireturn, 1) := by decide +kernel
theorem dX3_isOnRing_0 : decode cX3_isOnRing 0 = .ok (.aload_n 0, 1) := by decide +kernel
theorem dX3_isOnRing_1 : decode cX3_isOnRing 1 = .ok (.aload_n 0, 1) := by decide +kernel
theorem dX3_isOnRing_2 : decode cX3_isOnRing 2 = .ok (.iload_n 1, 1) := by decide +kernel
theorem dX3_isOnRing_3 : decode cX3_isOnRing 3 = .ok (.iconst 5, 1) := by decide +kernel
theorem dX3_isOnRing_4 : decode cX3_isOnRing 4 = .ok (.invokevirtual 109, 3) := by decide +kernel
theorem dX3_isOnRing_7 : decode cX3_isOnRing 7 = .ok (.iload_n 1, 1) := by decide +kernel
theorem dX3_isOnRing_8 : decode cX3_isOnRing 8 = .ok (.invokevirtual 158, 3) := by decide +kernel
theorem dX3_isOnRing_11 : decode cX3_isOnRing 11 = .ok (.ifCond .lt 7, 3) := by decide +kernel
theorem dX3_isOnRing_14 : decode cX3_isOnRing 14 = .ok (.iconst 1, 1) := by decide +kernel
theorem dX3_isOnRing_15 : decode cX3_isOnRing 15 = .ok (.goto 4, 3) := by decide +kernel
theorem dX3_isOnRing_18 : decode cX3_isOnRing 18 = .ok (.iconst 0, 1) := by decide +kernel
theorem dX3_isOnRing_19 : decode cX3_isOnRing 19 = .ok (.ireturn, 1) := by decide +kernel
theorem dX3_way_0 : decode cX3_way 0 = .ok (.aload_n 0, 1) := by decide +kernel
theorem dX3_way_1 : decode cX3_way 1 = .ok (.iload_n 1, 1) := by decide +kernel
theorem dX3_way_2 : decode cX3_way 2 = .ok (.invokevirtual 142, 3) := by decide +kernel
theorem dX3_way_5 : decode cX3_way 5 = .ok (.ifCond .eq 20, 3) := by decide +kernel
theorem dX3_way_8 : decode cX3_way 8 = .ok (.aload_n 0, 1) := by decide +kernel
theorem dX3_way_9 : decode cX3_way 9 = .ok (.iload_n 2, 1) := by decide +kernel
theorem dX3_way_10 : decode cX3_way 10 = .ok (.invokevirtual 142, 3) := by decide +kernel
theorem dX3_way_13 : decode cX3_way 13 = .ok (.ifCond .eq 12, 3) := by decide +kernel
theorem dX3_way_16 : decode cX3_way 16 = .ok (.aload_n 0, 1) := by decide +kernel
theorem dX3_way_17 : decode cX3_way 17 = .ok (.iload_n 1, 1) := by decide +kernel
theorem dX3_way_18 : decode cX3_way 18 = .ok (.iload_n 2, 1) := by decide +kernel
theorem dX3_way_19 : decode cX3_way 19 = .ok (.invokevirtual 158, 3) := by decide +kernel
theorem dX3_way_22 : decode cX3_way 22 = .ok (.goto 8, 3) := by decide +kernel
theorem dX3_way_25 : decode cX3_way 25 = .ok (.aload_n 0, 1) := by decide +kernel
theorem dX3_way_26 : decode cX3_way 26 = .ok (.iconst (-1), 1) := by decide +kernel
theorem dX3_way_27 : decode cX3_way 27 = .ok (.invokevirtual 71, 3) := by decide +kernel
theorem dX3_way_30 : decode cX3_way 30 = .ok (.ireturn, 1) := by decide +kernel
theorem dX3_ring_0 : decode cX3_ring 0 = .ok (.iconst 0, 1) := by decide +kernel
theorem dX3_ring_1 : decode cX3_ring 1 = .ok (.istore_n 1, 1) := by decide +kernel
theorem dX3_ring_2 : decode cX3_ring 2 = .ok (.iconst 0, 1) := by decide +kernel
theorem dX3_ring_3 : decode cX3_ring 3 = .ok (.istore_n 2, 1) := by decide +kernel
theorem dX3_ring_4 : decode cX3_ring 4 = .ok (.iload_n 2, 1) := by decide +kernel
theorem dX3_ring_5 : decode cX3_ring 5 = .ok (.aload_n 0, 1) := by decide +kernel
theorem dX3_ring_6 : decode cX3_ring 6 = .ok (.getfield 13, 3) := by decide +kernel
theorem dX3_ring_9 : decode cX3_ring 9 = .ok (.iconst 0, 1) := by decide +kernel
theorem dX3_ring_10 : decode cX3_ring 10 = .ok (.iaload, 1) := by decide +kernel
theorem dX3_ring_11 : decode cX3_ring 11 = .ok (.if_icmp .ge 27, 3) := by decide +kernel
theorem dX3_ring_14 : decode cX3_ring 14 = .ok (.iload_n 1, 1) := by decide +kernel
theorem dX3_ring_15 : decode cX3_ring 15 = .ok (.aload_n 0, 1) := by decide +kernel
theorem dX3_ring_16 : decode cX3_ring 16 = .ok (.iload_n 2, 1) := by decide +kernel
theorem dX3_ring_17 : decode cX3_ring 17 = .ok (.invokevirtual 161, 3) := by decide +kernel
theorem dX3_ring_20 : decode cX3_ring 20 = .ok (.ifCond .eq 9, 3) := by decide +kernel
theorem dX3_ring_23 : decode cX3_ring 23 = .ok (.iconst 1, 1) := by decide +kernel
theorem dX3_ring_24 : decode cX3_ring 24 = .ok (.iload_n 2, 1) := by decide +kernel
theorem dX3_ring_25 : decode cX3_ring 25 = .ok (.ishl, 1) := by decide +kernel
theorem dX3_ring_26 : decode cX3_ring 26 = .ok (.goto 4, 3) := by decide +kernel
theorem dX3_ring_29 : decode cX3_ring 29 = .ok (.iconst 0, 1) := by decide +kernel
theorem dX3_ring_30 : decode cX3_ring 30 = .ok (.ior, 1) := by decide +kernel
theorem dX3_ring_31 : decode cX3_ring 31 = .ok (.istore_n 1, 1) := by decide +kernel
theorem dX3_ring_32 : decode cX3_ring 32 = .ok (.iinc 2 1, 3) := by decide +kernel
theorem dX3_ring_35 : decode cX3_ring 35 = .ok (.goto (-31), 3) := by decide +kernel
theorem dX3_ring_38 : decode cX3_ring 38 = .ok (.iload_n 1, 1) := by decide +kernel
theorem dX3_ring_39 : decode cX3_ring 39 = .ok (.ireturn, 1) := by decide +kernel
theorem dX3_tail_0 : decode cX3_tail 0 = .ok (.aload_n 0, 1) := by decide +kernel
theorem dX3_tail_1 : decode cX3_tail 1 = .ok (.iload_n 1, 1) := by decide +kernel
theorem dX3_tail_2 : decode cX3_tail 2 = .ok (.invokevirtual 142, 3) := by decide +kernel
theorem dX3_tail_5 : decode cX3_tail 5 = .ok (.ifCond .ne 9, 3) := by decide +kernel
theorem dX3_tail_8 : decode cX3_tail 8 = .ok (.aload_n 0, 1) := by decide +kernel
theorem dX3_tail_9 : decode cX3_tail 9 = .ok (.iconst (-1), 1) := by decide +kernel
theorem dX3_tail_10 : decode cX3_tail 10 = .ok (.invokevirtual 71, 3) := by decide +kernel
theorem dX3_tail_13 : decode cX3_tail 13 = .ok (.ireturn, 1) := by decide +kernel
theorem dX3_tail_14 : decode cX3_tail 14 = .ok (.iload_n 1, 1) := by decide +kernel
theorem dX3_tail_15 : decode cX3_tail 15 = .ok (.istore_n 2, 1) := by decide +kernel
theorem dX3_tail_16 : decode cX3_tail 16 = .ok (.iconst 0, 1) := by decide +kernel
theorem dX3_tail_17 : decode cX3_tail 17 = .ok (.istore_n 3, 1) := by decide +kernel
theorem dX3_tail_18 : decode cX3_tail 18 = .ok (.aload_n 0, 1) := by decide +kernel
theorem dX3_tail_19 : decode cX3_tail 19 = .ok (.iload_n 2, 1) := by decide +kernel
theorem dX3_tail_20 : decode cX3_tail 20 = .ok (.invokevirtual 161, 3) := by decide +kernel
theorem dX3_tail_23 : decode cX3_tail 23 = .ok (.ifCond .ne 16, 3) := by decide +kernel
theorem dX3_tail_26 : decode cX3_tail 26 = .ok (.aload_n 0, 1) := by decide +kernel
theorem dX3_tail_27 : decode cX3_tail 27 = .ok (.iload_n 2, 1) := by decide +kernel
theorem dX3_tail_28 : decode cX3_tail 28 = .ok (.iconst 5, 1) := by decide +kernel
theorem dX3_tail_29 : decode cX3_tail 29 = .ok (.invokevirtual 109, 3) := by decide +kernel
theorem dX3_tail_32 : decode cX3_tail 32 = .ok (.istore_n 2, 1) := by decide +kernel
theorem dX3_tail_33 : decode cX3_tail 33 = .ok (.iinc 3 1, 3) := by decide +kernel
theorem dX3_tail_36 : decode cX3_tail 36 = .ok (.goto (-18), 3) := by decide +kernel
theorem dX3_tail_39 : decode cX3_tail 39 = .ok (.iload_n 3, 1) := by decide +kernel
theorem dX3_tail_40 : decode cX3_tail 40 = .ok (.ireturn, 1) := by decide +kernel
theorem dX3_rings_0 : decode cX3_rings 0 = .ok (.iconst 0, 1) := by decide +kernel
theorem dX3_rings_1 : decode cX3_rings 1 = .ok (.istore_n 1, 1) := by decide +kernel
theorem dX3_rings_2 : decode cX3_rings 2 = .ok (.iconst 0, 1) := by decide +kernel
theorem dX3_rings_3 : decode cX3_rings 3 = .ok (.istore_n 2, 1) := by decide +kernel
theorem dX3_rings_4 : decode cX3_rings 4 = .ok (.iload_n 2, 1) := by decide +kernel
theorem dX3_rings_5 : decode cX3_rings 5 = .ok (.aload_n 0, 1) := by decide +kernel
theorem dX3_rings_6 : decode cX3_rings 6 = .ok (.getfield 13, 3) := by decide +kernel
theorem dX3_rings_9 : decode cX3_rings 9 = .ok (.iconst 0, 1) := by decide +kernel
theorem dX3_rings_10 : decode cX3_rings 10 = .ok (.iaload, 1) := by decide +kernel
theorem dX3_rings_11 : decode cX3_rings 11 = .ok (.if_icmp .ge 71, 3) := by decide +kernel
theorem dX3_rings_14 : decode cX3_rings 14 = .ok (.aload_n 0, 1) := by decide +kernel
theorem dX3_rings_15 : decode cX3_rings 15 = .ok (.iload_n 2, 1) := by decide +kernel
theorem dX3_rings_16 : decode cX3_rings 16 = .ok (.invokevirtual 161, 3) := by decide +kernel
theorem dX3_rings_19 : decode cX3_rings 19 = .ok (.istore_n 3, 1) := by decide +kernel
theorem dX3_rings_20 : decode cX3_rings 20 = .ok (.iconst 0, 1) := by decide +kernel
theorem dX3_rings_21 : decode cX3_rings 21 = .ok (.istore 4, 2) := by decide +kernel
theorem dX3_rings_23 : decode cX3_rings 23 = .ok (.iload 4, 2) := by decide +kernel
theorem dX3_rings_25 : decode cX3_rings 25 = .ok (.iload_n 2, 1) := by decide +kernel
theorem dX3_rings_26 : decode cX3_rings 26 = .ok (.if_icmp .ge 38, 3) := by decide +kernel
theorem dX3_rings_29 : decode cX3_rings 29 = .ok (.iload_n 3, 1) := by decide +kernel
theorem dX3_rings_30 : decode cX3_rings 30 = .ok (.ifCond .eq 26, 3) := by decide +kernel
theorem dX3_rings_33 : decode cX3_rings 33 = .ok (.aload_n 0, 1) := by decide +kernel
theorem dX3_rings_34 : decode cX3_rings 34 = .ok (.iload 4, 2) := by decide +kernel
theorem dX3_rings_36 : decode cX3_rings 36 = .ok (.invokevirtual 161, 3) := by decide +kernel
theorem dX3_rings_39 : decode cX3_rings 39 = .ok (.ifCond .eq 13, 3) := by decide +kernel
theorem dX3_rings_42 : decode cX3_rings 42 = .ok (.aload_n 0, 1) := by decide +kernel
theorem dX3_rings_43 : decode cX3_rings 43 = .ok (.iload 4, 2) := by decide +kernel
theorem dX3_rings_45 : decode cX3_rings 45 = .ok (.iload_n 2, 1) := by decide +kernel
theorem dX3_rings_46 : decode cX3_rings 46 = .ok (.invokevirtual 158, 3) := by decide +kernel
theorem dX3_rings_49 : decode cX3_rings 49 = .ok (.ifCond .ge 7, 3) := by decide +kernel
theorem dX3_rings_52 : decode cX3_rings 52 = .ok (.iconst 1, 1) := by decide +kernel
theorem dX3_rings_53 : decode cX3_rings 53 = .ok (.goto 4, 3) := by decide +kernel
theorem dX3_rings_56 : decode cX3_rings 56 = .ok (.iconst 0, 1) := by decide +kernel
theorem dX3_rings_57 : decode cX3_rings 57 = .ok (.istore_n 3, 1) := by decide +kernel
theorem dX3_rings_58 : decode cX3_rings 58 = .ok (.iinc 4 1, 3) := by decide +kernel
theorem dX3_rings_61 : decode cX3_rings 61 = .ok (.goto (-38), 3) := by decide +kernel
theorem dX3_rings_64 : decode cX3_rings 64 = .ok (.iload_n 1, 1) := by decide +kernel
theorem dX3_rings_65 : decode cX3_rings 65 = .ok (.iload_n 3, 1) := by decide +kernel
theorem dX3_rings_66 : decode cX3_rings 66 = .ok (.ifCond .eq 7, 3) := by decide +kernel
theorem dX3_rings_69 : decode cX3_rings 69 = .ok (.iconst 1, 1) := by decide +kernel
theorem dX3_rings_70 : decode cX3_rings 70 = .ok (.goto 4, 3) := by decide +kernel
theorem dX3_rings_73 : decode cX3_rings 73 = .ok (.iconst 0, 1) := by decide +kernel
theorem dX3_rings_74 : decode cX3_rings 74 = .ok (.iadd, 1) := by decide +kernel
theorem dX3_rings_75 : decode cX3_rings 75 = .ok (.istore_n 1, 1) := by decide +kernel
theorem dX3_rings_76 : decode cX3_rings 76 = .ok (.iinc 2 1, 3) := by decide +kernel
theorem dX3_rings_79 : decode cX3_rings 79 = .ok (.goto (-75), 3) := by decide +kernel
theorem dX3_rings_82 : decode cX3_rings 82 = .ok (.iload_n 1, 1) := by decide +kernel
theorem dX3_rings_83 : decode cX3_rings 83 = .ok (.ireturn, 1) := by decide +kernel
theorem dX3_never_0 : decode cX3_never 0 = .ok (.iconst 0, 1) := by decide +kernel
theorem dX3_never_1 : decode cX3_never 1 = .ok (.istore_n 1, 1) := by decide +kernel
theorem dX3_never_2 : decode cX3_never 2 = .ok (.iconst 0, 1) := by decide +kernel
theorem dX3_never_3 : decode cX3_never 3 = .ok (.istore_n 2, 1) := by decide +kernel
theorem dX3_never_4 : decode cX3_never 4 = .ok (.iload_n 2, 1) := by decide +kernel
theorem dX3_never_5 : decode cX3_never 5 = .ok (.aload_n 0, 1) := by decide +kernel
theorem dX3_never_6 : decode cX3_never 6 = .ok (.getfield 13, 3) := by decide +kernel
theorem dX3_never_9 : decode cX3_never 9 = .ok (.iconst 0, 1) := by decide +kernel
theorem dX3_never_10 : decode cX3_never 10 = .ok (.iaload, 1) := by decide +kernel
theorem dX3_never_11 : decode cX3_never 11 = .ok (.if_icmp .ge 27, 3) := by decide +kernel
theorem dX3_never_14 : decode cX3_never 14 = .ok (.iload_n 1, 1) := by decide +kernel
theorem dX3_never_15 : decode cX3_never 15 = .ok (.aload_n 0, 1) := by decide +kernel
theorem dX3_never_16 : decode cX3_never 16 = .ok (.iload_n 2, 1) := by decide +kernel
theorem dX3_never_17 : decode cX3_never 17 = .ok (.invokevirtual 145, 3) := by decide +kernel
theorem dX3_never_20 : decode cX3_never 20 = .ok (.ifCond .ne 9, 3) := by decide +kernel
theorem dX3_never_23 : decode cX3_never 23 = .ok (.iconst 1, 1) := by decide +kernel
theorem dX3_never_24 : decode cX3_never 24 = .ok (.iload_n 2, 1) := by decide +kernel
theorem dX3_never_25 : decode cX3_never 25 = .ok (.ishl, 1) := by decide +kernel
theorem dX3_never_26 : decode cX3_never 26 = .ok (.goto 4, 3) := by decide +kernel
theorem dX3_never_29 : decode cX3_never 29 = .ok (.iconst 0, 1) := by decide +kernel
theorem dX3_never_30 : decode cX3_never 30 = .ok (.ior, 1) := by decide +kernel
theorem dX3_never_31 : decode cX3_never 31 = .ok (.istore_n 1, 1) := by decide +kernel
theorem dX3_never_32 : decode cX3_never 32 = .ok (.iinc 2 1, 3) := by decide +kernel
theorem dX3_never_35 : decode cX3_never 35 = .ok (.goto (-31), 3) := by decide +kernel
theorem dX3_never_38 : decode cX3_never 38 = .ok (.iload_n 1, 1) := by decide +kernel
theorem dX3_never_39 : decode cX3_never 39 = .ok (.ireturn, 1) := by decide +kernel
theorem dX3_felt_0 : decode cX3_felt 0 = .ok (.aload_n 0, 1) := by decide +kernel
theorem dX3_felt_1 : decode cX3_felt 1 = .ok (.iload_n 1, 1) := by decide +kernel
theorem dX3_felt_2 : decode cX3_felt 2 = .ok (.invokevirtual 142, 3) := by decide +kernel
theorem dX3_felt_5 : decode cX3_felt 5 = .ok (.ifCond .eq 11, 3) := by decide +kernel
theorem dX3_felt_8 : decode cX3_felt 8 = .ok (.aload_n 0, 1) := by decide +kernel
theorem dX3_felt_9 : decode cX3_felt 9 = .ok (.iload_n 2, 1) := by decide +kernel
theorem dX3_felt_10 : decode cX3_felt 10 = .ok (.invokevirtual 142, 3) := by decide +kernel
theorem dX3_felt_13 : decode cX3_felt 13 = .ok (.ifCond .ne 9, 3) := by decide +kernel
theorem dX3_felt_16 : decode cX3_felt 16 = .ok (.aload_n 0, 1) := by decide +kernel
theorem dX3_felt_17 : decode cX3_felt 17 = .ok (.iconst (-1), 1) := by decide +kernel
theorem dX3_felt_18 : decode cX3_felt 18 = .ok (.invokevirtual 71, 3) := by decide +kernel
theorem dX3_felt_21 : decode cX3_felt 21 = .ok (.ireturn, 1) := by decide +kernel
theorem dX3_felt_22 : decode cX3_felt 22 = .ok (.aload_n 0, 1) := by decide +kernel
theorem dX3_felt_23 : decode cX3_felt 23 = .ok (.invokevirtual 152, 3) := by decide +kernel
theorem dX3_felt_26 : decode cX3_felt 26 = .ok (.iconst 1, 1) := by decide +kernel
theorem dX3_felt_27 : decode cX3_felt 27 = .ok (.istore_n 3, 1) := by decide +kernel
theorem dX3_felt_28 : decode cX3_felt 28 = .ok (.iload_n 3, 1) := by decide +kernel
theorem dX3_felt_29 : decode cX3_felt 29 = .ok (.bipush 40, 2) := by decide +kernel
theorem dX3_felt_31 : decode cX3_felt 31 = .ok (.if_icmp .gt 25, 3) := by decide +kernel
theorem dX3_felt_34 : decode cX3_felt 34 = .ok (.aload_n 0, 1) := by decide +kernel
theorem dX3_felt_35 : decode cX3_felt 35 = .ok (.invokevirtual 127, 3) := by decide +kernel
theorem dX3_felt_38 : decode cX3_felt 38 = .ok (.aload_n 0, 1) := by decide +kernel
theorem dX3_felt_39 : decode cX3_felt 39 = .ok (.getfield 44, 3) := by decide +kernel
theorem dX3_felt_42 : decode cX3_felt 42 = .ok (.iload_n 3, 1) := by decide +kernel
theorem dX3_felt_43 : decode cX3_felt 43 = .ok (.aload_n 0, 1) := by decide +kernel
theorem dX3_felt_44 : decode cX3_felt 44 = .ok (.iload_n 2, 1) := by decide +kernel
theorem dX3_felt_45 : decode cX3_felt 45 = .ok (.iconst 1, 1) := by decide +kernel
theorem dX3_felt_46 : decode cX3_felt 46 = .ok (.invokevirtual 109, 3) := by decide +kernel
theorem dX3_felt_49 : decode cX3_felt 49 = .ok (.iastore, 1) := by decide +kernel
theorem dX3_felt_50 : decode cX3_felt 50 = .ok (.iinc 3 1, 3) := by decide +kernel
theorem dX3_felt_53 : decode cX3_felt 53 = .ok (.goto (-25), 3) := by decide +kernel
theorem dX3_felt_56 : decode cX3_felt 56 = .ok (.aload_n 0, 1) := by decide +kernel
theorem dX3_felt_57 : decode cX3_felt 57 = .ok (.invokevirtual 139, 3) := by decide +kernel
theorem dX3_felt_60 : decode cX3_felt 60 = .ok (.aload_n 0, 1) := by decide +kernel
theorem dX3_felt_61 : decode cX3_felt 61 = .ok (.iload_n 1, 1) := by decide +kernel
theorem dX3_felt_62 : decode cX3_felt 62 = .ok (.putfield 25, 3) := by decide +kernel
theorem dX3_felt_65 : decode cX3_felt 65 = .ok (.bipush (-9), 2) := by decide +kernel
theorem dX3_felt_67 : decode cX3_felt 67 = .ok (.istore_n 3, 1) := by decide +kernel
theorem dX3_felt_68 : decode cX3_felt 68 = .ok (.iconst 1, 1) := by decide +kernel
theorem dX3_felt_69 : decode cX3_felt 69 = .ok (.istore 4, 2) := by decide +kernel
theorem dX3_felt_71 : decode cX3_felt 71 = .ok (.iload 4, 2) := by decide +kernel
theorem dX3_felt_73 : decode cX3_felt 73 = .ok (.bipush 40, 2) := by decide +kernel
theorem dX3_felt_75 : decode cX3_felt 75 = .ok (.if_icmp .gt 41, 3) := by decide +kernel
theorem dX3_felt_78 : decode cX3_felt 78 = .ok (.iload_n 3, 1) := by decide +kernel
theorem dX3_felt_79 : decode cX3_felt 79 = .ok (.ifCond .ge 37, 3) := by decide +kernel
theorem dX3_felt_82 : decode cX3_felt 82 = .ok (.aload_n 0, 1) := by decide +kernel
theorem dX3_felt_83 : decode cX3_felt 83 = .ok (.invokevirtual 127, 3) := by decide +kernel
theorem dX3_felt_86 : decode cX3_felt 86 = .ok (.aload_n 0, 1) := by decide +kernel
theorem dX3_felt_87 : decode cX3_felt 87 = .ok (.iload_n 2, 1) := by decide +kernel
theorem dX3_felt_88 : decode cX3_felt 88 = .ok (.iconst 1, 1) := by decide +kernel
theorem dX3_felt_89 : decode cX3_felt 89 = .ok (.invokevirtual 109, 3) := by decide +kernel
theorem dX3_felt_92 : decode cX3_felt 92 = .ok (.aload_n 0, 1) := by decide +kernel
theorem dX3_felt_93 : decode cX3_felt 93 = .ok (.getfield 44, 3) := by decide +kernel
theorem dX3_felt_96 : decode cX3_felt 96 = .ok (.iload 4, 2) := by decide +kernel
theorem dX3_felt_98 : decode cX3_felt 98 = .ok (.iaload, 1) := by decide +kernel
theorem dX3_felt_99 : decode cX3_felt 99 = .ok (.if_icmp .eq 8, 3) := by decide +kernel
theorem dX3_felt_102 : decode cX3_felt 102 = .ok (.iload 4, 2) := by decide +kernel
theorem dX3_felt_104 : decode cX3_felt 104 = .ok (.goto 5, 3) := by decide +kernel
theorem dX3_felt_107 : decode cX3_felt 107 = .ok (.bipush (-9), 2) := by decide +kernel
theorem dX3_felt_109 : decode cX3_felt 109 = .ok (.istore_n 3, 1) := by decide +kernel
theorem dX3_felt_110 : decode cX3_felt 110 = .ok (.iinc 4 1, 3) := by decide +kernel
theorem dX3_felt_113 : decode cX3_felt 113 = .ok (.goto (-42), 3) := by decide +kernel
theorem dX3_felt_116 : decode cX3_felt 116 = .ok (.aload_n 0, 1) := by decide +kernel
theorem dX3_felt_117 : decode cX3_felt 117 = .ok (.bipush (-9), 2) := by decide +kernel
theorem dX3_felt_119 : decode cX3_felt 119 = .ok (.putfield 25, 3) := by decide +kernel
theorem dX3_felt_122 : decode cX3_felt 122 = .ok (.aload_n 0, 1) := by decide +kernel
theorem dX3_felt_123 : decode cX3_felt 123 = .ok (.invokevirtual 139, 3) := by decide +kernel
theorem dX3_felt_126 : decode cX3_felt 126 = .ok (.iload_n 3, 1) := by decide +kernel
theorem dX3_felt_127 : decode cX3_felt 127 = .ok (.ireturn, 1) := by decide +kernel
theorem dX3_worth_0 : decode cX3_worth 0 = .ok (.aload_n 0, 1) := by decide +kernel
theorem dX3_worth_1 : decode cX3_worth 1 = .ok (.iload_n 1, 1) := by decide +kernel
theorem dX3_worth_2 : decode cX3_worth 2 = .ok (.invokevirtual 142, 3) := by decide +kernel
theorem dX3_worth_5 : decode cX3_worth 5 = .ok (.ifCond .eq 13, 3) := by decide +kernel
theorem dX3_worth_8 : decode cX3_worth 8 = .ok (.iload_n 2, 1) := by decide +kernel
theorem dX3_worth_9 : decode cX3_worth 9 = .ok (.iconst 0, 1) := by decide +kernel
theorem dX3_worth_10 : decode cX3_worth 10 = .ok (.bipush 60, 2) := by decide +kernel
theorem dX3_worth_12 : decode cX3_worth 12 = .ok (.invokestatic 64, 3) := by decide +kernel
theorem dX3_worth_15 : decode cX3_worth 15 = .ok (.goto 4, 3) := by decide +kernel
theorem dX3_worth_18 : decode cX3_worth 18 = .ok (.iconst (-1), 1) := by decide +kernel
theorem dX3_worth_19 : decode cX3_worth 19 = .ok (.istore_n 3, 1) := by decide +kernel
theorem dX3_worth_20 : decode cX3_worth 20 = .ok (.iload_n 3, 1) := by decide +kernel
theorem dX3_worth_21 : decode cX3_worth 21 = .ok (.ifCond .eq 12, 3) := by decide +kernel
theorem dX3_worth_24 : decode cX3_worth 24 = .ok (.ldc 164, 2) := by decide +kernel
theorem dX3_worth_26 : decode cX3_worth 26 = .ok (.aload_n 0, 1) := by decide +kernel
theorem dX3_worth_27 : decode cX3_worth 27 = .ok (.iload_n 3, 1) := by decide +kernel
theorem dX3_worth_28 : decode cX3_worth 28 = .ok (.invokevirtual 71, 3) := by decide +kernel
theorem dX3_worth_31 : decode cX3_worth 31 = .ok (.isub, 1) := by decide +kernel
theorem dX3_worth_32 : decode cX3_worth 32 = .ok (.ireturn, 1) := by decide +kernel
theorem dX3_worth_33 : decode cX3_worth 33 = .ok (.aload_n 0, 1) := by decide +kernel
theorem dX3_worth_34 : decode cX3_worth 34 = .ok (.invokevirtual 152, 3) := by decide +kernel
theorem dX3_worth_37 : decode cX3_worth 37 = .ok (.aload_n 0, 1) := by decide +kernel
theorem dX3_worth_38 : decode cX3_worth 38 = .ok (.iload_n 2, 1) := by decide +kernel
theorem dX3_worth_39 : decode cX3_worth 39 = .ok (.invokevirtual 165, 3) := by decide +kernel
theorem dX3_worth_42 : decode cX3_worth 42 = .ok (.istore 4, 2) := by decide +kernel
theorem dX3_worth_44 : decode cX3_worth 44 = .ok (.aload_n 0, 1) := by decide +kernel
theorem dX3_worth_45 : decode cX3_worth 45 = .ok (.iload_n 1, 1) := by decide +kernel
theorem dX3_worth_46 : decode cX3_worth 46 = .ok (.putfield 25, 3) := by decide +kernel
theorem dX3_worth_49 : decode cX3_worth 49 = .ok (.aload_n 0, 1) := by decide +kernel
theorem dX3_worth_50 : decode cX3_worth 50 = .ok (.iload_n 2, 1) := by decide +kernel
theorem dX3_worth_51 : decode cX3_worth 51 = .ok (.invokevirtual 165, 3) := by decide +kernel
theorem dX3_worth_54 : decode cX3_worth 54 = .ok (.istore 5, 2) := by decide +kernel
theorem dX3_worth_56 : decode cX3_worth 56 = .ok (.aload_n 0, 1) := by decide +kernel
theorem dX3_worth_57 : decode cX3_worth 57 = .ok (.bipush (-9), 2) := by decide +kernel
theorem dX3_worth_59 : decode cX3_worth 59 = .ok (.putfield 25, 3) := by decide +kernel
theorem dX3_worth_62 : decode cX3_worth 62 = .ok (.iload 5, 2) := by decide +kernel
theorem dX3_worth_64 : decode cX3_worth 64 = .ok (.iload 4, 2) := by decide +kernel
theorem dX3_worth_66 : decode cX3_worth 66 = .ok (.isub, 1) := by decide +kernel
theorem dX3_worth_67 : decode cX3_worth 67 = .ok (.ireturn, 1) := by decide +kernel
theorem dX3_maps_0 : decode cX3_maps 0 = .ok (.iload_n 1, 1) := by decide +kernel
theorem dX3_maps_1 : decode cX3_maps 1 = .ok (.aload_n 0, 1) := by decide +kernel
theorem dX3_maps_2 : decode cX3_maps 2 = .ok (.getfield 13, 3) := by decide +kernel
theorem dX3_maps_5 : decode cX3_maps 5 = .ok (.iconst 0, 1) := by decide +kernel
theorem dX3_maps_6 : decode cX3_maps 6 = .ok (.iaload, 1) := by decide +kernel
theorem dX3_maps_7 : decode cX3_maps 7 = .ok (.if_icmp .ne 92, 3) := by decide +kernel
theorem dX3_maps_10 : decode cX3_maps 10 = .ok (.iconst 0, 1) := by decide +kernel
theorem dX3_maps_11 : decode cX3_maps 11 = .ok (.istore 4, 2) := by decide +kernel
theorem dX3_maps_13 : decode cX3_maps 13 = .ok (.iload 4, 2) := by decide +kernel
theorem dX3_maps_15 : decode cX3_maps 15 = .ok (.iload_n 1, 1) := by decide +kernel
theorem dX3_maps_16 : decode cX3_maps 16 = .ok (.if_icmp .ge 23, 3) := by decide +kernel
theorem dX3_maps_19 : decode cX3_maps 19 = .ok (.aload_n 0, 1) := by decide +kernel
theorem dX3_maps_20 : decode cX3_maps 20 = .ok (.iload 4, 2) := by decide +kernel
theorem dX3_maps_22 : decode cX3_maps 22 = .ok (.iconst 5, 1) := by decide +kernel
theorem dX3_maps_23 : decode cX3_maps 23 = .ok (.aload_n 0, 1) := by decide +kernel
theorem dX3_maps_24 : decode cX3_maps 24 = .ok (.getfield 47, 3) := by decide +kernel
theorem dX3_maps_27 : decode cX3_maps 27 = .ok (.iload 4, 2) := by decide +kernel
theorem dX3_maps_29 : decode cX3_maps 29 = .ok (.iaload, 1) := by decide +kernel
theorem dX3_maps_30 : decode cX3_maps 30 = .ok (.invokevirtual 116, 3) := by decide +kernel
theorem dX3_maps_33 : decode cX3_maps 33 = .ok (.iinc 4 1, 3) := by decide +kernel
theorem dX3_maps_36 : decode cX3_maps 36 = .ok (.goto (-23), 3) := by decide +kernel
theorem dX3_maps_39 : decode cX3_maps 39 = .ok (.aload_n 0, 1) := by decide +kernel
theorem dX3_maps_40 : decode cX3_maps 40 = .ok (.iload_n 3, 1) := by decide +kernel
theorem dX3_maps_41 : decode cX3_maps 41 = .ok (.invokevirtual 165, 3) := by decide +kernel
theorem dX3_maps_44 : decode cX3_maps 44 = .ok (.istore 4, 2) := by decide +kernel
theorem dX3_maps_46 : decode cX3_maps 46 = .ok (.aload_n 0, 1) := by decide +kernel
theorem dX3_maps_47 : decode cX3_maps 47 = .ok (.getfield 168, 3) := by decide +kernel
theorem dX3_maps_50 : decode cX3_maps 50 = .ok (.ifCond .lt 13, 3) := by decide +kernel
theorem dX3_maps_53 : decode cX3_maps 53 = .ok (.iload 4, 2) := by decide +kernel
theorem dX3_maps_55 : decode cX3_maps 55 = .ok (.aload_n 0, 1) := by decide +kernel
theorem dX3_maps_56 : decode cX3_maps 56 = .ok (.getfield 168, 3) := by decide +kernel
theorem dX3_maps_59 : decode cX3_maps 59 = .ok (.if_icmp .lt 4, 3) := by decide +kernel
theorem dX3_maps_62 : decode cX3_maps 62 = .ok (.return_, 1) := by decide +kernel
theorem dX3_maps_63 : decode cX3_maps 63 = .ok (.aload_n 0, 1) := by decide +kernel
theorem dX3_maps_64 : decode cX3_maps 64 = .ok (.iload 4, 2) := by decide +kernel
theorem dX3_maps_66 : decode cX3_maps 66 = .ok (.putfield 168, 3) := by decide +kernel
theorem dX3_maps_69 : decode cX3_maps 69 = .ok (.iconst 0, 1) := by decide +kernel
theorem dX3_maps_70 : decode cX3_maps 70 = .ok (.istore 5, 2) := by decide +kernel
theorem dX3_maps_72 : decode cX3_maps 72 = .ok (.iload 5, 2) := by decide +kernel
theorem dX3_maps_74 : decode cX3_maps 74 = .ok (.iload_n 1, 1) := by decide +kernel
theorem dX3_maps_75 : decode cX3_maps 75 = .ok (.if_icmp .ge 23, 3) := by decide +kernel
theorem dX3_maps_78 : decode cX3_maps 78 = .ok (.aload_n 0, 1) := by decide +kernel
theorem dX3_maps_79 : decode cX3_maps 79 = .ok (.getfield 50, 3) := by decide +kernel
theorem dX3_maps_82 : decode cX3_maps 82 = .ok (.iload 5, 2) := by decide +kernel
theorem dX3_maps_84 : decode cX3_maps 84 = .ok (.aload_n 0, 1) := by decide +kernel
theorem dX3_maps_85 : decode cX3_maps 85 = .ok (.getfield 47, 3) := by decide +kernel
theorem dX3_maps_88 : decode cX3_maps 88 = .ok (.iload 5, 2) := by decide +kernel
theorem dX3_maps_90 : decode cX3_maps 90 = .ok (.iaload, 1) := by decide +kernel
theorem dX3_maps_91 : decode cX3_maps 91 = .ok (.iastore, 1) := by decide +kernel
theorem dX3_maps_92 : decode cX3_maps 92 = .ok (.iinc 5 1, 3) := by decide +kernel
theorem dX3_maps_95 : decode cX3_maps 95 = .ok (.goto (-23), 3) := by decide +kernel
theorem dX3_maps_98 : decode cX3_maps 98 = .ok (.return_, 1) := by decide +kernel
theorem dX3_maps_99 : decode cX3_maps 99 = .ok (.iconst 0, 1) := by decide +kernel
theorem dX3_maps_100 : decode cX3_maps 100 = .ok (.istore 4, 2) := by decide +kernel
theorem dX3_maps_102 : decode cX3_maps 102 = .ok (.iload 4, 2) := by decide +kernel
theorem dX3_maps_104 : decode cX3_maps 104 = .ok (.aload_n 0, 1) := by decide +kernel
theorem dX3_maps_105 : decode cX3_maps 105 = .ok (.getfield 13, 3) := by decide +kernel
theorem dX3_maps_108 : decode cX3_maps 108 = .ok (.iconst 0, 1) := by decide +kernel
theorem dX3_maps_109 : decode cX3_maps 109 = .ok (.iaload, 1) := by decide +kernel
theorem dX3_maps_110 : decode cX3_maps 110 = .ok (.if_icmp .ge 44, 3) := by decide +kernel
theorem dX3_maps_113 : decode cX3_maps 113 = .ok (.iload_n 2, 1) := by decide +kernel
theorem dX3_maps_114 : decode cX3_maps 114 = .ok (.iload 4, 2) := by decide +kernel
theorem dX3_maps_116 : decode cX3_maps 116 = .ok (.ishr, 1) := by decide +kernel
theorem dX3_maps_117 : decode cX3_maps 117 = .ok (.iconst 1, 1) := by decide +kernel
theorem dX3_maps_118 : decode cX3_maps 118 = .ok (.iand, 1) := by decide +kernel
theorem dX3_maps_119 : decode cX3_maps 119 = .ok (.iconst 1, 1) := by decide +kernel
theorem dX3_maps_120 : decode cX3_maps 120 = .ok (.if_icmp .ne 6, 3) := by decide +kernel
theorem dX3_maps_123 : decode cX3_maps 123 = .ok (.goto 25, 3) := by decide +kernel
theorem dX3_maps_126 : decode cX3_maps 126 = .ok (.aload_n 0, 1) := by decide +kernel
theorem dX3_maps_127 : decode cX3_maps 127 = .ok (.getfield 47, 3) := by decide +kernel
theorem dX3_maps_130 : decode cX3_maps 130 = .ok (.iload_n 1, 1) := by decide +kernel
theorem dX3_maps_131 : decode cX3_maps 131 = .ok (.iload 4, 2) := by decide +kernel
theorem dX3_maps_133 : decode cX3_maps 133 = .ok (.iastore, 1) := by decide +kernel
theorem dX3_maps_134 : decode cX3_maps 134 = .ok (.aload_n 0, 1) := by decide +kernel
theorem dX3_maps_135 : decode cX3_maps 135 = .ok (.iload_n 1, 1) := by decide +kernel
theorem dX3_maps_136 : decode cX3_maps 136 = .ok (.iconst 1, 1) := by decide +kernel
theorem dX3_maps_137 : decode cX3_maps 137 = .ok (.iadd, 1) := by decide +kernel
theorem dX3_maps_138 : decode cX3_maps 138 = .ok (.iload_n 2, 1) := by decide +kernel
theorem dX3_maps_139 : decode cX3_maps 139 = .ok (.iconst 1, 1) := by decide +kernel
theorem dX3_maps_140 : decode cX3_maps 140 = .ok (.iload 4, 2) := by decide +kernel
theorem dX3_maps_142 : decode cX3_maps 142 = .ok (.ishl, 1) := by decide +kernel
theorem dX3_maps_143 : decode cX3_maps 143 = .ok (.ior, 1) := by decide +kernel
theorem dX3_maps_144 : decode cX3_maps 144 = .ok (.iload_n 3, 1) := by decide +kernel
theorem dX3_maps_145 : decode cX3_maps 145 = .ok (.invokevirtual 171, 3) := by decide +kernel
theorem dX3_maps_148 : decode cX3_maps 148 = .ok (.iinc 4 1, 3) := by decide +kernel
theorem dX3_maps_151 : decode cX3_maps 151 = .ok (.goto (-49), 3) := by decide +kernel
theorem dX3_maps_154 : decode cX3_maps 154 = .ok (.return_, 1) := by decide +kernel
theorem dX3_bestMap_0 : decode cX3_bestMap 0 = .ok (.iload_n 2, 1) := by decide +kernel
theorem dX3_bestMap_1 : decode cX3_bestMap 1 = .ok (.iconst (-1), 1) := by decide +kernel
theorem dX3_bestMap_2 : decode cX3_bestMap 2 = .ok (.if_icmp .eq 11, 3) := by decide +kernel
theorem dX3_bestMap_5 : decode cX3_bestMap 5 = .ok (.aload_n 0, 1) := by decide +kernel
theorem dX3_bestMap_6 : decode cX3_bestMap 6 = .ok (.iload_n 2, 1) := by decide +kernel
theorem dX3_bestMap_7 : decode cX3_bestMap 7 = .ok (.invokevirtual 142, 3) := by decide +kernel
theorem dX3_bestMap_10 : decode cX3_bestMap 10 = .ok (.ifCond .eq 13, 3) := by decide +kernel
theorem dX3_bestMap_13 : decode cX3_bestMap 13 = .ok (.iload_n 1, 1) := by decide +kernel
theorem dX3_bestMap_14 : decode cX3_bestMap 14 = .ok (.iconst 1, 1) := by decide +kernel
theorem dX3_bestMap_15 : decode cX3_bestMap 15 = .ok (.bipush 30, 2) := by decide +kernel
theorem dX3_bestMap_17 : decode cX3_bestMap 17 = .ok (.invokestatic 64, 3) := by decide +kernel
theorem dX3_bestMap_20 : decode cX3_bestMap 20 = .ok (.goto 4, 3) := by decide +kernel
theorem dX3_bestMap_23 : decode cX3_bestMap 23 = .ok (.iconst (-1), 1) := by decide +kernel
theorem dX3_bestMap_24 : decode cX3_bestMap 24 = .ok (.istore_n 3, 1) := by decide +kernel
theorem dX3_bestMap_25 : decode cX3_bestMap 25 = .ok (.iload_n 3, 1) := by decide +kernel
theorem dX3_bestMap_26 : decode cX3_bestMap 26 = .ok (.ifCond .eq 9, 3) := by decide +kernel
theorem dX3_bestMap_29 : decode cX3_bestMap 29 = .ok (.aload_n 0, 1) := by decide +kernel
theorem dX3_bestMap_30 : decode cX3_bestMap 30 = .ok (.iload_n 3, 1) := by decide +kernel
theorem dX3_bestMap_31 : decode cX3_bestMap 31 = .ok (.invokevirtual 71, 3) := by decide +kernel
theorem dX3_bestMap_34 : decode cX3_bestMap 34 = .ok (.ireturn, 1) := by decide +kernel
theorem dX3_bestMap_35 : decode cX3_bestMap 35 = .ok (.aload_n 0, 1) := by decide +kernel
theorem dX3_bestMap_36 : decode cX3_bestMap 36 = .ok (.bipush (-9), 2) := by decide +kernel
theorem dX3_bestMap_38 : decode cX3_bestMap 38 = .ok (.putfield 168, 3) := by decide +kernel
theorem dX3_bestMap_41 : decode cX3_bestMap 41 = .ok (.aload_n 0, 1) := by decide +kernel
theorem dX3_bestMap_42 : decode cX3_bestMap 42 = .ok (.invokevirtual 152, 3) := by decide +kernel
theorem dX3_bestMap_45 : decode cX3_bestMap 45 = .ok (.aload_n 0, 1) := by decide +kernel
theorem dX3_bestMap_46 : decode cX3_bestMap 46 = .ok (.iconst 0, 1) := by decide +kernel
theorem dX3_bestMap_47 : decode cX3_bestMap 47 = .ok (.iconst 0, 1) := by decide +kernel
theorem dX3_bestMap_48 : decode cX3_bestMap 48 = .ok (.iload_n 1, 1) := by decide +kernel
theorem dX3_bestMap_49 : decode cX3_bestMap 49 = .ok (.invokevirtual 171, 3) := by decide +kernel
theorem dX3_bestMap_52 : decode cX3_bestMap 52 = .ok (.iload_n 2, 1) := by decide +kernel
theorem dX3_bestMap_53 : decode cX3_bestMap 53 = .ok (.ifCond .ge 10, 3) := by decide +kernel
theorem dX3_bestMap_56 : decode cX3_bestMap 56 = .ok (.aload_n 0, 1) := by decide +kernel
theorem dX3_bestMap_57 : decode cX3_bestMap 57 = .ok (.getfield 168, 3) := by decide +kernel
theorem dX3_bestMap_60 : decode cX3_bestMap 60 = .ok (.goto 9, 3) := by decide +kernel
theorem dX3_bestMap_63 : decode cX3_bestMap 63 = .ok (.aload_n 0, 1) := by decide +kernel
theorem dX3_bestMap_64 : decode cX3_bestMap 64 = .ok (.getfield 50, 3) := by decide +kernel
theorem dX3_bestMap_67 : decode cX3_bestMap 67 = .ok (.iload_n 2, 1) := by decide +kernel
theorem dX3_bestMap_68 : decode cX3_bestMap 68 = .ok (.iaload, 1) := by decide +kernel
theorem dX3_bestMap_69 : decode cX3_bestMap 69 = .ok (.ireturn, 1) := by decide +kernel
theorem dX3_change_0 : decode cX3_change 0 = .ok (.iload_n 1, 1) := by decide +kernel
theorem dX3_change_1 : decode cX3_change 1 = .ok (.iconst 1, 1) := by decide +kernel
theorem dX3_change_2 : decode cX3_change 2 = .ok (.bipush 30, 2) := by decide +kernel
theorem dX3_change_4 : decode cX3_change 4 = .ok (.invokestatic 64, 3) := by decide +kernel
theorem dX3_change_7 : decode cX3_change 7 = .ok (.istore_n 2, 1) := by decide +kernel
theorem dX3_change_8 : decode cX3_change 8 = .ok (.iload_n 2, 1) := by decide +kernel
theorem dX3_change_9 : decode cX3_change 9 = .ok (.ifCond .eq 9, 3) := by decide +kernel
theorem dX3_change_12 : decode cX3_change 12 = .ok (.aload_n 0, 1) := by decide +kernel
theorem dX3_change_13 : decode cX3_change 13 = .ok (.iload_n 2, 1) := by decide +kernel
theorem dX3_change_14 : decode cX3_change 14 = .ok (.invokevirtual 71, 3) := by decide +kernel
theorem dX3_change_17 : decode cX3_change 17 = .ok (.ireturn, 1) := by decide +kernel
theorem dX3_change_18 : decode cX3_change 18 = .ok (.aload_n 0, 1) := by decide +kernel
theorem dX3_change_19 : decode cX3_change 19 = .ok (.invokevirtual 152, 3) := by decide +kernel
theorem dX3_change_22 : decode cX3_change 22 = .ok (.aload_n 0, 1) := by decide +kernel
theorem dX3_change_23 : decode cX3_change 23 = .ok (.iload_n 1, 1) := by decide +kernel
theorem dX3_change_24 : decode cX3_change 24 = .ok (.invokevirtual 165, 3) := by decide +kernel
theorem dX3_change_27 : decode cX3_change 27 = .ok (.istore_n 3, 1) := by decide +kernel
theorem dX3_change_28 : decode cX3_change 28 = .ok (.bipush (-9), 2) := by decide +kernel
theorem dX3_change_30 : decode cX3_change 30 = .ok (.istore 4, 2) := by decide +kernel
theorem dX3_change_32 : decode cX3_change 32 = .ok (.iconst 0, 1) := by decide +kernel
theorem dX3_change_33 : decode cX3_change 33 = .ok (.istore 5, 2) := by decide +kernel
theorem dX3_change_35 : decode cX3_change 35 = .ok (.iload 5, 2) := by decide +kernel
theorem dX3_change_37 : decode cX3_change 37 = .ok (.aload_n 0, 1) := by decide +kernel
theorem dX3_change_38 : decode cX3_change 38 = .ok (.getfield 13, 3) := by decide +kernel
theorem dX3_change_41 : decode cX3_change 41 = .ok (.iconst 0, 1) := by decide +kernel
theorem dX3_change_42 : decode cX3_change 42 = .ok (.iaload, 1) := by decide +kernel
theorem dX3_change_43 : decode cX3_change 43 = .ok (.if_icmp .ge 67, 3) := by decide +kernel
theorem dX3_change_46 : decode cX3_change 46 = .ok (.iconst 0, 1) := by decide +kernel
theorem dX3_change_47 : decode cX3_change 47 = .ok (.istore 6, 2) := by decide +kernel
theorem dX3_change_49 : decode cX3_change 49 = .ok (.iload 6, 2) := by decide +kernel
theorem dX3_change_51 : decode cX3_change 51 = .ok (.aload_n 0, 1) := by decide +kernel
theorem dX3_change_52 : decode cX3_change 52 = .ok (.getfield 13, 3) := by decide +kernel
theorem dX3_change_55 : decode cX3_change 55 = .ok (.iconst 0, 1) := by decide +kernel
theorem dX3_change_56 : decode cX3_change 56 = .ok (.iaload, 1) := by decide +kernel
theorem dX3_change_57 : decode cX3_change 57 = .ok (.if_icmp .ge 47, 3) := by decide +kernel
theorem dX3_change_60 : decode cX3_change 60 = .ok (.aload_n 0, 1) := by decide +kernel
theorem dX3_change_61 : decode cX3_change 61 = .ok (.iload 5, 2) := by decide +kernel
theorem dX3_change_63 : decode cX3_change 63 = .ok (.iconst 5, 1) := by decide +kernel
theorem dX3_change_64 : decode cX3_change 64 = .ok (.iload 6, 2) := by decide +kernel
theorem dX3_change_66 : decode cX3_change 66 = .ok (.invokevirtual 116, 3) := by decide +kernel
theorem dX3_change_69 : decode cX3_change 69 = .ok (.aload_n 0, 1) := by decide +kernel
theorem dX3_change_70 : decode cX3_change 70 = .ok (.iload_n 1, 1) := by decide +kernel
theorem dX3_change_71 : decode cX3_change 71 = .ok (.invokevirtual 165, 3) := by decide +kernel
theorem dX3_change_74 : decode cX3_change 74 = .ok (.istore 7, 2) := by decide +kernel
theorem dX3_change_76 : decode cX3_change 76 = .ok (.iload 7, 2) := by decide +kernel
theorem dX3_change_78 : decode cX3_change 78 = .ok (.iload_n 3, 1) := by decide +kernel
theorem dX3_change_79 : decode cX3_change 79 = .ok (.if_icmp .lt 6, 3) := by decide +kernel
theorem dX3_change_82 : decode cX3_change 82 = .ok (.goto 16, 3) := by decide +kernel
theorem dX3_change_85 : decode cX3_change 85 = .ok (.iload 7, 2) := by decide +kernel
theorem dX3_change_87 : decode cX3_change 87 = .ok (.istore_n 3, 1) := by decide +kernel
theorem dX3_change_88 : decode cX3_change 88 = .ok (.bipush 10, 2) := by decide +kernel
theorem dX3_change_90 : decode cX3_change 90 = .ok (.iload 5, 2) := by decide +kernel
theorem dX3_change_92 : decode cX3_change 92 = .ok (.imul, 1) := by decide +kernel
theorem dX3_change_93 : decode cX3_change 93 = .ok (.iload 6, 2) := by decide +kernel
theorem dX3_change_95 : decode cX3_change 95 = .ok (.iadd, 1) := by decide +kernel
theorem dX3_change_96 : decode cX3_change 96 = .ok (.istore 4, 2) := by decide +kernel
theorem dX3_change_98 : decode cX3_change 98 = .ok (.iinc 6 1, 3) := by decide +kernel
theorem dX3_change_101 : decode cX3_change 101 = .ok (.goto (-52), 3) := by decide +kernel
theorem dX3_change_104 : decode cX3_change 104 = .ok (.iinc 5 1, 3) := by decide +kernel
theorem dX3_change_107 : decode cX3_change 107 = .ok (.goto (-72), 3) := by decide +kernel
theorem dX3_change_110 : decode cX3_change 110 = .ok (.iload 4, 2) := by decide +kernel
theorem dX3_change_112 : decode cX3_change 112 = .ok (.ireturn, 1) := by decide +kernel
theorem dX3_cure_0 : decode cX3_cure 0 = .ok (.aload_n 0, 1) := by decide +kernel
theorem dX3_cure_1 : decode cX3_cure 1 = .ok (.iload_n 1, 1) := by decide +kernel
theorem dX3_cure_2 : decode cX3_cure 2 = .ok (.invokevirtual 142, 3) := by decide +kernel
theorem dX3_cure_5 : decode cX3_cure 5 = .ok (.ifCond .eq 13, 3) := by decide +kernel
theorem dX3_cure_8 : decode cX3_cure 8 = .ok (.iload_n 2, 1) := by decide +kernel
theorem dX3_cure_9 : decode cX3_cure 9 = .ok (.iconst 1, 1) := by decide +kernel
theorem dX3_cure_10 : decode cX3_cure 10 = .ok (.bipush 30, 2) := by decide +kernel
theorem dX3_cure_12 : decode cX3_cure 12 = .ok (.invokestatic 64, 3) := by decide +kernel
theorem dX3_cure_15 : decode cX3_cure 15 = .ok (.goto 4, 3) := by decide +kernel
theorem dX3_cure_18 : decode cX3_cure 18 = .ok (.iconst (-1), 1) := by decide +kernel
theorem dX3_cure_19 : decode cX3_cure 19 = .ok (.istore_n 3, 1) := by decide +kernel
theorem dX3_cure_20 : decode cX3_cure 20 = .ok (.iload_n 3, 1) := by decide +kernel
theorem dX3_cure_21 : decode cX3_cure 21 = .ok (.ifCond .eq 9, 3) := by decide +kernel
theorem dX3_cure_24 : decode cX3_cure 24 = .ok (.aload_n 0, 1) := by decide +kernel
theorem dX3_cure_25 : decode cX3_cure 25 = .ok (.iload_n 3, 1) := by decide +kernel
theorem dX3_cure_26 : decode cX3_cure 26 = .ok (.invokevirtual 71, 3) := by decide +kernel
theorem dX3_cure_29 : decode cX3_cure 29 = .ok (.ireturn, 1) := by decide +kernel
theorem dX3_cure_30 : decode cX3_cure 30 = .ok (.aload_n 0, 1) := by decide +kernel
theorem dX3_cure_31 : decode cX3_cure 31 = .ok (.invokevirtual 152, 3) := by decide +kernel
theorem dX3_cure_34 : decode cX3_cure 34 = .ok (.bipush (-9), 2) := by decide +kernel
theorem dX3_cure_36 : decode cX3_cure 36 = .ok (.istore 4, 2) := by decide +kernel
theorem dX3_cure_38 : decode cX3_cure 38 = .ok (.iconst 0, 1) := by decide +kernel
theorem dX3_cure_39 : decode cX3_cure 39 = .ok (.istore 5, 2) := by decide +kernel
theorem dX3_cure_41 : decode cX3_cure 41 = .ok (.iconst 0, 1) := by decide +kernel
theorem dX3_cure_42 : decode cX3_cure 42 = .ok (.istore 6, 2) := by decide +kernel
theorem dX3_cure_44 : decode cX3_cure 44 = .ok (.iload 6, 2) := by decide +kernel
theorem dX3_cure_46 : decode cX3_cure 46 = .ok (.bipush 6, 2) := by decide +kernel
theorem dX3_cure_48 : decode cX3_cure 48 = .ok (.if_icmp .ge 47, 3) := by decide +kernel
theorem dX3_cure_51 : decode cX3_cure 51 = .ok (.aload_n 0, 1) := by decide +kernel
theorem dX3_cure_52 : decode cX3_cure 52 = .ok (.iload_n 1, 1) := by decide +kernel
theorem dX3_cure_53 : decode cX3_cure 53 = .ok (.iconst 0, 1) := by decide +kernel
theorem dX3_cure_54 : decode cX3_cure 54 = .ok (.iload 6, 2) := by decide +kernel
theorem dX3_cure_56 : decode cX3_cure 56 = .ok (.invokevirtual 116, 3) := by decide +kernel
theorem dX3_cure_59 : decode cX3_cure 59 = .ok (.aload_n 0, 1) := by decide +kernel
theorem dX3_cure_60 : decode cX3_cure 60 = .ok (.iload_n 2, 1) := by decide +kernel
theorem dX3_cure_61 : decode cX3_cure 61 = .ok (.invokevirtual 165, 3) := by decide +kernel
theorem dX3_cure_64 : decode cX3_cure 64 = .ok (.istore 7, 2) := by decide +kernel
theorem dX3_cure_66 : decode cX3_cure 66 = .ok (.iload 4, 2) := by decide +kernel
theorem dX3_cure_68 : decode cX3_cure 68 = .ok (.ifCond .lt 13, 3) := by decide +kernel
theorem dX3_cure_71 : decode cX3_cure 71 = .ok (.iload 7, 2) := by decide +kernel
theorem dX3_cure_73 : decode cX3_cure 73 = .ok (.iload 5, 2) := by decide +kernel
theorem dX3_cure_75 : decode cX3_cure 75 = .ok (.if_icmp .lt 6, 3) := by decide +kernel
theorem dX3_cure_78 : decode cX3_cure 78 = .ok (.goto 11, 3) := by decide +kernel
theorem dX3_cure_81 : decode cX3_cure 81 = .ok (.iload 6, 2) := by decide +kernel
theorem dX3_cure_83 : decode cX3_cure 83 = .ok (.istore 4, 2) := by decide +kernel
theorem dX3_cure_85 : decode cX3_cure 85 = .ok (.iload 7, 2) := by decide +kernel
theorem dX3_cure_87 : decode cX3_cure 87 = .ok (.istore 5, 2) := by decide +kernel
theorem dX3_cure_89 : decode cX3_cure 89 = .ok (.iinc 6 1, 3) := by decide +kernel
theorem dX3_cure_92 : decode cX3_cure 92 = .ok (.goto (-48), 3) := by decide +kernel
theorem dX3_cure_95 : decode cX3_cure 95 = .ok (.iload 4, 2) := by decide +kernel
theorem dX3_cure_97 : decode cX3_cure 97 = .ok (.ireturn, 1) := by decide +kernel
theorem dX3_putIn_0 : decode cX3_putIn 0 = .ok (.aload_n 0, 1) := by decide +kernel
theorem dX3_putIn_1 : decode cX3_putIn 1 = .ok (.iload_n 1, 1) := by decide +kernel
theorem dX3_putIn_2 : decode cX3_putIn 2 = .ok (.invokevirtual 142, 3) := by decide +kernel
theorem dX3_putIn_5 : decode cX3_putIn 5 = .ok (.ifCond .ne 7, 3) := by decide +kernel
theorem dX3_putIn_8 : decode cX3_putIn 8 = .ok (.iconst (-1), 1) := by decide +kernel
theorem dX3_putIn_9 : decode cX3_putIn 9 = .ok (.goto 45, 3) := by decide +kernel
theorem dX3_putIn_12 : decode cX3_putIn 12 = .ok (.iload_n 2, 1) := by decide +kernel
theorem dX3_putIn_13 : decode cX3_putIn 13 = .ok (.ifCond .lt 8, 3) := by decide +kernel
theorem dX3_putIn_16 : decode cX3_putIn 16 = .ok (.iload_n 3, 1) := by decide +kernel
theorem dX3_putIn_17 : decode cX3_putIn 17 = .ok (.iconst 1, 1) := by decide +kernel
theorem dX3_putIn_18 : decode cX3_putIn 18 = .ok (.if_icmp .ge 8, 3) := by decide +kernel
theorem dX3_putIn_21 : decode cX3_putIn 21 = .ok (.bipush (-4), 2) := by decide +kernel
theorem dX3_putIn_23 : decode cX3_putIn 23 = .ok (.goto 31, 3) := by decide +kernel
theorem dX3_putIn_26 : decode cX3_putIn 26 = .ok (.iload_n 2, 1) := by decide +kernel
theorem dX3_putIn_27 : decode cX3_putIn 27 = .ok (.iconst 4, 1) := by decide +kernel
theorem dX3_putIn_28 : decode cX3_putIn 28 = .ok (.if_icmp .gt 20, 3) := by decide +kernel
theorem dX3_putIn_31 : decode cX3_putIn 31 = .ok (.iload_n 3, 1) := by decide +kernel
theorem dX3_putIn_32 : decode cX3_putIn 32 = .ok (.bipush 30, 2) := by decide +kernel
theorem dX3_putIn_34 : decode cX3_putIn 34 = .ok (.if_icmp .gt 14, 3) := by decide +kernel
theorem dX3_putIn_37 : decode cX3_putIn 37 = .ok (.aload_n 0, 1) := by decide +kernel
theorem dX3_putIn_38 : decode cX3_putIn 38 = .ok (.getfield 13, 3) := by decide +kernel
theorem dX3_putIn_41 : decode cX3_putIn 41 = .ok (.iconst 0, 1) := by decide +kernel
theorem dX3_putIn_42 : decode cX3_putIn 42 = .ok (.iaload, 1) := by decide +kernel
theorem dX3_putIn_43 : decode cX3_putIn 43 = .ok (.bipush 6, 2) := by decide +kernel
theorem dX3_putIn_45 : decode cX3_putIn 45 = .ok (.if_icmp .ne 8, 3) := by decide +kernel
theorem dX3_putIn_48 : decode cX3_putIn 48 = .ok (.bipush (-6), 2) := by decide +kernel
theorem dX3_putIn_50 : decode cX3_putIn 50 = .ok (.goto 4, 3) := by decide +kernel
theorem dX3_putIn_53 : decode cX3_putIn 53 = .ok (.iconst 0, 1) := by decide +kernel
theorem dX3_putIn_54 : decode cX3_putIn 54 = .ok (.istore 4, 2) := by decide +kernel
theorem dX3_putIn_56 : decode cX3_putIn 56 = .ok (.iload 4, 2) := by decide +kernel
theorem dX3_putIn_58 : decode cX3_putIn 58 = .ok (.ifCond .eq 10, 3) := by decide +kernel
theorem dX3_putIn_61 : decode cX3_putIn 61 = .ok (.aload_n 0, 1) := by decide +kernel
theorem dX3_putIn_62 : decode cX3_putIn 62 = .ok (.iload 4, 2) := by decide +kernel
theorem dX3_putIn_64 : decode cX3_putIn 64 = .ok (.invokevirtual 71, 3) := by decide +kernel
theorem dX3_putIn_67 : decode cX3_putIn 67 = .ok (.ireturn, 1) := by decide +kernel
theorem dX3_putIn_68 : decode cX3_putIn 68 = .ok (.aload_n 0, 1) := by decide +kernel
theorem dX3_putIn_69 : decode cX3_putIn 69 = .ok (.invokevirtual 152, 3) := by decide +kernel
theorem dX3_putIn_72 : decode cX3_putIn 72 = .ok (.aload_n 0, 1) := by decide +kernel
theorem dX3_putIn_73 : decode cX3_putIn 73 = .ok (.getfield 13, 3) := by decide +kernel
theorem dX3_putIn_76 : decode cX3_putIn 76 = .ok (.iconst 0, 1) := by decide +kernel
theorem dX3_putIn_77 : decode cX3_putIn 77 = .ok (.iaload, 1) := by decide +kernel
theorem dX3_putIn_78 : decode cX3_putIn 78 = .ok (.istore 5, 2) := by decide +kernel
theorem dX3_putIn_80 : decode cX3_putIn 80 = .ok (.iconst 0, 1) := by decide +kernel
theorem dX3_putIn_81 : decode cX3_putIn 81 = .ok (.istore 6, 2) := by decide +kernel
theorem dX3_putIn_83 : decode cX3_putIn 83 = .ok (.iload 6, 2) := by decide +kernel
theorem dX3_putIn_85 : decode cX3_putIn 85 = .ok (.bipush 7, 2) := by decide +kernel
theorem dX3_putIn_87 : decode cX3_putIn 87 = .ok (.if_icmp .ge 18, 3) := by decide +kernel
theorem dX3_putIn_90 : decode cX3_putIn 90 = .ok (.aload_n 0, 1) := by decide +kernel
theorem dX3_putIn_91 : decode cX3_putIn 91 = .ok (.iload 5, 2) := by decide +kernel
theorem dX3_putIn_93 : decode cX3_putIn 93 = .ok (.iload 6, 2) := by decide +kernel
theorem dX3_putIn_95 : decode cX3_putIn 95 = .ok (.iconst 0, 1) := by decide +kernel
theorem dX3_putIn_96 : decode cX3_putIn 96 = .ok (.invokevirtual 116, 3) := by decide +kernel
theorem dX3_putIn_99 : decode cX3_putIn 99 = .ok (.iinc 6 1, 3) := by decide +kernel
theorem dX3_putIn_102 : decode cX3_putIn 102 = .ok (.goto (-19), 3) := by decide +kernel
theorem dX3_putIn_105 : decode cX3_putIn 105 = .ok (.aload_n 0, 1) := by decide +kernel
theorem dX3_putIn_106 : decode cX3_putIn 106 = .ok (.iload 5, 2) := by decide +kernel
theorem dX3_putIn_108 : decode cX3_putIn 108 = .ok (.iconst 3, 1) := by decide +kernel
theorem dX3_putIn_109 : decode cX3_putIn 109 = .ok (.iload_n 2, 1) := by decide +kernel
theorem dX3_putIn_110 : decode cX3_putIn 110 = .ok (.invokevirtual 116, 3) := by decide +kernel
theorem dX3_putIn_113 : decode cX3_putIn 113 = .ok (.aload_n 0, 1) := by decide +kernel
theorem dX3_putIn_114 : decode cX3_putIn 114 = .ok (.iload 5, 2) := by decide +kernel
theorem dX3_putIn_116 : decode cX3_putIn 116 = .ok (.iconst 5, 1) := by decide +kernel
theorem dX3_putIn_117 : decode cX3_putIn 117 = .ok (.aload_n 0, 1) := by decide +kernel
theorem dX3_putIn_118 : decode cX3_putIn 118 = .ok (.iload_n 1, 1) := by decide +kernel
theorem dX3_putIn_119 : decode cX3_putIn 119 = .ok (.iconst 5, 1) := by decide +kernel
theorem dX3_putIn_120 : decode cX3_putIn 120 = .ok (.invokevirtual 109, 3) := by decide +kernel
theorem dX3_putIn_123 : decode cX3_putIn 123 = .ok (.invokevirtual 116, 3) := by decide +kernel
theorem dX3_putIn_126 : decode cX3_putIn 126 = .ok (.aload_n 0, 1) := by decide +kernel
theorem dX3_putIn_127 : decode cX3_putIn 127 = .ok (.iload_n 1, 1) := by decide +kernel
theorem dX3_putIn_128 : decode cX3_putIn 128 = .ok (.iconst 5, 1) := by decide +kernel
theorem dX3_putIn_129 : decode cX3_putIn 129 = .ok (.iload 5, 2) := by decide +kernel
theorem dX3_putIn_131 : decode cX3_putIn 131 = .ok (.invokevirtual 116, 3) := by decide +kernel
theorem dX3_putIn_134 : decode cX3_putIn 134 = .ok (.aload_n 0, 1) := by decide +kernel
theorem dX3_putIn_135 : decode cX3_putIn 135 = .ok (.getfield 13, 3) := by decide +kernel
theorem dX3_putIn_138 : decode cX3_putIn 138 = .ok (.iconst 0, 1) := by decide +kernel
theorem dX3_putIn_139 : decode cX3_putIn 139 = .ok (.dup2, 1) := by decide +kernel
theorem dX3_putIn_140 : decode cX3_putIn 140 = .ok (.iaload, 1) := by decide +kernel
theorem dX3_putIn_141 : decode cX3_putIn 141 = .ok (.iconst 1, 1) := by decide +kernel
theorem dX3_putIn_142 : decode cX3_putIn 142 = .ok (.iadd, 1) := by decide +kernel
theorem dX3_putIn_143 : decode cX3_putIn 143 = .ok (.iastore, 1) := by decide +kernel
theorem dX3_putIn_144 : decode cX3_putIn 144 = .ok (.aload_n 0, 1) := by decide +kernel
theorem dX3_putIn_145 : decode cX3_putIn 145 = .ok (.iload_n 3, 1) := by decide +kernel
theorem dX3_putIn_146 : decode cX3_putIn 146 = .ok (.invokevirtual 133, 3) := by decide +kernel
theorem dX3_putIn_149 : decode cX3_putIn 149 = .ok (.aload_n 0, 1) := by decide +kernel
theorem dX3_putIn_150 : decode cX3_putIn 150 = .ok (.iload 5, 2) := by decide +kernel
theorem dX3_putIn_152 : decode cX3_putIn 152 = .ok (.invokevirtual 130, 3) := by decide +kernel
theorem dX3_putIn_155 : decode cX3_putIn 155 = .ok (.istore 6, 2) := by decide +kernel
theorem dX3_putIn_157 : decode cX3_putIn 157 = .ok (.aload_n 0, 1) := by decide +kernel
theorem dX3_putIn_158 : decode cX3_putIn 158 = .ok (.invokevirtual 139, 3) := by decide +kernel
theorem dX3_putIn_161 : decode cX3_putIn 161 = .ok (.iload 6, 2) := by decide +kernel
theorem dX3_putIn_163 : decode cX3_putIn 163 = .ok (.ireturn, 1) := by decide +kernel
theorem dX3_takeOut_0 : decode cX3_takeOut 0 = .ok (.aload_n 0, 1) := by decide +kernel
theorem dX3_takeOut_1 : decode cX3_takeOut 1 = .ok (.iload_n 1, 1) := by decide +kernel
theorem dX3_takeOut_2 : decode cX3_takeOut 2 = .ok (.invokevirtual 142, 3) := by decide +kernel
theorem dX3_takeOut_5 : decode cX3_takeOut 5 = .ok (.ifCond .eq 13, 3) := by decide +kernel
theorem dX3_takeOut_8 : decode cX3_takeOut 8 = .ok (.iload_n 2, 1) := by decide +kernel
theorem dX3_takeOut_9 : decode cX3_takeOut 9 = .ok (.iconst 1, 1) := by decide +kernel
theorem dX3_takeOut_10 : decode cX3_takeOut 10 = .ok (.bipush 30, 2) := by decide +kernel
theorem dX3_takeOut_12 : decode cX3_takeOut 12 = .ok (.invokestatic 64, 3) := by decide +kernel
theorem dX3_takeOut_15 : decode cX3_takeOut 15 = .ok (.goto 4, 3) := by decide +kernel
theorem dX3_takeOut_18 : decode cX3_takeOut 18 = .ok (.iconst (-1), 1) := by decide +kernel
theorem dX3_takeOut_19 : decode cX3_takeOut 19 = .ok (.istore_n 3, 1) := by decide +kernel
theorem dX3_takeOut_20 : decode cX3_takeOut 20 = .ok (.iload_n 3, 1) := by decide +kernel
theorem dX3_takeOut_21 : decode cX3_takeOut 21 = .ok (.ifCond .eq 9, 3) := by decide +kernel
theorem dX3_takeOut_24 : decode cX3_takeOut 24 = .ok (.aload_n 0, 1) := by decide +kernel
theorem dX3_takeOut_25 : decode cX3_takeOut 25 = .ok (.iload_n 3, 1) := by decide +kernel
theorem dX3_takeOut_26 : decode cX3_takeOut 26 = .ok (.invokevirtual 71, 3) := by decide +kernel
theorem dX3_takeOut_29 : decode cX3_takeOut 29 = .ok (.ireturn, 1) := by decide +kernel
theorem dX3_takeOut_30 : decode cX3_takeOut 30 = .ok (.aload_n 0, 1) := by decide +kernel
theorem dX3_takeOut_31 : decode cX3_takeOut 31 = .ok (.invokevirtual 152, 3) := by decide +kernel
theorem dX3_takeOut_34 : decode cX3_takeOut 34 = .ok (.aload_n 0, 1) := by decide +kernel
theorem dX3_takeOut_35 : decode cX3_takeOut 35 = .ok (.iload_n 1, 1) := by decide +kernel
theorem dX3_takeOut_36 : decode cX3_takeOut 36 = .ok (.iconst 5, 1) := by decide +kernel
theorem dX3_takeOut_37 : decode cX3_takeOut 37 = .ok (.invokevirtual 109, 3) := by decide +kernel
theorem dX3_takeOut_40 : decode cX3_takeOut 40 = .ok (.istore 4, 2) := by decide +kernel
theorem dX3_takeOut_42 : decode cX3_takeOut 42 = .ok (.iconst 0, 1) := by decide +kernel
theorem dX3_takeOut_43 : decode cX3_takeOut 43 = .ok (.istore 5, 2) := by decide +kernel
theorem dX3_takeOut_45 : decode cX3_takeOut 45 = .ok (.iload 5, 2) := by decide +kernel
theorem dX3_takeOut_47 : decode cX3_takeOut 47 = .ok (.aload_n 0, 1) := by decide +kernel
theorem dX3_takeOut_48 : decode cX3_takeOut 48 = .ok (.getfield 13, 3) := by decide +kernel
theorem dX3_takeOut_51 : decode cX3_takeOut 51 = .ok (.iconst 0, 1) := by decide +kernel
theorem dX3_takeOut_52 : decode cX3_takeOut 52 = .ok (.iaload, 1) := by decide +kernel
theorem dX3_takeOut_53 : decode cX3_takeOut 53 = .ok (.if_icmp .ge 35, 3) := by decide +kernel
theorem dX3_takeOut_56 : decode cX3_takeOut 56 = .ok (.iload 5, 2) := by decide +kernel
theorem dX3_takeOut_58 : decode cX3_takeOut 58 = .ok (.iload_n 1, 1) := by decide +kernel
theorem dX3_takeOut_59 : decode cX3_takeOut 59 = .ok (.if_icmp .eq 23, 3) := by decide +kernel
theorem dX3_takeOut_62 : decode cX3_takeOut 62 = .ok (.aload_n 0, 1) := by decide +kernel
theorem dX3_takeOut_63 : decode cX3_takeOut 63 = .ok (.iload 5, 2) := by decide +kernel
theorem dX3_takeOut_65 : decode cX3_takeOut 65 = .ok (.iconst 5, 1) := by decide +kernel
theorem dX3_takeOut_66 : decode cX3_takeOut 66 = .ok (.invokevirtual 109, 3) := by decide +kernel
theorem dX3_takeOut_69 : decode cX3_takeOut 69 = .ok (.iload_n 1, 1) := by decide +kernel
theorem dX3_takeOut_70 : decode cX3_takeOut 70 = .ok (.if_icmp .ne 12, 3) := by decide +kernel
theorem dX3_takeOut_73 : decode cX3_takeOut 73 = .ok (.aload_n 0, 1) := by decide +kernel
theorem dX3_takeOut_74 : decode cX3_takeOut 74 = .ok (.iload 5, 2) := by decide +kernel
theorem dX3_takeOut_76 : decode cX3_takeOut 76 = .ok (.iconst 5, 1) := by decide +kernel
theorem dX3_takeOut_77 : decode cX3_takeOut 77 = .ok (.iload 4, 2) := by decide +kernel
theorem dX3_takeOut_79 : decode cX3_takeOut 79 = .ok (.invokevirtual 116, 3) := by decide +kernel
theorem dX3_takeOut_82 : decode cX3_takeOut 82 = .ok (.iinc 5 1, 3) := by decide +kernel
theorem dX3_takeOut_85 : decode cX3_takeOut 85 = .ok (.goto (-40), 3) := by decide +kernel
theorem dX3_takeOut_88 : decode cX3_takeOut 88 = .ok (.aload_n 0, 1) := by decide +kernel
theorem dX3_takeOut_89 : decode cX3_takeOut 89 = .ok (.iload_n 1, 1) := by decide +kernel
theorem dX3_takeOut_90 : decode cX3_takeOut 90 = .ok (.putfield 29, 3) := by decide +kernel
theorem dX3_takeOut_93 : decode cX3_takeOut 93 = .ok (.aload_n 0, 1) := by decide +kernel
theorem dX3_takeOut_94 : decode cX3_takeOut 94 = .ok (.iload_n 2, 1) := by decide +kernel
theorem dX3_takeOut_95 : decode cX3_takeOut 95 = .ok (.invokevirtual 133, 3) := by decide +kernel
theorem dX3_takeOut_98 : decode cX3_takeOut 98 = .ok (.aload_n 0, 1) := by decide +kernel
theorem dX3_takeOut_99 : decode cX3_takeOut 99 = .ok (.bipush (-9), 2) := by decide +kernel
theorem dX3_takeOut_101 : decode cX3_takeOut 101 = .ok (.putfield 29, 3) := by decide +kernel
theorem dX3_takeOut_104 : decode cX3_takeOut 104 = .ok (.aload_n 0, 1) := by decide +kernel
theorem dX3_takeOut_105 : decode cX3_takeOut 105 = .ok (.invokevirtual 136, 3) := by decide +kernel
theorem dX3_takeOut_108 : decode cX3_takeOut 108 = .ok (.aload_n 0, 1) := by decide +kernel
theorem dX3_takeOut_109 : decode cX3_takeOut 109 = .ok (.iload_n 1, 1) := by decide +kernel
theorem dX3_takeOut_110 : decode cX3_takeOut 110 = .ok (.iconst 1, 1) := by decide +kernel
theorem dX3_takeOut_111 : decode cX3_takeOut 111 = .ok (.invokevirtual 109, 3) := by decide +kernel
theorem dX3_takeOut_114 : decode cX3_takeOut 114 = .ok (.isub, 1) := by decide +kernel
theorem dX3_takeOut_115 : decode cX3_takeOut 115 = .ok (.istore 5, 2) := by decide +kernel
theorem dX3_takeOut_117 : decode cX3_takeOut 117 = .ok (.aload_n 0, 1) := by decide +kernel
theorem dX3_takeOut_118 : decode cX3_takeOut 118 = .ok (.invokevirtual 139, 3) := by decide +kernel
theorem dX3_takeOut_121 : decode cX3_takeOut 121 = .ok (.iload 5, 2) := by decide +kernel
theorem dX3_takeOut_123 : decode cX3_takeOut 123 = .ok (.ireturn, 1) := by decide +kernel
theorem dX3_row_0 : decode cX3_row 0 = .ok (.iload_n 1, 1) := by decide +kernel
theorem dX3_row_1 : decode cX3_row 1 = .ok (.iconst 0, 1) := by decide +kernel
theorem dX3_row_2 : decode cX3_row 2 = .ok (.bipush 9, 2) := by decide +kernel
theorem dX3_row_4 : decode cX3_row 4 = .ok (.invokestatic 64, 3) := by decide +kernel
theorem dX3_row_7 : decode cX3_row 7 = .ok (.istore_n 2, 1) := by decide +kernel
theorem dX3_row_8 : decode cX3_row 8 = .ok (.iload_n 2, 1) := by decide +kernel
theorem dX3_row_9 : decode cX3_row 9 = .ok (.ifCond .ne 15, 3) := by decide +kernel
theorem dX3_row_12 : decode cX3_row 12 = .ok (.aload_n 0, 1) := by decide +kernel
theorem dX3_row_13 : decode cX3_row 13 = .ok (.getfield 174, 3) := by decide +kernel
theorem dX3_row_16 : decode cX3_row 16 = .ok (.bipush 6, 2) := by decide +kernel
theorem dX3_row_18 : decode cX3_row 18 = .ok (.if_icmp .ne 6, 3) := by decide +kernel
theorem dX3_row_21 : decode cX3_row 21 = .ok (.bipush (-6), 2) := by decide +kernel
theorem dX3_row_23 : decode cX3_row 23 = .ok (.istore_n 2, 1) := by decide +kernel
theorem dX3_row_24 : decode cX3_row 24 = .ok (.iload_n 2, 1) := by decide +kernel
theorem dX3_row_25 : decode cX3_row 25 = .ok (.ifCond .eq 9, 3) := by decide +kernel
theorem dX3_row_28 : decode cX3_row 28 = .ok (.aload_n 0, 1) := by decide +kernel
theorem dX3_row_29 : decode cX3_row 29 = .ok (.iload_n 2, 1) := by decide +kernel
theorem dX3_row_30 : decode cX3_row 30 = .ok (.invokevirtual 71, 3) := by decide +kernel
theorem dX3_row_33 : decode cX3_row 33 = .ok (.ireturn, 1) := by decide +kernel
theorem dX3_row_34 : decode cX3_row 34 = .ok (.aload_n 0, 1) := by decide +kernel
theorem dX3_row_35 : decode cX3_row 35 = .ok (.getfield 53, 3) := by decide +kernel
theorem dX3_row_38 : decode cX3_row 38 = .ok (.aload_n 0, 1) := by decide +kernel
theorem dX3_row_39 : decode cX3_row 39 = .ok (.getfield 174, 3) := by decide +kernel
theorem dX3_row_42 : decode cX3_row 42 = .ok (.iload_n 1, 1) := by decide +kernel
theorem dX3_row_43 : decode cX3_row 43 = .ok (.iastore, 1) := by decide +kernel
theorem dX3_row_44 : decode cX3_row 44 = .ok (.aload_n 0, 1) := by decide +kernel
theorem dX3_row_45 : decode cX3_row 45 = .ok (.dup, 1) := by decide +kernel
theorem dX3_row_46 : decode cX3_row 46 = .ok (.getfield 174, 3) := by decide +kernel
theorem dX3_row_49 : decode cX3_row 49 = .ok (.iconst 1, 1) := by decide +kernel
theorem dX3_row_50 : decode cX3_row 50 = .ok (.iadd, 1) := by decide +kernel
theorem dX3_row_51 : decode cX3_row 51 = .ok (.putfield 174, 3) := by decide +kernel
theorem dX3_row_54 : decode cX3_row 54 = .ok (.aload_n 0, 1) := by decide +kernel
theorem dX3_row_55 : decode cX3_row 55 = .ok (.getfield 174, 3) := by decide +kernel
theorem dX3_row_58 : decode cX3_row 58 = .ok (.ireturn, 1) := by decide +kernel
theorem dX3_isAsTold_0 : decode cX3_isAsTold 0 = .ok (.iconst 0, 1) := by decide +kernel
theorem dX3_isAsTold_1 : decode cX3_isAsTold 1 = .ok (.istore_n 1, 1) := by decide +kernel
theorem dX3_isAsTold_2 : decode cX3_isAsTold 2 = .ok (.iload_n 1, 1) := by decide +kernel
theorem dX3_isAsTold_3 : decode cX3_isAsTold 3 = .ok (.aload_n 0, 1) := by decide +kernel
theorem dX3_isAsTold_4 : decode cX3_isAsTold 4 = .ok (.getfield 174, 3) := by decide +kernel
theorem dX3_isAsTold_7 : decode cX3_isAsTold 7 = .ok (.if_icmp .ge 26, 3) := by decide +kernel
theorem dX3_isAsTold_10 : decode cX3_isAsTold 10 = .ok (.aload_n 0, 1) := by decide +kernel
theorem dX3_isAsTold_11 : decode cX3_isAsTold 11 = .ok (.getfield 53, 3) := by decide +kernel
theorem dX3_isAsTold_14 : decode cX3_isAsTold 14 = .ok (.iload_n 1, 1) := by decide +kernel
theorem dX3_isAsTold_15 : decode cX3_isAsTold 15 = .ok (.iaload, 1) := by decide +kernel
theorem dX3_isAsTold_16 : decode cX3_isAsTold 16 = .ok (.aload_n 0, 1) := by decide +kernel
theorem dX3_isAsTold_17 : decode cX3_isAsTold 17 = .ok (.iload_n 1, 1) := by decide +kernel
theorem dX3_isAsTold_18 : decode cX3_isAsTold 18 = .ok (.iconst 1, 1) := by decide +kernel
theorem dX3_isAsTold_19 : decode cX3_isAsTold 19 = .ok (.invokevirtual 109, 3) := by decide +kernel
theorem dX3_isAsTold_22 : decode cX3_isAsTold 22 = .ok (.if_icmp .eq 5, 3) := by decide +kernel
theorem dX3_isAsTold_25 : decode cX3_isAsTold 25 = .ok (.iconst 0, 1) := by decide +kernel
theorem dX3_isAsTold_26 : decode cX3_isAsTold 26 = .ok (.ireturn, 1) := by decide +kernel
theorem dX3_isAsTold_27 : decode cX3_isAsTold 27 = .ok (.iinc 1 1, 3) := by decide +kernel
theorem dX3_isAsTold_30 : decode cX3_isAsTold 30 = .ok (.goto (-28), 3) := by decide +kernel
theorem dX3_isAsTold_33 : decode cX3_isAsTold 33 = .ok (.iconst 1, 1) := by decide +kernel
theorem dX3_isAsTold_34 : decode cX3_isAsTold 34 = .ok (.ireturn, 1) := by decide +kernel
theorem dX3_fitting_0 : decode cX3_fitting 0 = .ok (.aload_n 0, 1) := by decide +kernel
theorem dX3_fitting_1 : decode cX3_fitting 1 = .ok (.iload_n 1, 1) := by decide +kernel
theorem dX3_fitting_2 : decode cX3_fitting 2 = .ok (.invokevirtual 142, 3) := by decide +kernel
theorem dX3_fitting_5 : decode cX3_fitting 5 = .ok (.ifCond .eq 13, 3) := by decide +kernel
theorem dX3_fitting_8 : decode cX3_fitting 8 = .ok (.iload_n 2, 1) := by decide +kernel
theorem dX3_fitting_9 : decode cX3_fitting 9 = .ok (.iconst 1, 1) := by decide +kernel
theorem dX3_fitting_10 : decode cX3_fitting 10 = .ok (.bipush 30, 2) := by decide +kernel
theorem dX3_fitting_12 : decode cX3_fitting 12 = .ok (.invokestatic 64, 3) := by decide +kernel
theorem dX3_fitting_15 : decode cX3_fitting 15 = .ok (.goto 4, 3) := by decide +kernel
theorem dX3_fitting_18 : decode cX3_fitting 18 = .ok (.iconst (-1), 1) := by decide +kernel
theorem dX3_fitting_19 : decode cX3_fitting 19 = .ok (.istore_n 3, 1) := by decide +kernel
theorem dX3_fitting_20 : decode cX3_fitting 20 = .ok (.iload_n 3, 1) := by decide +kernel
theorem dX3_fitting_21 : decode cX3_fitting 21 = .ok (.ifCond .ne 19, 3) := by decide +kernel
theorem dX3_fitting_24 : decode cX3_fitting 24 = .ok (.aload_n 0, 1) := by decide +kernel
theorem dX3_fitting_25 : decode cX3_fitting 25 = .ok (.getfield 174, 3) := by decide +kernel
theorem dX3_fitting_28 : decode cX3_fitting 28 = .ok (.aload_n 0, 1) := by decide +kernel
theorem dX3_fitting_29 : decode cX3_fitting 29 = .ok (.getfield 13, 3) := by decide +kernel
theorem dX3_fitting_32 : decode cX3_fitting 32 = .ok (.iconst 0, 1) := by decide +kernel
theorem dX3_fitting_33 : decode cX3_fitting 33 = .ok (.iaload, 1) := by decide +kernel
theorem dX3_fitting_34 : decode cX3_fitting 34 = .ok (.if_icmp .eq 6, 3) := by decide +kernel
theorem dX3_fitting_37 : decode cX3_fitting 37 = .ok (.bipush (-3), 2) := by decide +kernel
theorem dX3_fitting_39 : decode cX3_fitting 39 = .ok (.istore_n 3, 1) := by decide +kernel
theorem dX3_fitting_40 : decode cX3_fitting 40 = .ok (.iload_n 3, 1) := by decide +kernel
theorem dX3_fitting_41 : decode cX3_fitting 41 = .ok (.ifCond .eq 9, 3) := by decide +kernel
theorem dX3_fitting_44 : decode cX3_fitting 44 = .ok (.aload_n 0, 1) := by decide +kernel
theorem dX3_fitting_45 : decode cX3_fitting 45 = .ok (.iload_n 3, 1) := by decide +kernel
theorem dX3_fitting_46 : decode cX3_fitting 46 = .ok (.invokevirtual 71, 3) := by decide +kernel
theorem dX3_fitting_49 : decode cX3_fitting 49 = .ok (.ireturn, 1) := by decide +kernel
theorem dX3_fitting_50 : decode cX3_fitting 50 = .ok (.aload_n 0, 1) := by decide +kernel
theorem dX3_fitting_51 : decode cX3_fitting 51 = .ok (.invokevirtual 152, 3) := by decide +kernel
theorem dX3_fitting_54 : decode cX3_fitting 54 = .ok (.iconst 0, 1) := by decide +kernel
theorem dX3_fitting_55 : decode cX3_fitting 55 = .ok (.istore 4, 2) := by decide +kernel
theorem dX3_fitting_57 : decode cX3_fitting 57 = .ok (.iconst 0, 1) := by decide +kernel
theorem dX3_fitting_58 : decode cX3_fitting 58 = .ok (.istore 5, 2) := by decide +kernel
theorem dX3_fitting_60 : decode cX3_fitting 60 = .ok (.iload 5, 2) := by decide +kernel
theorem dX3_fitting_62 : decode cX3_fitting 62 = .ok (.bipush 6, 2) := by decide +kernel
theorem dX3_fitting_64 : decode cX3_fitting 64 = .ok (.if_icmp .ge 46, 3) := by decide +kernel
theorem dX3_fitting_67 : decode cX3_fitting 67 = .ok (.aload_n 0, 1) := by decide +kernel
theorem dX3_fitting_68 : decode cX3_fitting 68 = .ok (.iload_n 1, 1) := by decide +kernel
theorem dX3_fitting_69 : decode cX3_fitting 69 = .ok (.iconst 0, 1) := by decide +kernel
theorem dX3_fitting_70 : decode cX3_fitting 70 = .ok (.iload 5, 2) := by decide +kernel
theorem dX3_fitting_72 : decode cX3_fitting 72 = .ok (.invokevirtual 116, 3) := by decide +kernel
theorem dX3_fitting_75 : decode cX3_fitting 75 = .ok (.aload_n 0, 1) := by decide +kernel
theorem dX3_fitting_76 : decode cX3_fitting 76 = .ok (.iload_n 2, 1) := by decide +kernel
theorem dX3_fitting_77 : decode cX3_fitting 77 = .ok (.invokevirtual 133, 3) := by decide +kernel
theorem dX3_fitting_80 : decode cX3_fitting 80 = .ok (.iload 4, 2) := by decide +kernel
theorem dX3_fitting_82 : decode cX3_fitting 82 = .ok (.aload_n 0, 1) := by decide +kernel
theorem dX3_fitting_83 : decode cX3_fitting 83 = .ok (.invokevirtual 177, 3) := by decide +kernel
theorem dX3_fitting_86 : decode cX3_fitting 86 = .ok (.ifCond .eq 10, 3) := by decide +kernel
theorem dX3_fitting_89 : decode cX3_fitting 89 = .ok (.iconst 1, 1) := by decide +kernel
theorem dX3_fitting_90 : decode cX3_fitting 90 = .ok (.iload 5, 2) := by decide +kernel
theorem dX3_fitting_92 : decode cX3_fitting 92 = .ok (.ishl, 1) := by decide +kernel
theorem dX3_fitting_93 : decode cX3_fitting 93 = .ok (.goto 4, 3) := by decide +kernel
theorem dX3_fitting_96 : decode cX3_fitting 96 = .ok (.iconst 0, 1) := by decide +kernel
theorem dX3_fitting_97 : decode cX3_fitting 97 = .ok (.ior, 1) := by decide +kernel
theorem dX3_fitting_98 : decode cX3_fitting 98 = .ok (.istore 4, 2) := by decide +kernel
theorem dX3_fitting_100 : decode cX3_fitting 100 = .ok (.aload_n 0, 1) := by decide +kernel
theorem dX3_fitting_101 : decode cX3_fitting 101 = .ok (.invokevirtual 139, 3) := by decide +kernel
theorem dX3_fitting_104 : decode cX3_fitting 104 = .ok (.iinc 5 1, 3) := by decide +kernel
theorem dX3_fitting_107 : decode cX3_fitting 107 = .ok (.goto (-47), 3) := by decide +kernel
theorem dX3_fitting_110 : decode cX3_fitting 110 = .ok (.iload 4, 2) := by decide +kernel
theorem dX3_fitting_112 : decode cX3_fitting 112 = .ok (.ireturn, 1) := by decide +kernel
theorem dX3_judge_0 : decode cX3_judge 0 = .ok (.aload_n 0, 1) := by decide +kernel
theorem dX3_judge_1 : decode cX3_judge 1 = .ok (.getfield 174, 3) := by decide +kernel
theorem dX3_judge_4 : decode cX3_judge 4 = .ok (.istore_n 1, 1) := by decide +kernel
theorem dX3_judge_5 : decode cX3_judge 5 = .ok (.aload_n 0, 1) := by decide +kernel
theorem dX3_judge_6 : decode cX3_judge 6 = .ok (.iconst 0, 1) := by decide +kernel
theorem dX3_judge_7 : decode cX3_judge 7 = .ok (.putfield 174, 3) := by decide +kernel
theorem dX3_judge_10 : decode cX3_judge 10 = .ok (.iconst 0, 1) := by decide +kernel
theorem dX3_judge_11 : decode cX3_judge 11 = .ok (.istore_n 2, 1) := by decide +kernel
theorem dX3_judge_12 : decode cX3_judge 12 = .ok (.iload_n 2, 1) := by decide +kernel
theorem dX3_judge_13 : decode cX3_judge 13 = .ok (.iload_n 1, 1) := by decide +kernel
theorem dX3_judge_14 : decode cX3_judge 14 = .ok (.if_icmp .ge 36, 3) := by decide +kernel
theorem dX3_judge_17 : decode cX3_judge 17 = .ok (.iload_n 2, 1) := by decide +kernel
theorem dX3_judge_18 : decode cX3_judge 18 = .ok (.aload_n 0, 1) := by decide +kernel
theorem dX3_judge_19 : decode cX3_judge 19 = .ok (.getfield 13, 3) := by decide +kernel
theorem dX3_judge_22 : decode cX3_judge 22 = .ok (.iconst 0, 1) := by decide +kernel
theorem dX3_judge_23 : decode cX3_judge 23 = .ok (.iaload, 1) := by decide +kernel
theorem dX3_judge_24 : decode cX3_judge 24 = .ok (.if_icmp .eq 18, 3) := by decide +kernel
theorem dX3_judge_27 : decode cX3_judge 27 = .ok (.aload_n 0, 1) := by decide +kernel
theorem dX3_judge_28 : decode cX3_judge 28 = .ok (.getfield 53, 3) := by decide +kernel
theorem dX3_judge_31 : decode cX3_judge 31 = .ok (.iload_n 2, 1) := by decide +kernel
theorem dX3_judge_32 : decode cX3_judge 32 = .ok (.iaload, 1) := by decide +kernel
theorem dX3_judge_33 : decode cX3_judge 33 = .ok (.aload_n 0, 1) := by decide +kernel
theorem dX3_judge_34 : decode cX3_judge 34 = .ok (.iload_n 2, 1) := by decide +kernel
theorem dX3_judge_35 : decode cX3_judge 35 = .ok (.iconst 1, 1) := by decide +kernel
theorem dX3_judge_36 : decode cX3_judge 36 = .ok (.invokevirtual 109, 3) := by decide +kernel
theorem dX3_judge_39 : decode cX3_judge 39 = .ok (.if_icmp .eq 5, 3) := by decide +kernel
theorem dX3_judge_42 : decode cX3_judge 42 = .ok (.iload_n 2, 1) := by decide +kernel
theorem dX3_judge_43 : decode cX3_judge 43 = .ok (.ireturn, 1) := by decide +kernel
theorem dX3_judge_44 : decode cX3_judge 44 = .ok (.iinc 2 1, 3) := by decide +kernel
theorem dX3_judge_47 : decode cX3_judge 47 = .ok (.goto (-35), 3) := by decide +kernel
theorem dX3_judge_50 : decode cX3_judge 50 = .ok (.iload_n 1, 1) := by decide +kernel
theorem dX3_judge_51 : decode cX3_judge 51 = .ok (.aload_n 0, 1) := by decide +kernel
theorem dX3_judge_52 : decode cX3_judge 52 = .ok (.getfield 13, 3) := by decide +kernel
theorem dX3_judge_55 : decode cX3_judge 55 = .ok (.iconst 0, 1) := by decide +kernel
theorem dX3_judge_56 : decode cX3_judge 56 = .ok (.iaload, 1) := by decide +kernel
theorem dX3_judge_57 : decode cX3_judge 57 = .ok (.if_icmp .ge 7, 3) := by decide +kernel
theorem dX3_judge_60 : decode cX3_judge 60 = .ok (.iload_n 1, 1) := by decide +kernel
theorem dX3_judge_61 : decode cX3_judge 61 = .ok (.goto 5, 3) := by decide +kernel
theorem dX3_judge_64 : decode cX3_judge 64 = .ok (.bipush (-9), 2) := by decide +kernel
theorem dX3_judge_66 : decode cX3_judge 66 = .ok (.ireturn, 1) := by decide +kernel
theorem dX3_seeds_0 : decode cX3_seeds 0 = .ok (.iload_n 1, 1) := by decide +kernel
theorem dX3_seeds_1 : decode cX3_seeds 1 = .ok (.iconst 1, 1) := by decide +kernel
theorem dX3_seeds_2 : decode cX3_seeds 2 = .ok (.bipush 30, 2) := by decide +kernel
theorem dX3_seeds_4 : decode cX3_seeds 4 = .ok (.invokestatic 64, 3) := by decide +kernel
theorem dX3_seeds_7 : decode cX3_seeds 7 = .ok (.istore_n 3, 1) := by decide +kernel
theorem dX3_seeds_8 : decode cX3_seeds 8 = .ok (.iload_n 3, 1) := by decide +kernel
theorem dX3_seeds_9 : decode cX3_seeds 9 = .ok (.ifCond .eq 9, 3) := by decide +kernel
theorem dX3_seeds_12 : decode cX3_seeds 12 = .ok (.aload_n 0, 1) := by decide +kernel
theorem dX3_seeds_13 : decode cX3_seeds 13 = .ok (.iload_n 3, 1) := by decide +kernel
theorem dX3_seeds_14 : decode cX3_seeds 14 = .ok (.invokevirtual 71, 3) := by decide +kernel
theorem dX3_seeds_17 : decode cX3_seeds 17 = .ok (.ireturn, 1) := by decide +kernel
theorem dX3_seeds_18 : decode cX3_seeds 18 = .ok (.aload_n 0, 1) := by decide +kernel
theorem dX3_seeds_19 : decode cX3_seeds 19 = .ok (.invokevirtual 152, 3) := by decide +kernel
theorem dX3_seeds_22 : decode cX3_seeds 22 = .ok (.iload_n 2, 1) := by decide +kernel
theorem dX3_seeds_23 : decode cX3_seeds 23 = .ok (.istore 4, 2) := by decide +kernel
theorem dX3_seeds_25 : decode cX3_seeds 25 = .ok (.iconst 0, 1) := by decide +kernel
theorem dX3_seeds_26 : decode cX3_seeds 26 = .ok (.istore 5, 2) := by decide +kernel
theorem dX3_seeds_28 : decode cX3_seeds 28 = .ok (.iload 5, 2) := by decide +kernel
theorem dX3_seeds_30 : decode cX3_seeds 30 = .ok (.iload_n 1, 1) := by decide +kernel
theorem dX3_seeds_31 : decode cX3_seeds 31 = .ok (.if_icmp .ge 61, 3) := by decide +kernel
theorem dX3_seeds_34 : decode cX3_seeds 34 = .ok (.iconst 0, 1) := by decide +kernel
theorem dX3_seeds_35 : decode cX3_seeds 35 = .ok (.istore 6, 2) := by decide +kernel
theorem dX3_seeds_37 : decode cX3_seeds 37 = .ok (.iload 6, 2) := by decide +kernel
theorem dX3_seeds_39 : decode cX3_seeds 39 = .ok (.aload_n 0, 1) := by decide +kernel
theorem dX3_seeds_40 : decode cX3_seeds 40 = .ok (.getfield 13, 3) := by decide +kernel
theorem dX3_seeds_43 : decode cX3_seeds 43 = .ok (.iconst 0, 1) := by decide +kernel
theorem dX3_seeds_44 : decode cX3_seeds 44 = .ok (.iaload, 1) := by decide +kernel
theorem dX3_seeds_45 : decode cX3_seeds 45 = .ok (.if_icmp .ge 37, 3) := by decide +kernel
theorem dX3_seeds_48 : decode cX3_seeds 48 = .ok (.iload 4, 2) := by decide +kernel
theorem dX3_seeds_50 : decode cX3_seeds 50 = .ok (.ldc 180, 2) := by decide +kernel
theorem dX3_seeds_52 : decode cX3_seeds 52 = .ok (.imul, 1) := by decide +kernel
theorem dX3_seeds_53 : decode cX3_seeds 53 = .ok (.ldc 181, 2) := by decide +kernel
theorem dX3_seeds_55 : decode cX3_seeds 55 = .ok (.iadd, 1) := by decide +kernel
theorem dX3_seeds_56 : decode cX3_seeds 56 = .ok (.istore 4, 2) := by decide +kernel
theorem dX3_seeds_58 : decode cX3_seeds 58 = .ok (.aload_n 0, 1) := by decide +kernel
theorem dX3_seeds_59 : decode cX3_seeds 59 = .ok (.iload 6, 2) := by decide +kernel
theorem dX3_seeds_61 : decode cX3_seeds 61 = .ok (.iconst 2, 1) := by decide +kernel
theorem dX3_seeds_62 : decode cX3_seeds 62 = .ok (.iload 4, 2) := by decide +kernel
theorem dX3_seeds_64 : decode cX3_seeds 64 = .ok (.ldc 182, 2) := by decide +kernel
theorem dX3_seeds_66 : decode cX3_seeds 66 = .ok (.iand, 1) := by decide +kernel
theorem dX3_seeds_67 : decode cX3_seeds 67 = .ok (.sipush 256, 3) := by decide +kernel
theorem dX3_seeds_70 : decode cX3_seeds 70 = .ok (.idiv, 1) := by decide +kernel
theorem dX3_seeds_71 : decode cX3_seeds 71 = .ok (.iconst 4, 1) := by decide +kernel
theorem dX3_seeds_72 : decode cX3_seeds 72 = .ok (.irem, 1) := by decide +kernel
theorem dX3_seeds_73 : decode cX3_seeds 73 = .ok (.invokevirtual 116, 3) := by decide +kernel
theorem dX3_seeds_76 : decode cX3_seeds 76 = .ok (.iinc 6 1, 3) := by decide +kernel
theorem dX3_seeds_79 : decode cX3_seeds 79 = .ok (.goto (-42), 3) := by decide +kernel
theorem dX3_seeds_82 : decode cX3_seeds 82 = .ok (.aload_n 0, 1) := by decide +kernel
theorem dX3_seeds_83 : decode cX3_seeds 83 = .ok (.invokevirtual 127, 3) := by decide +kernel
theorem dX3_seeds_86 : decode cX3_seeds 86 = .ok (.iinc 5 1, 3) := by decide +kernel
theorem dX3_seeds_89 : decode cX3_seeds 89 = .ok (.goto (-61), 3) := by decide +kernel
theorem dX3_seeds_92 : decode cX3_seeds 92 = .ok (.aload_n 0, 1) := by decide +kernel
theorem dX3_seeds_93 : decode cX3_seeds 93 = .ok (.invokevirtual 136, 3) := by decide +kernel
theorem dX3_seeds_96 : decode cX3_seeds 96 = .ok (.istore 5, 2) := by decide +kernel
theorem dX3_seeds_98 : decode cX3_seeds 98 = .ok (.aload_n 0, 1) := by decide +kernel
theorem dX3_seeds_99 : decode cX3_seeds 99 = .ok (.invokevirtual 139, 3) := by decide +kernel
theorem dX3_seeds_102 : decode cX3_seeds 102 = .ok (.iload 5, 2) := by decide +kernel
theorem dX3_seeds_104 : decode cX3_seeds 104 = .ok (.ireturn, 1) := by decide +kernel
theorem dX3_image_0 : decode cX3_image 0 = .ok (.aload_n 0, 1) := by decide +kernel
theorem dX3_image_1 : decode cX3_image 1 = .ok (.getfield 13, 3) := by decide +kernel
theorem dX3_image_4 : decode cX3_image 4 = .ok (.aload_n 0, 1) := by decide +kernel
theorem dX3_image_5 : decode cX3_image 5 = .ok (.getfield 16, 3) := by decide +kernel
theorem dX3_image_8 : decode cX3_image 8 = .ok (.invokestatic 56, 3) := by decide +kernel
theorem dX3_image_11 : decode cX3_image 11 = .ok (.aload_n 0, 1) := by decide +kernel
theorem dX3_image_12 : decode cX3_image 12 = .ok (.iconst 1, 1) := by decide +kernel
theorem dX3_image_13 : decode cX3_image 13 = .ok (.putfield 183, 3) := by decide +kernel
theorem dX3_image_16 : decode cX3_image 16 = .ok (.aload_n 0, 1) := by decide +kernel
theorem dX3_image_17 : decode cX3_image 17 = .ok (.getfield 13, 3) := by decide +kernel
theorem dX3_image_20 : decode cX3_image 20 = .ok (.iconst 1, 1) := by decide +kernel
theorem dX3_image_21 : decode cX3_image 21 = .ok (.iaload, 1) := by decide +kernel
theorem dX3_image_22 : decode cX3_image 22 = .ok (.ireturn, 1) := by decide +kernel
theorem dX3_on_0 : decode cX3_on 0 = .ok (.aload_n 0, 1) := by decide +kernel
theorem dX3_on_1 : decode cX3_on 1 = .ok (.getfield 183, 3) := by decide +kernel
theorem dX3_on_4 : decode cX3_on 4 = .ok (.ifCond .ne 10, 3) := by decide +kernel
theorem dX3_on_7 : decode cX3_on 7 = .ok (.aload_n 0, 1) := by decide +kernel
theorem dX3_on_8 : decode cX3_on 8 = .ok (.bipush (-3), 2) := by decide +kernel
theorem dX3_on_10 : decode cX3_on 10 = .ok (.invokevirtual 71, 3) := by decide +kernel
theorem dX3_on_13 : decode cX3_on 13 = .ok (.ireturn, 1) := by decide +kernel
theorem dX3_on_14 : decode cX3_on 14 = .ok (.aload_n 0, 1) := by decide +kernel
theorem dX3_on_15 : decode cX3_on 15 = .ok (.getfield 16, 3) := by decide +kernel
theorem dX3_on_18 : decode cX3_on 18 = .ok (.aload_n 0, 1) := by decide +kernel
theorem dX3_on_19 : decode cX3_on 19 = .ok (.getfield 13, 3) := by decide +kernel
theorem dX3_on_22 : decode cX3_on 22 = .ok (.invokestatic 56, 3) := by decide +kernel
theorem dX3_on_25 : decode cX3_on 25 = .ok (.aload_n 0, 1) := by decide +kernel
theorem dX3_on_26 : decode cX3_on 26 = .ok (.getfield 13, 3) := by decide +kernel
theorem dX3_on_29 : decode cX3_on 29 = .ok (.iconst 1, 1) := by decide +kernel
theorem dX3_on_30 : decode cX3_on 30 = .ok (.iaload, 1) := by decide +kernel
theorem dX3_on_31 : decode cX3_on 31 = .ok (.ireturn, 1) := by decide +kernel
theorem dX3_count_0 : decode cX3_count 0 = .ok (.iload_n 1, 1) := by decide +kernel
theorem dX3_count_1 : decode cX3_count 1 = .ok (.bipush 10, 2) := by decide +kernel
theorem dX3_count_3 : decode cX3_count 3 = .ok (.if_icmp .le 19, 3) := by decide +kernel
theorem dX3_count_6 : decode cX3_count 6 = .ok (.iload_n 1, 1) := by decide +kernel
theorem dX3_count_7 : decode cX3_count 7 = .ok (.bipush 17, 2) := by decide +kernel
theorem dX3_count_9 : decode cX3_count 9 = .ok (.if_icmp .ge 13, 3) := by decide +kernel
theorem dX3_count_12 : decode cX3_count 12 = .ok (.aload_n 0, 1) := by decide +kernel
theorem dX3_count_13 : decode cX3_count 13 = .ok (.getfield 7, 3) := by decide +kernel
theorem dX3_count_16 : decode cX3_count 16 = .ok (.iload_n 1, 1) := by decide +kernel
theorem dX3_count_17 : decode cX3_count 17 = .ok (.bipush 10, 2) := by decide +kernel
theorem dX3_count_19 : decode cX3_count 19 = .ok (.isub, 1) := by decide +kernel
theorem dX3_count_20 : decode cX3_count 20 = .ok (.iaload, 1) := by decide +kernel
theorem dX3_count_21 : decode cX3_count 21 = .ok (.ireturn, 1) := by decide +kernel
theorem dX3_count_22 : decode cX3_count 22 = .ok (.iconst 0, 1) := by decide +kernel
theorem dX3_count_23 : decode cX3_count 23 = .ok (.istore_n 2, 1) := by decide +kernel
theorem dX3_count_24 : decode cX3_count 24 = .ok (.iload_n 1, 1) := by decide +kernel
theorem dX3_count_25 : decode cX3_count 25 = .ok (.tableswitch 90 0 5 #[39, 39, 46, 51, 80, 85], 39) := by decide +kernel
theorem dX3_count_64 : decode cX3_count 64 = .ok (.aload_n 0, 1) := by decide +kernel
theorem dX3_count_65 : decode cX3_count 65 = .ok (.getfield 13, 3) := by decide +kernel
theorem dX3_count_68 : decode cX3_count 68 = .ok (.iload_n 1, 1) := by decide +kernel
theorem dX3_count_69 : decode cX3_count 69 = .ok (.iaload, 1) := by decide +kernel
theorem dX3_count_70 : decode cX3_count 70 = .ok (.ireturn, 1) := by decide +kernel
theorem dX3_count_71 : decode cX3_count 71 = .ok (.aload_n 0, 1) := by decide +kernel
theorem dX3_count_72 : decode cX3_count 72 = .ok (.invokevirtual 136, 3) := by decide +kernel
theorem dX3_count_75 : decode cX3_count 75 = .ok (.ireturn, 1) := by decide +kernel
theorem dX3_count_76 : decode cX3_count 76 = .ok (.iconst 0, 1) := by decide +kernel
theorem dX3_count_77 : decode cX3_count 77 = .ok (.istore_n 3, 1) := by decide +kernel
theorem dX3_count_78 : decode cX3_count 78 = .ok (.iload_n 3, 1) := by decide +kernel
theorem dX3_count_79 : decode cX3_count 79 = .ok (.aload_n 0, 1) := by decide +kernel
theorem dX3_count_80 : decode cX3_count 80 = .ok (.getfield 13, 3) := by decide +kernel
theorem dX3_count_83 : decode cX3_count 83 = .ok (.iconst 0, 1) := by decide +kernel
theorem dX3_count_84 : decode cX3_count 84 = .ok (.iaload, 1) := by decide +kernel
theorem dX3_count_85 : decode cX3_count 85 = .ok (.if_icmp .ge 18, 3) := by decide +kernel
theorem dX3_count_88 : decode cX3_count 88 = .ok (.iload_n 2, 1) := by decide +kernel
theorem dX3_count_89 : decode cX3_count 89 = .ok (.aload_n 0, 1) := by decide +kernel
theorem dX3_count_90 : decode cX3_count 90 = .ok (.iload_n 3, 1) := by decide +kernel
theorem dX3_count_91 : decode cX3_count 91 = .ok (.iconst 4, 1) := by decide +kernel
theorem dX3_count_92 : decode cX3_count 92 = .ok (.invokevirtual 109, 3) := by decide +kernel
theorem dX3_count_95 : decode cX3_count 95 = .ok (.iadd, 1) := by decide +kernel
theorem dX3_count_96 : decode cX3_count 96 = .ok (.istore_n 2, 1) := by decide +kernel
theorem dX3_count_97 : decode cX3_count 97 = .ok (.iinc 3 1, 3) := by decide +kernel
theorem dX3_count_100 : decode cX3_count 100 = .ok (.goto (-22), 3) := by decide +kernel
theorem dX3_count_103 : decode cX3_count 103 = .ok (.iload_n 2, 1) := by decide +kernel
theorem dX3_count_104 : decode cX3_count 104 = .ok (.ireturn, 1) := by decide +kernel
theorem dX3_count_105 : decode cX3_count 105 = .ok (.aload_n 0, 1) := by decide +kernel
theorem dX3_count_106 : decode cX3_count 106 = .ok (.getfield 174, 3) := by decide +kernel
theorem dX3_count_109 : decode cX3_count 109 = .ok (.ireturn, 1) := by decide +kernel
theorem dX3_count_110 : decode cX3_count 110 = .ok (.aload_n 0, 1) := by decide +kernel
theorem dX3_count_111 : decode cX3_count 111 = .ok (.getfield 68, 3) := by decide +kernel
theorem dX3_count_114 : decode cX3_count 114 = .ok (.ireturn, 1) := by decide +kernel
theorem dX3_count_115 : decode cX3_count 115 = .ok (.bipush (-9), 2) := by decide +kernel
theorem dX3_count_117 : decode cX3_count 117 = .ok (.ireturn, 1) := by decide +kernel
end
section
theorem dL_law_0 : decode cL_law 0 = .ok (.new 7, 3) := by decide +kernel
theorem dL_law_3 : decode cL_law 3 = .ok (.dup, 1) := by decide +kernel
theorem dL_law_4 : decode cL_law 4 = .ok (.invokespecial 9, 3) := by decide +kernel
theorem dL_law_7 : decode cL_law 7 = .ok (.astore_n 1, 1) := by decide +kernel
theorem dL_law_8 : decode cL_law 8 = .ok (.new 10, 3) := by decide +kernel
theorem dL_law_11 : decode cL_law 11 = .ok (.dup, 1) := by decide +kernel
theorem dL_law_12 : decode cL_law 12 = .ok (.invokespecial 12, 3) := by decide +kernel
theorem dL_law_15 : decode cL_law 15 = .ok (.astore_n 2, 1) := by decide +kernel
theorem dL_law_16 : decode cL_law 16 = .ok (.iconst 0, 1) := by decide +kernel
theorem dL_law_17 : decode cL_law 17 = .ok (.istore_n 3, 1) := by decide +kernel
theorem dL_law_18 : decode cL_law 18 = .ok (.iload_n 3, 1) := by decide +kernel
theorem dL_law_19 : decode cL_law 19 = .ok (.aload_n 0, 1) := by decide +kernel
theorem dL_law_20 : decode cL_law 20 = .ok (.arraylength, 1) := by decide +kernel
theorem dL_law_21 : decode cL_law 21 = .ok (.iconst 4, 1) := by decide +kernel
theorem dL_law_22 : decode cL_law 22 = .ok (.isub, 1) := by decide +kernel
theorem dL_law_23 : decode cL_law 23 = .ok (.if_icmp .gt 884, 3) := by decide +kernel
theorem dL_law_26 : decode cL_law 26 = .ok (.aload_n 0, 1) := by decide +kernel
theorem dL_law_27 : decode cL_law 27 = .ok (.iload_n 3, 1) := by decide +kernel
theorem dL_law_28 : decode cL_law 28 = .ok (.iaload, 1) := by decide +kernel
theorem dL_law_29 : decode cL_law 29 = .ok (.bipush 31, 2) := by decide +kernel
theorem dL_law_31 : decode cL_law 31 = .ok (.iand, 1) := by decide +kernel
theorem dL_law_32 : decode cL_law 32 = .ok (.tableswitch 869 0 28 #[132, 155, 168, 201, 234, 267, 300, 313, 346, 379, 392, 425, 438, 461, 474, 487, 520, 553, 586, 609, 642, 685, 718, 741, 774, 787, 820, 833, 846], 132) := by decide +kernel
theorem dL_law_164 : decode cL_law 164 = .ok (.aload_n 1, 1) := by decide +kernel
theorem dL_law_165 : decode cL_law 165 = .ok (.aload_n 0, 1) := by decide +kernel
theorem dL_law_166 : decode cL_law 166 = .ok (.iload_n 3, 1) := by decide +kernel
theorem dL_law_167 : decode cL_law 167 = .ok (.iconst 1, 1) := by decide +kernel
theorem dL_law_168 : decode cL_law 168 = .ok (.iadd, 1) := by decide +kernel
theorem dL_law_169 : decode cL_law 169 = .ok (.iaload, 1) := by decide +kernel
theorem dL_law_170 : decode cL_law 170 = .ok (.invokevirtual 13, 3) := by decide +kernel
theorem dL_law_173 : decode cL_law 173 = .ok (.aload_n 2, 1) := by decide +kernel
theorem dL_law_174 : decode cL_law 174 = .ok (.aload_n 0, 1) := by decide +kernel
theorem dL_law_175 : decode cL_law 175 = .ok (.iload_n 3, 1) := by decide +kernel
theorem dL_law_176 : decode cL_law 176 = .ok (.iconst 1, 1) := by decide +kernel
theorem dL_law_177 : decode cL_law 177 = .ok (.iadd, 1) := by decide +kernel
theorem dL_law_178 : decode cL_law 178 = .ok (.iaload, 1) := by decide +kernel
theorem dL_law_179 : decode cL_law 179 = .ok (.invokevirtual 17, 3) := by decide +kernel
theorem dL_law_182 : decode cL_law 182 = .ok (.if_icmp .eq 719, 3) := by decide +kernel
theorem dL_law_185 : decode cL_law 185 = .ok (.iconst 0, 1) := by decide +kernel
theorem dL_law_186 : decode cL_law 186 = .ok (.ireturn, 1) := by decide +kernel
theorem dL_law_187 : decode cL_law 187 = .ok (.aload_n 1, 1) := by decide +kernel
theorem dL_law_188 : decode cL_law 188 = .ok (.invokevirtual 18, 3) := by decide +kernel
theorem dL_law_191 : decode cL_law 191 = .ok (.aload_n 2, 1) := by decide +kernel
theorem dL_law_192 : decode cL_law 192 = .ok (.invokevirtual 22, 3) := by decide +kernel
theorem dL_law_195 : decode cL_law 195 = .ok (.if_icmp .eq 706, 3) := by decide +kernel
theorem dL_law_198 : decode cL_law 198 = .ok (.iconst 0, 1) := by decide +kernel
theorem dL_law_199 : decode cL_law 199 = .ok (.ireturn, 1) := by decide +kernel
theorem dL_law_200 : decode cL_law 200 = .ok (.aload_n 1, 1) := by decide +kernel
theorem dL_law_201 : decode cL_law 201 = .ok (.aload_n 0, 1) := by decide +kernel
theorem dL_law_202 : decode cL_law 202 = .ok (.iload_n 3, 1) := by decide +kernel
theorem dL_law_203 : decode cL_law 203 = .ok (.iconst 1, 1) := by decide +kernel
theorem dL_law_204 : decode cL_law 204 = .ok (.iadd, 1) := by decide +kernel
theorem dL_law_205 : decode cL_law 205 = .ok (.iaload, 1) := by decide +kernel
theorem dL_law_206 : decode cL_law 206 = .ok (.aload_n 0, 1) := by decide +kernel
theorem dL_law_207 : decode cL_law 207 = .ok (.iload_n 3, 1) := by decide +kernel
theorem dL_law_208 : decode cL_law 208 = .ok (.iconst 2, 1) := by decide +kernel
theorem dL_law_209 : decode cL_law 209 = .ok (.iadd, 1) := by decide +kernel
theorem dL_law_210 : decode cL_law 210 = .ok (.iaload, 1) := by decide +kernel
theorem dL_law_211 : decode cL_law 211 = .ok (.invokevirtual 23, 3) := by decide +kernel
theorem dL_law_214 : decode cL_law 214 = .ok (.aload_n 2, 1) := by decide +kernel
theorem dL_law_215 : decode cL_law 215 = .ok (.aload_n 0, 1) := by decide +kernel
theorem dL_law_216 : decode cL_law 216 = .ok (.iload_n 3, 1) := by decide +kernel
theorem dL_law_217 : decode cL_law 217 = .ok (.iconst 1, 1) := by decide +kernel
theorem dL_law_218 : decode cL_law 218 = .ok (.iadd, 1) := by decide +kernel
theorem dL_law_219 : decode cL_law 219 = .ok (.iaload, 1) := by decide +kernel
theorem dL_law_220 : decode cL_law 220 = .ok (.aload_n 0, 1) := by decide +kernel
theorem dL_law_221 : decode cL_law 221 = .ok (.iload_n 3, 1) := by decide +kernel
theorem dL_law_222 : decode cL_law 222 = .ok (.iconst 2, 1) := by decide +kernel
theorem dL_law_223 : decode cL_law 223 = .ok (.iadd, 1) := by decide +kernel
theorem dL_law_224 : decode cL_law 224 = .ok (.iaload, 1) := by decide +kernel
theorem dL_law_225 : decode cL_law 225 = .ok (.invokevirtual 27, 3) := by decide +kernel
theorem dL_law_228 : decode cL_law 228 = .ok (.if_icmp .eq 673, 3) := by decide +kernel
theorem dL_law_231 : decode cL_law 231 = .ok (.iconst 0, 1) := by decide +kernel
theorem dL_law_232 : decode cL_law 232 = .ok (.ireturn, 1) := by decide +kernel
theorem dL_law_233 : decode cL_law 233 = .ok (.aload_n 1, 1) := by decide +kernel
theorem dL_law_234 : decode cL_law 234 = .ok (.aload_n 0, 1) := by decide +kernel
theorem dL_law_235 : decode cL_law 235 = .ok (.iload_n 3, 1) := by decide +kernel
theorem dL_law_236 : decode cL_law 236 = .ok (.iconst 1, 1) := by decide +kernel
theorem dL_law_237 : decode cL_law 237 = .ok (.iadd, 1) := by decide +kernel
theorem dL_law_238 : decode cL_law 238 = .ok (.iaload, 1) := by decide +kernel
theorem dL_law_239 : decode cL_law 239 = .ok (.aload_n 0, 1) := by decide +kernel
theorem dL_law_240 : decode cL_law 240 = .ok (.iload_n 3, 1) := by decide +kernel
theorem dL_law_241 : decode cL_law 241 = .ok (.iconst 2, 1) := by decide +kernel
theorem dL_law_242 : decode cL_law 242 = .ok (.iadd, 1) := by decide +kernel
theorem dL_law_243 : decode cL_law 243 = .ok (.iaload, 1) := by decide +kernel
theorem dL_law_244 : decode cL_law 244 = .ok (.invokevirtual 28, 3) := by decide +kernel
theorem dL_law_247 : decode cL_law 247 = .ok (.aload_n 2, 1) := by decide +kernel
theorem dL_law_248 : decode cL_law 248 = .ok (.aload_n 0, 1) := by decide +kernel
theorem dL_law_249 : decode cL_law 249 = .ok (.iload_n 3, 1) := by decide +kernel
theorem dL_law_250 : decode cL_law 250 = .ok (.iconst 1, 1) := by decide +kernel
theorem dL_law_251 : decode cL_law 251 = .ok (.iadd, 1) := by decide +kernel
theorem dL_law_252 : decode cL_law 252 = .ok (.iaload, 1) := by decide +kernel
theorem dL_law_253 : decode cL_law 253 = .ok (.aload_n 0, 1) := by decide +kernel
theorem dL_law_254 : decode cL_law 254 = .ok (.iload_n 3, 1) := by decide +kernel
theorem dL_law_255 : decode cL_law 255 = .ok (.iconst 2, 1) := by decide +kernel
theorem dL_law_256 : decode cL_law 256 = .ok (.iadd, 1) := by decide +kernel
theorem dL_law_257 : decode cL_law 257 = .ok (.iaload, 1) := by decide +kernel
theorem dL_law_258 : decode cL_law 258 = .ok (.invokevirtual 31, 3) := by decide +kernel
theorem dL_law_261 : decode cL_law 261 = .ok (.if_icmp .eq 640, 3) := by decide +kernel
theorem dL_law_264 : decode cL_law 264 = .ok (.iconst 0, 1) := by decide +kernel
theorem dL_law_265 : decode cL_law 265 = .ok (.ireturn, 1) := by decide +kernel
theorem dL_law_266 : decode cL_law 266 = .ok (.aload_n 1, 1) := by decide +kernel
theorem dL_law_267 : decode cL_law 267 = .ok (.aload_n 0, 1) := by decide +kernel
theorem dL_law_268 : decode cL_law 268 = .ok (.iload_n 3, 1) := by decide +kernel
theorem dL_law_269 : decode cL_law 269 = .ok (.iconst 1, 1) := by decide +kernel
theorem dL_law_270 : decode cL_law 270 = .ok (.iadd, 1) := by decide +kernel
theorem dL_law_271 : decode cL_law 271 = .ok (.iaload, 1) := by decide +kernel
theorem dL_law_272 : decode cL_law 272 = .ok (.aload_n 0, 1) := by decide +kernel
theorem dL_law_273 : decode cL_law 273 = .ok (.iload_n 3, 1) := by decide +kernel
theorem dL_law_274 : decode cL_law 274 = .ok (.iconst 2, 1) := by decide +kernel
theorem dL_law_275 : decode cL_law 275 = .ok (.iadd, 1) := by decide +kernel
theorem dL_law_276 : decode cL_law 276 = .ok (.iaload, 1) := by decide +kernel
theorem dL_law_277 : decode cL_law 277 = .ok (.invokevirtual 32, 3) := by decide +kernel
theorem dL_law_280 : decode cL_law 280 = .ok (.aload_n 2, 1) := by decide +kernel
theorem dL_law_281 : decode cL_law 281 = .ok (.aload_n 0, 1) := by decide +kernel
theorem dL_law_282 : decode cL_law 282 = .ok (.iload_n 3, 1) := by decide +kernel
theorem dL_law_283 : decode cL_law 283 = .ok (.iconst 1, 1) := by decide +kernel
theorem dL_law_284 : decode cL_law 284 = .ok (.iadd, 1) := by decide +kernel
theorem dL_law_285 : decode cL_law 285 = .ok (.iaload, 1) := by decide +kernel
theorem dL_law_286 : decode cL_law 286 = .ok (.aload_n 0, 1) := by decide +kernel
theorem dL_law_287 : decode cL_law 287 = .ok (.iload_n 3, 1) := by decide +kernel
theorem dL_law_288 : decode cL_law 288 = .ok (.iconst 2, 1) := by decide +kernel
theorem dL_law_289 : decode cL_law 289 = .ok (.iadd, 1) := by decide +kernel
theorem dL_law_290 : decode cL_law 290 = .ok (.iaload, 1) := by decide +kernel
theorem dL_law_291 : decode cL_law 291 = .ok (.invokevirtual 35, 3) := by decide +kernel
theorem dL_law_294 : decode cL_law 294 = .ok (.if_icmp .eq 607, 3) := by decide +kernel
theorem dL_law_297 : decode cL_law 297 = .ok (.iconst 0, 1) := by decide +kernel
theorem dL_law_298 : decode cL_law 298 = .ok (.ireturn, 1) := by decide +kernel
theorem dL_law_299 : decode cL_law 299 = .ok (.aload_n 1, 1) := by decide +kernel
theorem dL_law_300 : decode cL_law 300 = .ok (.aload_n 0, 1) := by decide +kernel
theorem dL_law_301 : decode cL_law 301 = .ok (.iload_n 3, 1) := by decide +kernel
theorem dL_law_302 : decode cL_law 302 = .ok (.iconst 1, 1) := by decide +kernel
theorem dL_law_303 : decode cL_law 303 = .ok (.iadd, 1) := by decide +kernel
theorem dL_law_304 : decode cL_law 304 = .ok (.iaload, 1) := by decide +kernel
theorem dL_law_305 : decode cL_law 305 = .ok (.aload_n 0, 1) := by decide +kernel
theorem dL_law_306 : decode cL_law 306 = .ok (.iload_n 3, 1) := by decide +kernel
theorem dL_law_307 : decode cL_law 307 = .ok (.iconst 2, 1) := by decide +kernel
theorem dL_law_308 : decode cL_law 308 = .ok (.iadd, 1) := by decide +kernel
theorem dL_law_309 : decode cL_law 309 = .ok (.iaload, 1) := by decide +kernel
theorem dL_law_310 : decode cL_law 310 = .ok (.invokevirtual 36, 3) := by decide +kernel
theorem dL_law_313 : decode cL_law 313 = .ok (.aload_n 2, 1) := by decide +kernel
theorem dL_law_314 : decode cL_law 314 = .ok (.aload_n 0, 1) := by decide +kernel
theorem dL_law_315 : decode cL_law 315 = .ok (.iload_n 3, 1) := by decide +kernel
theorem dL_law_316 : decode cL_law 316 = .ok (.iconst 1, 1) := by decide +kernel
theorem dL_law_317 : decode cL_law 317 = .ok (.iadd, 1) := by decide +kernel
theorem dL_law_318 : decode cL_law 318 = .ok (.iaload, 1) := by decide +kernel
theorem dL_law_319 : decode cL_law 319 = .ok (.aload_n 0, 1) := by decide +kernel
theorem dL_law_320 : decode cL_law 320 = .ok (.iload_n 3, 1) := by decide +kernel
theorem dL_law_321 : decode cL_law 321 = .ok (.iconst 2, 1) := by decide +kernel
theorem dL_law_322 : decode cL_law 322 = .ok (.iadd, 1) := by decide +kernel
theorem dL_law_323 : decode cL_law 323 = .ok (.iaload, 1) := by decide +kernel
end
section
theorem dL_law_324 : decode cL_law 324 = .ok (.invokevirtual 39, 3) := by decide +kernel
theorem dL_law_327 : decode cL_law 327 = .ok (.if_icmp .eq 574, 3) := by decide +kernel
theorem dL_law_330 : decode cL_law 330 = .ok (.iconst 0, 1) := by decide +kernel
theorem dL_law_331 : decode cL_law 331 = .ok (.ireturn, 1) := by decide +kernel
theorem dL_law_332 : decode cL_law 332 = .ok (.aload_n 1, 1) := by decide +kernel
theorem dL_law_333 : decode cL_law 333 = .ok (.invokevirtual 40, 3) := by decide +kernel
theorem dL_law_336 : decode cL_law 336 = .ok (.aload_n 2, 1) := by decide +kernel
theorem dL_law_337 : decode cL_law 337 = .ok (.invokevirtual 43, 3) := by decide +kernel
theorem dL_law_340 : decode cL_law 340 = .ok (.if_icmp .eq 561, 3) := by decide +kernel
theorem dL_law_343 : decode cL_law 343 = .ok (.iconst 0, 1) := by decide +kernel
theorem dL_law_344 : decode cL_law 344 = .ok (.ireturn, 1) := by decide +kernel
theorem dL_law_345 : decode cL_law 345 = .ok (.aload_n 1, 1) := by decide +kernel
theorem dL_law_346 : decode cL_law 346 = .ok (.aload_n 0, 1) := by decide +kernel
theorem dL_law_347 : decode cL_law 347 = .ok (.iload_n 3, 1) := by decide +kernel
theorem dL_law_348 : decode cL_law 348 = .ok (.iconst 1, 1) := by decide +kernel
theorem dL_law_349 : decode cL_law 349 = .ok (.iadd, 1) := by decide +kernel
theorem dL_law_350 : decode cL_law 350 = .ok (.iaload, 1) := by decide +kernel
theorem dL_law_351 : decode cL_law 351 = .ok (.aload_n 0, 1) := by decide +kernel
theorem dL_law_352 : decode cL_law 352 = .ok (.iload_n 3, 1) := by decide +kernel
theorem dL_law_353 : decode cL_law 353 = .ok (.iconst 2, 1) := by decide +kernel
theorem dL_law_354 : decode cL_law 354 = .ok (.iadd, 1) := by decide +kernel
theorem dL_law_355 : decode cL_law 355 = .ok (.iaload, 1) := by decide +kernel
theorem dL_law_356 : decode cL_law 356 = .ok (.invokevirtual 44, 3) := by decide +kernel
theorem dL_law_359 : decode cL_law 359 = .ok (.aload_n 2, 1) := by decide +kernel
theorem dL_law_360 : decode cL_law 360 = .ok (.aload_n 0, 1) := by decide +kernel
theorem dL_law_361 : decode cL_law 361 = .ok (.iload_n 3, 1) := by decide +kernel
theorem dL_law_362 : decode cL_law 362 = .ok (.iconst 1, 1) := by decide +kernel
theorem dL_law_363 : decode cL_law 363 = .ok (.iadd, 1) := by decide +kernel
theorem dL_law_364 : decode cL_law 364 = .ok (.iaload, 1) := by decide +kernel
theorem dL_law_365 : decode cL_law 365 = .ok (.aload_n 0, 1) := by decide +kernel
theorem dL_law_366 : decode cL_law 366 = .ok (.iload_n 3, 1) := by decide +kernel
theorem dL_law_367 : decode cL_law 367 = .ok (.iconst 2, 1) := by decide +kernel
theorem dL_law_368 : decode cL_law 368 = .ok (.iadd, 1) := by decide +kernel
theorem dL_law_369 : decode cL_law 369 = .ok (.iaload, 1) := by decide +kernel
theorem dL_law_370 : decode cL_law 370 = .ok (.invokevirtual 47, 3) := by decide +kernel
theorem dL_law_373 : decode cL_law 373 = .ok (.if_icmp .eq 528, 3) := by decide +kernel
theorem dL_law_376 : decode cL_law 376 = .ok (.iconst 0, 1) := by decide +kernel
theorem dL_law_377 : decode cL_law 377 = .ok (.ireturn, 1) := by decide +kernel
theorem dL_law_378 : decode cL_law 378 = .ok (.aload_n 1, 1) := by decide +kernel
theorem dL_law_379 : decode cL_law 379 = .ok (.aload_n 0, 1) := by decide +kernel
theorem dL_law_380 : decode cL_law 380 = .ok (.iload_n 3, 1) := by decide +kernel
theorem dL_law_381 : decode cL_law 381 = .ok (.iconst 1, 1) := by decide +kernel
theorem dL_law_382 : decode cL_law 382 = .ok (.iadd, 1) := by decide +kernel
theorem dL_law_383 : decode cL_law 383 = .ok (.iaload, 1) := by decide +kernel
theorem dL_law_384 : decode cL_law 384 = .ok (.aload_n 0, 1) := by decide +kernel
theorem dL_law_385 : decode cL_law 385 = .ok (.iload_n 3, 1) := by decide +kernel
theorem dL_law_386 : decode cL_law 386 = .ok (.iconst 2, 1) := by decide +kernel
theorem dL_law_387 : decode cL_law 387 = .ok (.iadd, 1) := by decide +kernel
theorem dL_law_388 : decode cL_law 388 = .ok (.iaload, 1) := by decide +kernel
theorem dL_law_389 : decode cL_law 389 = .ok (.invokevirtual 48, 3) := by decide +kernel
theorem dL_law_392 : decode cL_law 392 = .ok (.aload_n 2, 1) := by decide +kernel
theorem dL_law_393 : decode cL_law 393 = .ok (.aload_n 0, 1) := by decide +kernel
theorem dL_law_394 : decode cL_law 394 = .ok (.iload_n 3, 1) := by decide +kernel
theorem dL_law_395 : decode cL_law 395 = .ok (.iconst 1, 1) := by decide +kernel
theorem dL_law_396 : decode cL_law 396 = .ok (.iadd, 1) := by decide +kernel
theorem dL_law_397 : decode cL_law 397 = .ok (.iaload, 1) := by decide +kernel
theorem dL_law_398 : decode cL_law 398 = .ok (.aload_n 0, 1) := by decide +kernel
theorem dL_law_399 : decode cL_law 399 = .ok (.iload_n 3, 1) := by decide +kernel
theorem dL_law_400 : decode cL_law 400 = .ok (.iconst 2, 1) := by decide +kernel
theorem dL_law_401 : decode cL_law 401 = .ok (.iadd, 1) := by decide +kernel
theorem dL_law_402 : decode cL_law 402 = .ok (.iaload, 1) := by decide +kernel
theorem dL_law_403 : decode cL_law 403 = .ok (.invokevirtual 51, 3) := by decide +kernel
theorem dL_law_406 : decode cL_law 406 = .ok (.if_icmp .eq 495, 3) := by decide +kernel
theorem dL_law_409 : decode cL_law 409 = .ok (.iconst 0, 1) := by decide +kernel
theorem dL_law_410 : decode cL_law 410 = .ok (.ireturn, 1) := by decide +kernel
theorem dL_law_411 : decode cL_law 411 = .ok (.aload_n 1, 1) := by decide +kernel
theorem dL_law_412 : decode cL_law 412 = .ok (.invokevirtual 52, 3) := by decide +kernel
theorem dL_law_415 : decode cL_law 415 = .ok (.aload_n 2, 1) := by decide +kernel
theorem dL_law_416 : decode cL_law 416 = .ok (.invokevirtual 55, 3) := by decide +kernel
theorem dL_law_419 : decode cL_law 419 = .ok (.if_icmp .eq 482, 3) := by decide +kernel
theorem dL_law_422 : decode cL_law 422 = .ok (.iconst 0, 1) := by decide +kernel
theorem dL_law_423 : decode cL_law 423 = .ok (.ireturn, 1) := by decide +kernel
theorem dL_law_424 : decode cL_law 424 = .ok (.aload_n 1, 1) := by decide +kernel
theorem dL_law_425 : decode cL_law 425 = .ok (.aload_n 0, 1) := by decide +kernel
theorem dL_law_426 : decode cL_law 426 = .ok (.iload_n 3, 1) := by decide +kernel
theorem dL_law_427 : decode cL_law 427 = .ok (.iconst 1, 1) := by decide +kernel
theorem dL_law_428 : decode cL_law 428 = .ok (.iadd, 1) := by decide +kernel
theorem dL_law_429 : decode cL_law 429 = .ok (.iaload, 1) := by decide +kernel
theorem dL_law_430 : decode cL_law 430 = .ok (.aload_n 0, 1) := by decide +kernel
theorem dL_law_431 : decode cL_law 431 = .ok (.iload_n 3, 1) := by decide +kernel
theorem dL_law_432 : decode cL_law 432 = .ok (.iconst 2, 1) := by decide +kernel
theorem dL_law_433 : decode cL_law 433 = .ok (.iadd, 1) := by decide +kernel
theorem dL_law_434 : decode cL_law 434 = .ok (.iaload, 1) := by decide +kernel
theorem dL_law_435 : decode cL_law 435 = .ok (.invokevirtual 56, 3) := by decide +kernel
theorem dL_law_438 : decode cL_law 438 = .ok (.aload_n 2, 1) := by decide +kernel
theorem dL_law_439 : decode cL_law 439 = .ok (.aload_n 0, 1) := by decide +kernel
theorem dL_law_440 : decode cL_law 440 = .ok (.iload_n 3, 1) := by decide +kernel
theorem dL_law_441 : decode cL_law 441 = .ok (.iconst 1, 1) := by decide +kernel
theorem dL_law_442 : decode cL_law 442 = .ok (.iadd, 1) := by decide +kernel
theorem dL_law_443 : decode cL_law 443 = .ok (.iaload, 1) := by decide +kernel
theorem dL_law_444 : decode cL_law 444 = .ok (.aload_n 0, 1) := by decide +kernel
theorem dL_law_445 : decode cL_law 445 = .ok (.iload_n 3, 1) := by decide +kernel
theorem dL_law_446 : decode cL_law 446 = .ok (.iconst 2, 1) := by decide +kernel
theorem dL_law_447 : decode cL_law 447 = .ok (.iadd, 1) := by decide +kernel
theorem dL_law_448 : decode cL_law 448 = .ok (.iaload, 1) := by decide +kernel
theorem dL_law_449 : decode cL_law 449 = .ok (.invokevirtual 59, 3) := by decide +kernel
theorem dL_law_452 : decode cL_law 452 = .ok (.if_icmp .eq 449, 3) := by decide +kernel
theorem dL_law_455 : decode cL_law 455 = .ok (.iconst 0, 1) := by decide +kernel
theorem dL_law_456 : decode cL_law 456 = .ok (.ireturn, 1) := by decide +kernel
theorem dL_law_457 : decode cL_law 457 = .ok (.aload_n 1, 1) := by decide +kernel
theorem dL_law_458 : decode cL_law 458 = .ok (.invokevirtual 60, 3) := by decide +kernel
theorem dL_law_461 : decode cL_law 461 = .ok (.aload_n 2, 1) := by decide +kernel
theorem dL_law_462 : decode cL_law 462 = .ok (.invokevirtual 63, 3) := by decide +kernel
theorem dL_law_465 : decode cL_law 465 = .ok (.if_icmp .eq 436, 3) := by decide +kernel
theorem dL_law_468 : decode cL_law 468 = .ok (.iconst 0, 1) := by decide +kernel
theorem dL_law_469 : decode cL_law 469 = .ok (.ireturn, 1) := by decide +kernel
theorem dL_law_470 : decode cL_law 470 = .ok (.aload_n 1, 1) := by decide +kernel
theorem dL_law_471 : decode cL_law 471 = .ok (.aload_n 0, 1) := by decide +kernel
theorem dL_law_472 : decode cL_law 472 = .ok (.iload_n 3, 1) := by decide +kernel
theorem dL_law_473 : decode cL_law 473 = .ok (.iconst 1, 1) := by decide +kernel
theorem dL_law_474 : decode cL_law 474 = .ok (.iadd, 1) := by decide +kernel
theorem dL_law_475 : decode cL_law 475 = .ok (.iaload, 1) := by decide +kernel
theorem dL_law_476 : decode cL_law 476 = .ok (.invokevirtual 64, 3) := by decide +kernel
theorem dL_law_479 : decode cL_law 479 = .ok (.aload_n 2, 1) := by decide +kernel
theorem dL_law_480 : decode cL_law 480 = .ok (.aload_n 0, 1) := by decide +kernel
theorem dL_law_481 : decode cL_law 481 = .ok (.iload_n 3, 1) := by decide +kernel
theorem dL_law_482 : decode cL_law 482 = .ok (.iconst 1, 1) := by decide +kernel
theorem dL_law_483 : decode cL_law 483 = .ok (.iadd, 1) := by decide +kernel
theorem dL_law_484 : decode cL_law 484 = .ok (.iaload, 1) := by decide +kernel
theorem dL_law_485 : decode cL_law 485 = .ok (.invokevirtual 67, 3) := by decide +kernel
theorem dL_law_488 : decode cL_law 488 = .ok (.if_icmp .eq 413, 3) := by decide +kernel
theorem dL_law_491 : decode cL_law 491 = .ok (.iconst 0, 1) := by decide +kernel
theorem dL_law_492 : decode cL_law 492 = .ok (.ireturn, 1) := by decide +kernel
theorem dL_law_493 : decode cL_law 493 = .ok (.aload_n 1, 1) := by decide +kernel
theorem dL_law_494 : decode cL_law 494 = .ok (.invokevirtual 68, 3) := by decide +kernel
theorem dL_law_497 : decode cL_law 497 = .ok (.aload_n 2, 1) := by decide +kernel
theorem dL_law_498 : decode cL_law 498 = .ok (.invokevirtual 71, 3) := by decide +kernel
theorem dL_law_501 : decode cL_law 501 = .ok (.if_icmp .eq 400, 3) := by decide +kernel
theorem dL_law_504 : decode cL_law 504 = .ok (.iconst 0, 1) := by decide +kernel
theorem dL_law_505 : decode cL_law 505 = .ok (.ireturn, 1) := by decide +kernel
theorem dL_law_506 : decode cL_law 506 = .ok (.aload_n 1, 1) := by decide +kernel
theorem dL_law_507 : decode cL_law 507 = .ok (.invokevirtual 72, 3) := by decide +kernel
theorem dL_law_510 : decode cL_law 510 = .ok (.aload_n 2, 1) := by decide +kernel
theorem dL_law_511 : decode cL_law 511 = .ok (.invokevirtual 75, 3) := by decide +kernel
theorem dL_law_514 : decode cL_law 514 = .ok (.if_icmp .eq 387, 3) := by decide +kernel
theorem dL_law_517 : decode cL_law 517 = .ok (.iconst 0, 1) := by decide +kernel
theorem dL_law_518 : decode cL_law 518 = .ok (.ireturn, 1) := by decide +kernel
theorem dL_law_519 : decode cL_law 519 = .ok (.aload_n 1, 1) := by decide +kernel
theorem dL_law_520 : decode cL_law 520 = .ok (.aload_n 0, 1) := by decide +kernel
theorem dL_law_521 : decode cL_law 521 = .ok (.iload_n 3, 1) := by decide +kernel
theorem dL_law_522 : decode cL_law 522 = .ok (.iconst 1, 1) := by decide +kernel
theorem dL_law_523 : decode cL_law 523 = .ok (.iadd, 1) := by decide +kernel
theorem dL_law_524 : decode cL_law 524 = .ok (.iaload, 1) := by decide +kernel
theorem dL_law_525 : decode cL_law 525 = .ok (.aload_n 0, 1) := by decide +kernel
theorem dL_law_526 : decode cL_law 526 = .ok (.iload_n 3, 1) := by decide +kernel
theorem dL_law_527 : decode cL_law 527 = .ok (.iconst 2, 1) := by decide +kernel
theorem dL_law_528 : decode cL_law 528 = .ok (.iadd, 1) := by decide +kernel
theorem dL_law_529 : decode cL_law 529 = .ok (.iaload, 1) := by decide +kernel
theorem dL_law_530 : decode cL_law 530 = .ok (.invokevirtual 76, 3) := by decide +kernel
theorem dL_law_533 : decode cL_law 533 = .ok (.aload_n 2, 1) := by decide +kernel
end
section
theorem dL_law_534 : decode cL_law 534 = .ok (.aload_n 0, 1) := by decide +kernel
theorem dL_law_535 : decode cL_law 535 = .ok (.iload_n 3, 1) := by decide +kernel
theorem dL_law_536 : decode cL_law 536 = .ok (.iconst 1, 1) := by decide +kernel
theorem dL_law_537 : decode cL_law 537 = .ok (.iadd, 1) := by decide +kernel
theorem dL_law_538 : decode cL_law 538 = .ok (.iaload, 1) := by decide +kernel
theorem dL_law_539 : decode cL_law 539 = .ok (.aload_n 0, 1) := by decide +kernel
theorem dL_law_540 : decode cL_law 540 = .ok (.iload_n 3, 1) := by decide +kernel
theorem dL_law_541 : decode cL_law 541 = .ok (.iconst 2, 1) := by decide +kernel
theorem dL_law_542 : decode cL_law 542 = .ok (.iadd, 1) := by decide +kernel
theorem dL_law_543 : decode cL_law 543 = .ok (.iaload, 1) := by decide +kernel
theorem dL_law_544 : decode cL_law 544 = .ok (.invokevirtual 79, 3) := by decide +kernel
theorem dL_law_547 : decode cL_law 547 = .ok (.if_icmp .eq 354, 3) := by decide +kernel
theorem dL_law_550 : decode cL_law 550 = .ok (.iconst 0, 1) := by decide +kernel
theorem dL_law_551 : decode cL_law 551 = .ok (.ireturn, 1) := by decide +kernel
theorem dL_law_552 : decode cL_law 552 = .ok (.aload_n 1, 1) := by decide +kernel
theorem dL_law_553 : decode cL_law 553 = .ok (.aload_n 0, 1) := by decide +kernel
theorem dL_law_554 : decode cL_law 554 = .ok (.iload_n 3, 1) := by decide +kernel
theorem dL_law_555 : decode cL_law 555 = .ok (.iconst 1, 1) := by decide +kernel
theorem dL_law_556 : decode cL_law 556 = .ok (.iadd, 1) := by decide +kernel
theorem dL_law_557 : decode cL_law 557 = .ok (.iaload, 1) := by decide +kernel
theorem dL_law_558 : decode cL_law 558 = .ok (.aload_n 0, 1) := by decide +kernel
theorem dL_law_559 : decode cL_law 559 = .ok (.iload_n 3, 1) := by decide +kernel
theorem dL_law_560 : decode cL_law 560 = .ok (.iconst 2, 1) := by decide +kernel
theorem dL_law_561 : decode cL_law 561 = .ok (.iadd, 1) := by decide +kernel
theorem dL_law_562 : decode cL_law 562 = .ok (.iaload, 1) := by decide +kernel
theorem dL_law_563 : decode cL_law 563 = .ok (.invokevirtual 80, 3) := by decide +kernel
theorem dL_law_566 : decode cL_law 566 = .ok (.aload_n 2, 1) := by decide +kernel
theorem dL_law_567 : decode cL_law 567 = .ok (.aload_n 0, 1) := by decide +kernel
theorem dL_law_568 : decode cL_law 568 = .ok (.iload_n 3, 1) := by decide +kernel
theorem dL_law_569 : decode cL_law 569 = .ok (.iconst 1, 1) := by decide +kernel
theorem dL_law_570 : decode cL_law 570 = .ok (.iadd, 1) := by decide +kernel
theorem dL_law_571 : decode cL_law 571 = .ok (.iaload, 1) := by decide +kernel
theorem dL_law_572 : decode cL_law 572 = .ok (.aload_n 0, 1) := by decide +kernel
theorem dL_law_573 : decode cL_law 573 = .ok (.iload_n 3, 1) := by decide +kernel
theorem dL_law_574 : decode cL_law 574 = .ok (.iconst 2, 1) := by decide +kernel
theorem dL_law_575 : decode cL_law 575 = .ok (.iadd, 1) := by decide +kernel
theorem dL_law_576 : decode cL_law 576 = .ok (.iaload, 1) := by decide +kernel
theorem dL_law_577 : decode cL_law 577 = .ok (.invokevirtual 83, 3) := by decide +kernel
theorem dL_law_580 : decode cL_law 580 = .ok (.if_icmp .eq 321, 3) := by decide +kernel
theorem dL_law_583 : decode cL_law 583 = .ok (.iconst 0, 1) := by decide +kernel
theorem dL_law_584 : decode cL_law 584 = .ok (.ireturn, 1) := by decide +kernel
theorem dL_law_585 : decode cL_law 585 = .ok (.aload_n 1, 1) := by decide +kernel
theorem dL_law_586 : decode cL_law 586 = .ok (.aload_n 0, 1) := by decide +kernel
theorem dL_law_587 : decode cL_law 587 = .ok (.iload_n 3, 1) := by decide +kernel
theorem dL_law_588 : decode cL_law 588 = .ok (.iconst 1, 1) := by decide +kernel
theorem dL_law_589 : decode cL_law 589 = .ok (.iadd, 1) := by decide +kernel
theorem dL_law_590 : decode cL_law 590 = .ok (.iaload, 1) := by decide +kernel
theorem dL_law_591 : decode cL_law 591 = .ok (.aload_n 0, 1) := by decide +kernel
theorem dL_law_592 : decode cL_law 592 = .ok (.iload_n 3, 1) := by decide +kernel
theorem dL_law_593 : decode cL_law 593 = .ok (.iconst 2, 1) := by decide +kernel
theorem dL_law_594 : decode cL_law 594 = .ok (.iadd, 1) := by decide +kernel
theorem dL_law_595 : decode cL_law 595 = .ok (.iaload, 1) := by decide +kernel
theorem dL_law_596 : decode cL_law 596 = .ok (.invokevirtual 84, 3) := by decide +kernel
theorem dL_law_599 : decode cL_law 599 = .ok (.aload_n 2, 1) := by decide +kernel
theorem dL_law_600 : decode cL_law 600 = .ok (.aload_n 0, 1) := by decide +kernel
theorem dL_law_601 : decode cL_law 601 = .ok (.iload_n 3, 1) := by decide +kernel
theorem dL_law_602 : decode cL_law 602 = .ok (.iconst 1, 1) := by decide +kernel
theorem dL_law_603 : decode cL_law 603 = .ok (.iadd, 1) := by decide +kernel
theorem dL_law_604 : decode cL_law 604 = .ok (.iaload, 1) := by decide +kernel
theorem dL_law_605 : decode cL_law 605 = .ok (.aload_n 0, 1) := by decide +kernel
theorem dL_law_606 : decode cL_law 606 = .ok (.iload_n 3, 1) := by decide +kernel
theorem dL_law_607 : decode cL_law 607 = .ok (.iconst 2, 1) := by decide +kernel
theorem dL_law_608 : decode cL_law 608 = .ok (.iadd, 1) := by decide +kernel
theorem dL_law_609 : decode cL_law 609 = .ok (.iaload, 1) := by decide +kernel
theorem dL_law_610 : decode cL_law 610 = .ok (.invokevirtual 87, 3) := by decide +kernel
theorem dL_law_613 : decode cL_law 613 = .ok (.if_icmp .eq 288, 3) := by decide +kernel
theorem dL_law_616 : decode cL_law 616 = .ok (.iconst 0, 1) := by decide +kernel
theorem dL_law_617 : decode cL_law 617 = .ok (.ireturn, 1) := by decide +kernel
theorem dL_law_618 : decode cL_law 618 = .ok (.aload_n 1, 1) := by decide +kernel
theorem dL_law_619 : decode cL_law 619 = .ok (.aload_n 0, 1) := by decide +kernel
theorem dL_law_620 : decode cL_law 620 = .ok (.iload_n 3, 1) := by decide +kernel
theorem dL_law_621 : decode cL_law 621 = .ok (.iconst 1, 1) := by decide +kernel
theorem dL_law_622 : decode cL_law 622 = .ok (.iadd, 1) := by decide +kernel
theorem dL_law_623 : decode cL_law 623 = .ok (.iaload, 1) := by decide +kernel
theorem dL_law_624 : decode cL_law 624 = .ok (.invokevirtual 88, 3) := by decide +kernel
theorem dL_law_627 : decode cL_law 627 = .ok (.aload_n 2, 1) := by decide +kernel
theorem dL_law_628 : decode cL_law 628 = .ok (.aload_n 0, 1) := by decide +kernel
theorem dL_law_629 : decode cL_law 629 = .ok (.iload_n 3, 1) := by decide +kernel
theorem dL_law_630 : decode cL_law 630 = .ok (.iconst 1, 1) := by decide +kernel
theorem dL_law_631 : decode cL_law 631 = .ok (.iadd, 1) := by decide +kernel
theorem dL_law_632 : decode cL_law 632 = .ok (.iaload, 1) := by decide +kernel
theorem dL_law_633 : decode cL_law 633 = .ok (.invokevirtual 91, 3) := by decide +kernel
theorem dL_law_636 : decode cL_law 636 = .ok (.if_icmp .eq 265, 3) := by decide +kernel
theorem dL_law_639 : decode cL_law 639 = .ok (.iconst 0, 1) := by decide +kernel
theorem dL_law_640 : decode cL_law 640 = .ok (.ireturn, 1) := by decide +kernel
theorem dL_law_641 : decode cL_law 641 = .ok (.aload_n 1, 1) := by decide +kernel
theorem dL_law_642 : decode cL_law 642 = .ok (.aload_n 0, 1) := by decide +kernel
theorem dL_law_643 : decode cL_law 643 = .ok (.iload_n 3, 1) := by decide +kernel
theorem dL_law_644 : decode cL_law 644 = .ok (.iconst 1, 1) := by decide +kernel
theorem dL_law_645 : decode cL_law 645 = .ok (.iadd, 1) := by decide +kernel
theorem dL_law_646 : decode cL_law 646 = .ok (.iaload, 1) := by decide +kernel
theorem dL_law_647 : decode cL_law 647 = .ok (.aload_n 0, 1) := by decide +kernel
theorem dL_law_648 : decode cL_law 648 = .ok (.iload_n 3, 1) := by decide +kernel
theorem dL_law_649 : decode cL_law 649 = .ok (.iconst 2, 1) := by decide +kernel
theorem dL_law_650 : decode cL_law 650 = .ok (.iadd, 1) := by decide +kernel
theorem dL_law_651 : decode cL_law 651 = .ok (.iaload, 1) := by decide +kernel
theorem dL_law_652 : decode cL_law 652 = .ok (.invokevirtual 92, 3) := by decide +kernel
theorem dL_law_655 : decode cL_law 655 = .ok (.aload_n 2, 1) := by decide +kernel
theorem dL_law_656 : decode cL_law 656 = .ok (.aload_n 0, 1) := by decide +kernel
theorem dL_law_657 : decode cL_law 657 = .ok (.iload_n 3, 1) := by decide +kernel
theorem dL_law_658 : decode cL_law 658 = .ok (.iconst 1, 1) := by decide +kernel
theorem dL_law_659 : decode cL_law 659 = .ok (.iadd, 1) := by decide +kernel
theorem dL_law_660 : decode cL_law 660 = .ok (.iaload, 1) := by decide +kernel
theorem dL_law_661 : decode cL_law 661 = .ok (.aload_n 0, 1) := by decide +kernel
theorem dL_law_662 : decode cL_law 662 = .ok (.iload_n 3, 1) := by decide +kernel
theorem dL_law_663 : decode cL_law 663 = .ok (.iconst 2, 1) := by decide +kernel
theorem dL_law_664 : decode cL_law 664 = .ok (.iadd, 1) := by decide +kernel
theorem dL_law_665 : decode cL_law 665 = .ok (.iaload, 1) := by decide +kernel
theorem dL_law_666 : decode cL_law 666 = .ok (.invokevirtual 95, 3) := by decide +kernel
theorem dL_law_669 : decode cL_law 669 = .ok (.if_icmp .eq 232, 3) := by decide +kernel
theorem dL_law_672 : decode cL_law 672 = .ok (.iconst 0, 1) := by decide +kernel
theorem dL_law_673 : decode cL_law 673 = .ok (.ireturn, 1) := by decide +kernel
theorem dL_law_674 : decode cL_law 674 = .ok (.aload_n 1, 1) := by decide +kernel
theorem dL_law_675 : decode cL_law 675 = .ok (.aload_n 0, 1) := by decide +kernel
theorem dL_law_676 : decode cL_law 676 = .ok (.iload_n 3, 1) := by decide +kernel
theorem dL_law_677 : decode cL_law 677 = .ok (.iconst 1, 1) := by decide +kernel
theorem dL_law_678 : decode cL_law 678 = .ok (.iadd, 1) := by decide +kernel
theorem dL_law_679 : decode cL_law 679 = .ok (.iaload, 1) := by decide +kernel
theorem dL_law_680 : decode cL_law 680 = .ok (.aload_n 0, 1) := by decide +kernel
theorem dL_law_681 : decode cL_law 681 = .ok (.iload_n 3, 1) := by decide +kernel
theorem dL_law_682 : decode cL_law 682 = .ok (.iconst 2, 1) := by decide +kernel
theorem dL_law_683 : decode cL_law 683 = .ok (.iadd, 1) := by decide +kernel
theorem dL_law_684 : decode cL_law 684 = .ok (.iaload, 1) := by decide +kernel
theorem dL_law_685 : decode cL_law 685 = .ok (.aload_n 0, 1) := by decide +kernel
theorem dL_law_686 : decode cL_law 686 = .ok (.iload_n 3, 1) := by decide +kernel
theorem dL_law_687 : decode cL_law 687 = .ok (.iconst 3, 1) := by decide +kernel
theorem dL_law_688 : decode cL_law 688 = .ok (.iadd, 1) := by decide +kernel
theorem dL_law_689 : decode cL_law 689 = .ok (.iaload, 1) := by decide +kernel
theorem dL_law_690 : decode cL_law 690 = .ok (.invokevirtual 96, 3) := by decide +kernel
theorem dL_law_693 : decode cL_law 693 = .ok (.aload_n 2, 1) := by decide +kernel
theorem dL_law_694 : decode cL_law 694 = .ok (.aload_n 0, 1) := by decide +kernel
theorem dL_law_695 : decode cL_law 695 = .ok (.iload_n 3, 1) := by decide +kernel
theorem dL_law_696 : decode cL_law 696 = .ok (.iconst 1, 1) := by decide +kernel
theorem dL_law_697 : decode cL_law 697 = .ok (.iadd, 1) := by decide +kernel
theorem dL_law_698 : decode cL_law 698 = .ok (.iaload, 1) := by decide +kernel
theorem dL_law_699 : decode cL_law 699 = .ok (.aload_n 0, 1) := by decide +kernel
theorem dL_law_700 : decode cL_law 700 = .ok (.iload_n 3, 1) := by decide +kernel
theorem dL_law_701 : decode cL_law 701 = .ok (.iconst 2, 1) := by decide +kernel
theorem dL_law_702 : decode cL_law 702 = .ok (.iadd, 1) := by decide +kernel
theorem dL_law_703 : decode cL_law 703 = .ok (.iaload, 1) := by decide +kernel
theorem dL_law_704 : decode cL_law 704 = .ok (.aload_n 0, 1) := by decide +kernel
theorem dL_law_705 : decode cL_law 705 = .ok (.iload_n 3, 1) := by decide +kernel
theorem dL_law_706 : decode cL_law 706 = .ok (.iconst 3, 1) := by decide +kernel
theorem dL_law_707 : decode cL_law 707 = .ok (.iadd, 1) := by decide +kernel
theorem dL_law_708 : decode cL_law 708 = .ok (.iaload, 1) := by decide +kernel
theorem dL_law_709 : decode cL_law 709 = .ok (.invokevirtual 100, 3) := by decide +kernel
theorem dL_law_712 : decode cL_law 712 = .ok (.if_icmp .eq 189, 3) := by decide +kernel
theorem dL_law_715 : decode cL_law 715 = .ok (.iconst 0, 1) := by decide +kernel
theorem dL_law_716 : decode cL_law 716 = .ok (.ireturn, 1) := by decide +kernel
theorem dL_law_717 : decode cL_law 717 = .ok (.aload_n 1, 1) := by decide +kernel
end
section
theorem dL_law_718 : decode cL_law 718 = .ok (.aload_n 0, 1) := by decide +kernel
theorem dL_law_719 : decode cL_law 719 = .ok (.iload_n 3, 1) := by decide +kernel
theorem dL_law_720 : decode cL_law 720 = .ok (.iconst 1, 1) := by decide +kernel
theorem dL_law_721 : decode cL_law 721 = .ok (.iadd, 1) := by decide +kernel
theorem dL_law_722 : decode cL_law 722 = .ok (.iaload, 1) := by decide +kernel
theorem dL_law_723 : decode cL_law 723 = .ok (.aload_n 0, 1) := by decide +kernel
theorem dL_law_724 : decode cL_law 724 = .ok (.iload_n 3, 1) := by decide +kernel
theorem dL_law_725 : decode cL_law 725 = .ok (.iconst 2, 1) := by decide +kernel
theorem dL_law_726 : decode cL_law 726 = .ok (.iadd, 1) := by decide +kernel
theorem dL_law_727 : decode cL_law 727 = .ok (.iaload, 1) := by decide +kernel
theorem dL_law_728 : decode cL_law 728 = .ok (.invokevirtual 101, 3) := by decide +kernel
theorem dL_law_731 : decode cL_law 731 = .ok (.aload_n 2, 1) := by decide +kernel
theorem dL_law_732 : decode cL_law 732 = .ok (.aload_n 0, 1) := by decide +kernel
theorem dL_law_733 : decode cL_law 733 = .ok (.iload_n 3, 1) := by decide +kernel
theorem dL_law_734 : decode cL_law 734 = .ok (.iconst 1, 1) := by decide +kernel
theorem dL_law_735 : decode cL_law 735 = .ok (.iadd, 1) := by decide +kernel
theorem dL_law_736 : decode cL_law 736 = .ok (.iaload, 1) := by decide +kernel
theorem dL_law_737 : decode cL_law 737 = .ok (.aload_n 0, 1) := by decide +kernel
theorem dL_law_738 : decode cL_law 738 = .ok (.iload_n 3, 1) := by decide +kernel
theorem dL_law_739 : decode cL_law 739 = .ok (.iconst 2, 1) := by decide +kernel
theorem dL_law_740 : decode cL_law 740 = .ok (.iadd, 1) := by decide +kernel
theorem dL_law_741 : decode cL_law 741 = .ok (.iaload, 1) := by decide +kernel
theorem dL_law_742 : decode cL_law 742 = .ok (.invokevirtual 104, 3) := by decide +kernel
theorem dL_law_745 : decode cL_law 745 = .ok (.if_icmp .eq 156, 3) := by decide +kernel
theorem dL_law_748 : decode cL_law 748 = .ok (.iconst 0, 1) := by decide +kernel
theorem dL_law_749 : decode cL_law 749 = .ok (.ireturn, 1) := by decide +kernel
theorem dL_law_750 : decode cL_law 750 = .ok (.aload_n 1, 1) := by decide +kernel
theorem dL_law_751 : decode cL_law 751 = .ok (.aload_n 0, 1) := by decide +kernel
theorem dL_law_752 : decode cL_law 752 = .ok (.iload_n 3, 1) := by decide +kernel
theorem dL_law_753 : decode cL_law 753 = .ok (.iconst 1, 1) := by decide +kernel
theorem dL_law_754 : decode cL_law 754 = .ok (.iadd, 1) := by decide +kernel
theorem dL_law_755 : decode cL_law 755 = .ok (.iaload, 1) := by decide +kernel
theorem dL_law_756 : decode cL_law 756 = .ok (.invokevirtual 105, 3) := by decide +kernel
theorem dL_law_759 : decode cL_law 759 = .ok (.aload_n 2, 1) := by decide +kernel
theorem dL_law_760 : decode cL_law 760 = .ok (.aload_n 0, 1) := by decide +kernel
theorem dL_law_761 : decode cL_law 761 = .ok (.iload_n 3, 1) := by decide +kernel
theorem dL_law_762 : decode cL_law 762 = .ok (.iconst 1, 1) := by decide +kernel
theorem dL_law_763 : decode cL_law 763 = .ok (.iadd, 1) := by decide +kernel
theorem dL_law_764 : decode cL_law 764 = .ok (.iaload, 1) := by decide +kernel
theorem dL_law_765 : decode cL_law 765 = .ok (.invokevirtual 108, 3) := by decide +kernel
theorem dL_law_768 : decode cL_law 768 = .ok (.if_icmp .eq 133, 3) := by decide +kernel
theorem dL_law_771 : decode cL_law 771 = .ok (.iconst 0, 1) := by decide +kernel
theorem dL_law_772 : decode cL_law 772 = .ok (.ireturn, 1) := by decide +kernel
theorem dL_law_773 : decode cL_law 773 = .ok (.aload_n 1, 1) := by decide +kernel
theorem dL_law_774 : decode cL_law 774 = .ok (.aload_n 0, 1) := by decide +kernel
theorem dL_law_775 : decode cL_law 775 = .ok (.iload_n 3, 1) := by decide +kernel
theorem dL_law_776 : decode cL_law 776 = .ok (.iconst 1, 1) := by decide +kernel
theorem dL_law_777 : decode cL_law 777 = .ok (.iadd, 1) := by decide +kernel
theorem dL_law_778 : decode cL_law 778 = .ok (.iaload, 1) := by decide +kernel
theorem dL_law_779 : decode cL_law 779 = .ok (.aload_n 0, 1) := by decide +kernel
theorem dL_law_780 : decode cL_law 780 = .ok (.iload_n 3, 1) := by decide +kernel
theorem dL_law_781 : decode cL_law 781 = .ok (.iconst 2, 1) := by decide +kernel
theorem dL_law_782 : decode cL_law 782 = .ok (.iadd, 1) := by decide +kernel
theorem dL_law_783 : decode cL_law 783 = .ok (.iaload, 1) := by decide +kernel
theorem dL_law_784 : decode cL_law 784 = .ok (.invokevirtual 109, 3) := by decide +kernel
theorem dL_law_787 : decode cL_law 787 = .ok (.aload_n 2, 1) := by decide +kernel
theorem dL_law_788 : decode cL_law 788 = .ok (.aload_n 0, 1) := by decide +kernel
theorem dL_law_789 : decode cL_law 789 = .ok (.iload_n 3, 1) := by decide +kernel
theorem dL_law_790 : decode cL_law 790 = .ok (.iconst 1, 1) := by decide +kernel
theorem dL_law_791 : decode cL_law 791 = .ok (.iadd, 1) := by decide +kernel
theorem dL_law_792 : decode cL_law 792 = .ok (.iaload, 1) := by decide +kernel
theorem dL_law_793 : decode cL_law 793 = .ok (.aload_n 0, 1) := by decide +kernel
theorem dL_law_794 : decode cL_law 794 = .ok (.iload_n 3, 1) := by decide +kernel
theorem dL_law_795 : decode cL_law 795 = .ok (.iconst 2, 1) := by decide +kernel
theorem dL_law_796 : decode cL_law 796 = .ok (.iadd, 1) := by decide +kernel
theorem dL_law_797 : decode cL_law 797 = .ok (.iaload, 1) := by decide +kernel
theorem dL_law_798 : decode cL_law 798 = .ok (.invokevirtual 112, 3) := by decide +kernel
theorem dL_law_801 : decode cL_law 801 = .ok (.if_icmp .eq 100, 3) := by decide +kernel
theorem dL_law_804 : decode cL_law 804 = .ok (.iconst 0, 1) := by decide +kernel
theorem dL_law_805 : decode cL_law 805 = .ok (.ireturn, 1) := by decide +kernel
theorem dL_law_806 : decode cL_law 806 = .ok (.aload_n 1, 1) := by decide +kernel
theorem dL_law_807 : decode cL_law 807 = .ok (.invokevirtual 113, 3) := by decide +kernel
theorem dL_law_810 : decode cL_law 810 = .ok (.aload_n 2, 1) := by decide +kernel
theorem dL_law_811 : decode cL_law 811 = .ok (.invokevirtual 116, 3) := by decide +kernel
theorem dL_law_814 : decode cL_law 814 = .ok (.if_icmp .eq 87, 3) := by decide +kernel
theorem dL_law_817 : decode cL_law 817 = .ok (.iconst 0, 1) := by decide +kernel
theorem dL_law_818 : decode cL_law 818 = .ok (.ireturn, 1) := by decide +kernel
theorem dL_law_819 : decode cL_law 819 = .ok (.aload_n 1, 1) := by decide +kernel
theorem dL_law_820 : decode cL_law 820 = .ok (.aload_n 0, 1) := by decide +kernel
theorem dL_law_821 : decode cL_law 821 = .ok (.iload_n 3, 1) := by decide +kernel
theorem dL_law_822 : decode cL_law 822 = .ok (.iconst 1, 1) := by decide +kernel
theorem dL_law_823 : decode cL_law 823 = .ok (.iadd, 1) := by decide +kernel
theorem dL_law_824 : decode cL_law 824 = .ok (.iaload, 1) := by decide +kernel
theorem dL_law_825 : decode cL_law 825 = .ok (.aload_n 0, 1) := by decide +kernel
theorem dL_law_826 : decode cL_law 826 = .ok (.iload_n 3, 1) := by decide +kernel
theorem dL_law_827 : decode cL_law 827 = .ok (.iconst 2, 1) := by decide +kernel
theorem dL_law_828 : decode cL_law 828 = .ok (.iadd, 1) := by decide +kernel
theorem dL_law_829 : decode cL_law 829 = .ok (.iaload, 1) := by decide +kernel
theorem dL_law_830 : decode cL_law 830 = .ok (.invokevirtual 117, 3) := by decide +kernel
theorem dL_law_833 : decode cL_law 833 = .ok (.aload_n 2, 1) := by decide +kernel
theorem dL_law_834 : decode cL_law 834 = .ok (.aload_n 0, 1) := by decide +kernel
theorem dL_law_835 : decode cL_law 835 = .ok (.iload_n 3, 1) := by decide +kernel
theorem dL_law_836 : decode cL_law 836 = .ok (.iconst 1, 1) := by decide +kernel
theorem dL_law_837 : decode cL_law 837 = .ok (.iadd, 1) := by decide +kernel
theorem dL_law_838 : decode cL_law 838 = .ok (.iaload, 1) := by decide +kernel
theorem dL_law_839 : decode cL_law 839 = .ok (.aload_n 0, 1) := by decide +kernel
theorem dL_law_840 : decode cL_law 840 = .ok (.iload_n 3, 1) := by decide +kernel
theorem dL_law_841 : decode cL_law 841 = .ok (.iconst 2, 1) := by decide +kernel
theorem dL_law_842 : decode cL_law 842 = .ok (.iadd, 1) := by decide +kernel
theorem dL_law_843 : decode cL_law 843 = .ok (.iaload, 1) := by decide +kernel
theorem dL_law_844 : decode cL_law 844 = .ok (.invokevirtual 120, 3) := by decide +kernel
theorem dL_law_847 : decode cL_law 847 = .ok (.if_icmp .eq 54, 3) := by decide +kernel
theorem dL_law_850 : decode cL_law 850 = .ok (.iconst 0, 1) := by decide +kernel
theorem dL_law_851 : decode cL_law 851 = .ok (.ireturn, 1) := by decide +kernel
theorem dL_law_852 : decode cL_law 852 = .ok (.aload_n 1, 1) := by decide +kernel
theorem dL_law_853 : decode cL_law 853 = .ok (.invokevirtual 121, 3) := by decide +kernel
theorem dL_law_856 : decode cL_law 856 = .ok (.aload_n 2, 1) := by decide +kernel
theorem dL_law_857 : decode cL_law 857 = .ok (.invokevirtual 124, 3) := by decide +kernel
theorem dL_law_860 : decode cL_law 860 = .ok (.if_icmp .eq 41, 3) := by decide +kernel
theorem dL_law_863 : decode cL_law 863 = .ok (.iconst 0, 1) := by decide +kernel
theorem dL_law_864 : decode cL_law 864 = .ok (.ireturn, 1) := by decide +kernel
theorem dL_law_865 : decode cL_law 865 = .ok (.aload_n 1, 1) := by decide +kernel
theorem dL_law_866 : decode cL_law 866 = .ok (.invokevirtual 125, 3) := by decide +kernel
theorem dL_law_869 : decode cL_law 869 = .ok (.aload_n 2, 1) := by decide +kernel
theorem dL_law_870 : decode cL_law 870 = .ok (.invokevirtual 128, 3) := by decide +kernel
theorem dL_law_873 : decode cL_law 873 = .ok (.if_icmp .eq 28, 3) := by decide +kernel
theorem dL_law_876 : decode cL_law 876 = .ok (.iconst 0, 1) := by decide +kernel
theorem dL_law_877 : decode cL_law 877 = .ok (.ireturn, 1) := by decide +kernel
theorem dL_law_878 : decode cL_law 878 = .ok (.aload_n 1, 1) := by decide +kernel
theorem dL_law_879 : decode cL_law 879 = .ok (.aload_n 0, 1) := by decide +kernel
theorem dL_law_880 : decode cL_law 880 = .ok (.iload_n 3, 1) := by decide +kernel
theorem dL_law_881 : decode cL_law 881 = .ok (.iconst 1, 1) := by decide +kernel
theorem dL_law_882 : decode cL_law 882 = .ok (.iadd, 1) := by decide +kernel
theorem dL_law_883 : decode cL_law 883 = .ok (.iaload, 1) := by decide +kernel
theorem dL_law_884 : decode cL_law 884 = .ok (.invokevirtual 129, 3) := by decide +kernel
theorem dL_law_887 : decode cL_law 887 = .ok (.aload_n 2, 1) := by decide +kernel
theorem dL_law_888 : decode cL_law 888 = .ok (.aload_n 0, 1) := by decide +kernel
theorem dL_law_889 : decode cL_law 889 = .ok (.iload_n 3, 1) := by decide +kernel
theorem dL_law_890 : decode cL_law 890 = .ok (.iconst 1, 1) := by decide +kernel
theorem dL_law_891 : decode cL_law 891 = .ok (.iadd, 1) := by decide +kernel
theorem dL_law_892 : decode cL_law 892 = .ok (.iaload, 1) := by decide +kernel
theorem dL_law_893 : decode cL_law 893 = .ok (.invokevirtual 132, 3) := by decide +kernel
theorem dL_law_896 : decode cL_law 896 = .ok (.if_icmp .eq 5, 3) := by decide +kernel
theorem dL_law_899 : decode cL_law 899 = .ok (.iconst 0, 1) := by decide +kernel
theorem dL_law_900 : decode cL_law 900 = .ok (.ireturn, 1) := by decide +kernel
theorem dL_law_901 : decode cL_law 901 = .ok (.iinc 3 4, 3) := by decide +kernel
theorem dL_law_904 : decode cL_law 904 = .ok (.goto (-886), 3) := by decide +kernel
theorem dL_law_907 : decode cL_law 907 = .ok (.iconst 1, 1) := by decide +kernel
theorem dL_law_908 : decode cL_law 908 = .ok (.ireturn, 1) := by decide +kernel
end
section
/-! A SMALL LOGIC OVER W: one world of NO cells; what they hold of whole numbers is a function of place and slot -/
abbrev Sg : Type := Nat → Nat → Int32
abbrev Sh : Type := (Bool × Nat) ⊕ (Nat × List (Option Nat))
abbrev Gx : Type := va_G × ClassId × ClassId × (Nat → Nat)
def NO : Nat := 57
def twF (t : Nat) : List (Option Nat) := [some (t + 1), some (t + 2), some (t + 3), some (t + 4), some (t + 5), some (t + 6), some (t + 7), some (t + 8), none, none, none, none]
def twL (t : Nat) : List Sh := [.inr (1, twF t), .inl (false, 6), .inl (false, 6), .inl (false, 6), .inl (false, 6), .inl (false, 6), .inl (false, 6), .inl (false, 6), .inl (false, 6)]
def pbF : List (Option Nat) := [some 1, some 10, some 19, some 28, some 37, some 39, some 40, some 41, some 42, none, none]
def mdF : List (Option Nat) := [some 44, some 45, some 46, some 47, some 48, none, none, none, some 49, some 50, none, none, some 51, some 52, some 53, some 54, some 55, none, some 56, none]
def shL : List Sh := [.inr (2, pbF)] ++ twL 1 ++ twL 10 ++ twL 19 ++ twL 28 ++ [.inr (0, [some 38, none]), .inl (true, 64), .inl (false, 6), .inl (false, 6), .inl (false, 6), .inl (false, 7)] ++
  [.inr (3, mdF), .inl (false, 7), .inl (false, 51), .inl (false, 51), .inl (false, 51), .inl (false, 51), .inl (false, 64), .inl (false, 4), .inl (false, 7), .inl (false, 51), .inl (false, 41), .inl (false, 6), .inl (false, 6), .inl (false, 6)]
def shp (o : Nat) : Sh := shL.getD o (.inl (false, 0))
def abv (ad : Nat → Nat) (v : Value) : Value := match v with
  | .ref o => .ref (ad o)
  | w => w
theorem abv_cat {ad : Nat → Nat} {v : Value} : (abv ad v).category = v.category := by cases v <;> rfl
def fvs (ad : Nat → Nat) (f : Nat → Int32) : Nat → List (Option Nat) → List Value
  | _, [] => []
  | k, none :: r => .int (f k) :: fvs ad f (k + 1) r
  | k, some j :: r => .ref (ad j) :: fvs ad f (k + 1) r
theorem fvs_at (ad : Nat → Nat) (f : Nat → Int32) : ∀ (ks : List (Option Nat)) (k i : Nat), (fvs ad f k ks)[i]? = (ks[i]?).map (fun z => match z with | none => .int (f (k + i)) | some j => .ref (ad j))
  | [], k, i => by simp [fvs]
  | none :: r, k, 0 => by simp [fvs]
  | some j :: r, k, 0 => by simp [fvs]
  | none :: r, k, i + 1 => by
    show (fvs ad f (k + 1) r)[i]? = _
    rw [fvs_at ad f r (k + 1) i, show k + 1 + i = k + (i + 1) from by omega]
    simp
  | some j :: r, k, i + 1 => by
    show (fvs ad f (k + 1) r)[i]? = _
    rw [fvs_at ad f r (k + 1) i, show k + 1 + i = k + (i + 1) from by omega]
    simp
theorem fvs_len (ad : Nat → Nat) (f : Nat → Int32) : ∀ (ks : List (Option Nat)) (k : Nat), (fvs ad f k ks).length = ks.length
  | [], k => rfl
  | none :: r, k => by show (fvs ad f (k + 1) r).length + 1 = _; rw [fvs_len ad f r (k + 1)]; rfl
  | some j :: r, k => by show (fvs ad f (k + 1) r).length + 1 = _; rw [fvs_len ad f r (k + 1)]; rfl
theorem fvs_set (ad : Nat → Nat) (f : Nat → Int32) {ks : List (Option Nat)} {i : Nat} (h : ks[i]? = some none) (x : Int32) : (fvs ad f 0 ks).set i (.int x) = fvs ad (upd f i x) 0 ks := by
  have hi : i < ks.length := (List.getElem?_eq_some_iff.mp h).1
  apply List.ext_getElem?
  intro j
  by_cases hj : j = i
  · subst hj
    rw [List.getElem?_set_self (by rw [fvs_len]; exact hi), fvs_at, h]
    simp [upd]
  · rw [List.getElem?_set_ne (Ne.symm hj), fvs_at, fvs_at]
    cases hk : ks[j]? with
    | none => rfl
    | some z => cases z with
      | none => simp [upd, hj]
      | some q => rfl
def ent (G : Gx) (σ : Sg) (o : Nat) : va_E := match shp o with
  | .inl (b, n) => .inl (if b = true then G.2.2.1 else G.2.1, n, .inl (σ o))
  | .inr (ci, ks) => .inr (ci, fvs G.2.2.2 (σ o) 0 ks)
theorem ent_arr {G : Gx} {σ : Sg} {o n : Nat} {b : Bool} (h : shp o = .inl (b, n)) : ent G σ o = .inl (if b = true then G.2.2.1 else G.2.1, n, .inl (σ o)) := by
  unfold ent; rw [h]
theorem ent_obj {G : Gx} {σ : Sg} {o ci : Nat} {ks : List (Option Nat)} (h : shp o = .inr (ci, ks)) : ent G σ o = .inr (ci, fvs G.2.2.2 (σ o) 0 ks) := by
  unfold ent; rw [h]
theorem ent_eq {G : Gx} {σ τ : Sg} {o : Nat} (h : σ o = τ o) : ent G σ o = ent G τ o := by unfold ent; rw [h]
def world (G : Gx) (σ : Sg) : va_W := (List.range NO).map (fun o => (G.2.2.2 o, ent G σ o))
theorem world_at {G : Gx} {σ : Sg} {o : Nat} (h : o < NO) : (world G σ)[o]? = some (G.2.2.2 o, ent G σ o) := by
  unfold world; rw [List.getElem?_map, List.getElem?_range h]; rfl
theorem world_in {G : Gx} {σ : Sg} {k : Nat} {q : Nat × va_E} (h : (world G σ)[k]? = some q) : k < NO ∧ q = (G.2.2.2 k, ent G σ k) := by
  have hk : k < NO := by
    have := (List.getElem?_eq_some_iff.mp h).1
    simpa [world] using this
  rw [world_at hk] at h
  exact ⟨hk, (Option.some.inj h).symm⟩
def so (σ : Sg) (o : Nat) (f : Nat → Int32) : Sg := fun q => if q = o then f else σ q
def w2 (σ : Sg) (o k : Nat) (x : Int32) : Sg := so σ o (upd (σ o) k x)
theorem so_at {σ : Sg} {o : Nat} {f : Nat → Int32} : so σ o f o = f := by simp [so]
theorem so_ne {σ : Sg} {o q : Nat} {f : Nat → Int32} (h : q ≠ o) : so σ o f q = σ q := by simp [so, h]
theorem w2_at {σ : Sg} {o k : Nat} {x : Int32} : w2 σ o k x o k = x := by simp [w2, so, upd]
theorem w2_ne {σ : Sg} {o q k : Nat} {x : Int32} (h : q ≠ o) : w2 σ o k x q = σ q := by simp [w2, so, h]
theorem w2_nk {σ : Sg} {o k j : Nat} {x : Int32} (h : j ≠ k) : w2 σ o k x o j = σ o j := by simp [w2, so, upd, h]
theorem world_set {G : Gx} {σ : Sg} {o : Nat} {f : Nat → Int32} {e : va_E} (ho : o < NO) (he : ent G (so σ o f) o = e) : (world G σ).set o (G.2.2.2 o, e) = world G (so σ o f) := by
  apply List.ext_getElem?
  intro k
  by_cases hk : k = o
  · subst hk
    rw [List.getElem?_set_self (by simp [world]; exact ho), world_at ho, he]
  · rw [List.getElem?_set_ne (Ne.symm hk)]
    by_cases hn : k < NO
    · rw [world_at hn, world_at hn, ent_eq (σ := so σ o f) (τ := σ) (so_ne hk)]
    · rw [List.getElem?_eq_none (by simp [world]; omega), List.getElem?_eq_none (by simp [world]; omega)]
theorem world_D {G : Gx} {σ τ : Sg} {A : Nat → Prop} (h : va_D A (world G σ)) : va_D A (world G τ) := by
  refine ⟨fun i j p q hi hj e => ?_, fun k q hk => ?_⟩
  · obtain ⟨h1, rfl⟩ := world_in hi
    obtain ⟨h2, rfl⟩ := world_in hj
    exact h.1 i j _ _ (world_at h1) (world_at h2) e
  · obtain ⟨h1, rfl⟩ := world_in hk
    have h2 := h.2 k _ (world_at (σ := σ) h1)
    exact h2
/-! the words -/
def WL : List Cond := lw_tbl.filter goodWord
theorem wl_of {w : Cond} (i : Nat) (h : lw_tbl[i]? = some w) (hg : goodWord w = true) : w ∈ WL := List.mem_filter.mpr ⟨List.mem_of_getElem? h, hg⟩
theorem wl_in {w : Cond} (h : w ∈ WL) : w ∈ lw_tbl := (List.mem_filter.mp h).1
theorem wl_good {big : List Cond} {ws : List Cond} (hb : ∀ w ∈ WL, w ∈ big) (h : ∀ w ∈ ws, w ∈ WL) : GoodIn big ws := fun w hw => ⟨hb w (h w hw), good_of_word (List.mem_filter.mp (h w hw)).2⟩
/-- a call's words: the link, the callee's kind and its code -/
def LkV (own : String) (idx : Nat) (y : MethodName) (cc : ByteArray) (nL : Nat) (ret : Option FieldType) (n : Nat) : Prop :=
  Cond.methodLink own idx y ∈ WL ∧ Cond.instanceMethod y ∈ WL ∧ Cond.selects y.cls y y ∈ WL ∧ Cond.initialized y.cls ∈ WL ∧ Cond.code y cc nL ret ∈ WL ∧ nL ≤ 20 ∧
  (y.cls ≠ "java/lang/invoke/MethodHandle" ∧ y.cls ≠ "java/lang/invoke/VarHandle" ∧ (parseMethodDescriptor y.desc).map (fun d => d.parameters.length) = some n)
def LkS (own : String) (idx : Nat) (y : MethodName) (cc : ByteArray) (nL : Nat) (ret : Option FieldType) (n : Nat) : Prop :=
  Cond.methodLink own idx y ∈ WL ∧ Cond.static y ∈ WL ∧ Cond.initialized y.cls ∈ WL ∧ Cond.code y cc nL ret ∈ WL ∧ nL ≤ 20 ∧
  (y.cls ≠ "java/lang/invoke/MethodHandle" ∧ y.cls ≠ "java/lang/invoke/VarHandle" ∧ (parseMethodDescriptor y.desc).map (fun d => d.parameters.length) = some n)
def FLk (own : String) (idx ci k : Nat) : Prop := ∃ (C : String) (T : u_T) (N : Nat), vwCl[ci]? = some (C, T, N) ∧ k < N ∧ (∀ w ∈ u_ws C T N, w ∈ WL) ∧ Cond.fieldLink own idx (T k).1 (T k).2.1 (T k).2.2.1 ∈ WL
def FPk (own : String) (idx ci k : Nat) (ty : FieldType) : Prop := ∃ (C : String) (T : u_T) (N : Nat), vwCl[ci]? = some (C, T, N) ∧ k < N ∧ (∀ w ∈ u_ws C T N, w ∈ WL) ∧ Cond.fieldLink own idx (T k).1 (T k).2.1 (T k).2.2.1 ∈ WL ∧
  (T k).2.2.2 = false ∧ parseFieldDescriptor (T k).2.2.1 = some ty ∧ (∃ ty0 : Nat → FieldType, ∀ k, k < N → parseFieldDescriptor (T k).2.2.1 = some (ty0 k)) ∧ (∀ a, a < N → ∀ b, b < N → a ≠ b → (T a).2.1 ≠ (T b).2.1)
def nestL : List (Nat × String × String × String) := [(73, RX1, "kind", "[I"), (76, RX1, "mud", "[I"), (79, RX1, "wear", "[I"), (82, RX1, "hands", "[I"), (85, RX1, "pence", "[I"), (88, RX1, "mends", "[I"), (91, RX1, "mended", "[I"), (120, RX1, "count", "I"), (97, RX1, "year", "I"), (132, RX1, "lazed", "I"), (61, RX0, "length", "I")]
def FLn (own : String) (idx ci k : Nat) : Prop := own = RX2 ∧ ∃ (C : String) (T : u_T) (N : Nat), vwCl[ci]? = some (C, T, N) ∧ k < N ∧ (∀ w ∈ u_ws C T N, w ∈ WL) ∧ (idx, (T k).1, (T k).2.1, (T k).2.2.1) ∈ nestL
def FPn (own : String) (idx ci k : Nat) (ty : FieldType) : Prop := own = RX2 ∧ ∃ (C : String) (T : u_T) (N : Nat), vwCl[ci]? = some (C, T, N) ∧ k < N ∧ (∀ w ∈ u_ws C T N, w ∈ WL) ∧ (idx, (T k).1, (T k).2.1, (T k).2.2.1) ∈ nestL ∧
  (T k).2.2.2 = false ∧ parseFieldDescriptor (T k).2.2.1 = some ty ∧ (∃ ty0 : Nat → FieldType, ∀ k, k < N → parseFieldDescriptor (T k).2.2.1 = some (ty0 k)) ∧ (∀ a, a < N → ∀ b, b < N → a ≠ b → (T a).2.1 ≠ (T b).2.1)
def LkM (own : String) (idx : Nat) : Prop := Cond.methodLink own idx Lib.Math.min.name ∈ WL ∧ Cond.static Lib.Math.min.name ∈ WL ∧ Cond.initialized "java/lang/Math" ∈ WL ∧ Cond.code Lib.Math.min.name Lib.Math.min.code 2 (some .int) ∈ WL
def LkX (own : String) (idx : Nat) : Prop := Cond.methodLink own idx Lib.Math.max.name ∈ WL ∧ Cond.static Lib.Math.max.name ∈ WL ∧ Cond.initialized "java/lang/Math" ∈ WL ∧ Cond.code Lib.Math.max.name Lib.Math.max.code 2 (some .int) ∈ WL
def LkA (own : String) (idx : Nat) : Prop := Cond.methodLink own idx arraycopyName ∈ WL ∧ Cond.native arraycopyName ∈ WL ∧ Cond.static arraycopyName ∈ WL ∧ Cond.initialized "java/lang/System" ∈ WL
end
section
/-! the links' words, by their places in the tables -/
set_option maxRecDepth 20000 in
theorem wX0 : ∀ w ∈ u_ws RX0 TX0 2, w ∈ WL := by
  show ∀ w ∈ [u_lay RX0 TX0 0, u_lay RX0 TX0 1], w ∈ WL
  exact List.forall_mem_cons.mpr ⟨wl_of 123 rfl rfl, List.forall_mem_cons.mpr ⟨wl_of 125 rfl rfl, fun _ h9 => absurd h9 List.not_mem_nil⟩⟩
set_option maxRecDepth 20000 in
theorem wX1 : ∀ w ∈ u_ws RX1 TX1 12, w ∈ WL := by
  show ∀ w ∈ [u_lay RX1 TX1 0, u_lay RX1 TX1 1, u_lay RX1 TX1 2, u_lay RX1 TX1 3, u_lay RX1 TX1 4, u_lay RX1 TX1 5, u_lay RX1 TX1 6, u_lay RX1 TX1 7, u_lay RX1 TX1 8, u_lay RX1 TX1 9, u_lay RX1 TX1 10, u_lay RX1 TX1 11], w ∈ WL
  exact List.forall_mem_cons.mpr ⟨wl_of 88 rfl rfl, List.forall_mem_cons.mpr ⟨wl_of 90 rfl rfl, List.forall_mem_cons.mpr ⟨wl_of 92 rfl rfl, List.forall_mem_cons.mpr ⟨wl_of 94 rfl rfl, List.forall_mem_cons.mpr ⟨wl_of 96 rfl rfl, List.forall_mem_cons.mpr ⟨wl_of 98 rfl rfl, List.forall_mem_cons.mpr ⟨wl_of 100 rfl rfl, List.forall_mem_cons.mpr ⟨wl_of 102 rfl rfl, List.forall_mem_cons.mpr ⟨wl_of 104 rfl rfl, List.forall_mem_cons.mpr ⟨wl_of 106 rfl rfl, List.forall_mem_cons.mpr ⟨wl_of 108 rfl rfl, List.forall_mem_cons.mpr ⟨wl_of 110 rfl rfl, fun _ h9 => absurd h9 List.not_mem_nil⟩⟩⟩⟩⟩⟩⟩⟩⟩⟩⟩⟩
set_option maxRecDepth 20000 in
theorem wX2 : ∀ w ∈ u_ws RX2 TX2 11, w ∈ WL := by
  show ∀ w ∈ [u_lay RX2 TX2 0, u_lay RX2 TX2 1, u_lay RX2 TX2 2, u_lay RX2 TX2 3, u_lay RX2 TX2 4, u_lay RX2 TX2 5, u_lay RX2 TX2 6, u_lay RX2 TX2 7, u_lay RX2 TX2 8, u_lay RX2 TX2 9, u_lay RX2 TX2 10], w ∈ WL
  exact List.forall_mem_cons.mpr ⟨wl_of 140 rfl rfl, List.forall_mem_cons.mpr ⟨wl_of 142 rfl rfl, List.forall_mem_cons.mpr ⟨wl_of 144 rfl rfl, List.forall_mem_cons.mpr ⟨wl_of 146 rfl rfl, List.forall_mem_cons.mpr ⟨wl_of 148 rfl rfl, List.forall_mem_cons.mpr ⟨wl_of 150 rfl rfl, List.forall_mem_cons.mpr ⟨wl_of 152 rfl rfl, List.forall_mem_cons.mpr ⟨wl_of 154 rfl rfl, List.forall_mem_cons.mpr ⟨wl_of 156 rfl rfl, List.forall_mem_cons.mpr ⟨wl_of 158 rfl rfl, List.forall_mem_cons.mpr ⟨wl_of 160 rfl rfl, fun _ h9 => absurd h9 List.not_mem_nil⟩⟩⟩⟩⟩⟩⟩⟩⟩⟩⟩
set_option maxRecDepth 20000 in
theorem wX3 : ∀ w ∈ u_ws RX3 TX3 20, w ∈ WL := by
  show ∀ w ∈ [u_lay RX3 TX3 0, u_lay RX3 TX3 1, u_lay RX3 TX3 2, u_lay RX3 TX3 3, u_lay RX3 TX3 4, u_lay RX3 TX3 5, u_lay RX3 TX3 6, u_lay RX3 TX3 7, u_lay RX3 TX3 8, u_lay RX3 TX3 9, u_lay RX3 TX3 10, u_lay RX3 TX3 11, u_lay RX3 TX3 12, u_lay RX3 TX3 13, u_lay RX3 TX3 14, u_lay RX3 TX3 15, u_lay RX3 TX3 16, u_lay RX3 TX3 17, u_lay RX3 TX3 18, u_lay RX3 TX3 19], w ∈ WL
  exact List.forall_mem_cons.mpr ⟨wl_of 575 rfl rfl, List.forall_mem_cons.mpr ⟨wl_of 577 rfl rfl, List.forall_mem_cons.mpr ⟨wl_of 579 rfl rfl, List.forall_mem_cons.mpr ⟨wl_of 581 rfl rfl, List.forall_mem_cons.mpr ⟨wl_of 583 rfl rfl, List.forall_mem_cons.mpr ⟨wl_of 585 rfl rfl, List.forall_mem_cons.mpr ⟨wl_of 587 rfl rfl, List.forall_mem_cons.mpr ⟨wl_of 589 rfl rfl, List.forall_mem_cons.mpr ⟨wl_of 591 rfl rfl, List.forall_mem_cons.mpr ⟨wl_of 593 rfl rfl, List.forall_mem_cons.mpr ⟨wl_of 595 rfl rfl, List.forall_mem_cons.mpr ⟨wl_of 597 rfl rfl, List.forall_mem_cons.mpr ⟨wl_of 599 rfl rfl, List.forall_mem_cons.mpr ⟨wl_of 601 rfl rfl, List.forall_mem_cons.mpr ⟨wl_of 603 rfl rfl, List.forall_mem_cons.mpr ⟨wl_of 605 rfl rfl, List.forall_mem_cons.mpr ⟨wl_of 607 rfl rfl, List.forall_mem_cons.mpr ⟨wl_of 609 rfl rfl, List.forall_mem_cons.mpr ⟨wl_of 611 rfl rfl, List.forall_mem_cons.mpr ⟨wl_of 613 rfl rfl, fun _ h9 => absurd h9 List.not_mem_nil⟩⟩⟩⟩⟩⟩⟩⟩⟩⟩⟩⟩⟩⟩⟩⟩⟩⟩⟩⟩
set_option maxRecDepth 20000 in
theorem kc_L_100 : LkV RL 100 yX3_putIn cX3_putIn 7 (some .int) 3 := ⟨wl_of 820 rfl rfl, wl_of 821 rfl rfl, wl_of 822 rfl rfl, wl_of 44 rfl rfl, wl_of 823 rfl rfl, by decide, by decide +kernel⟩
set_option maxRecDepth 20000 in
theorem kc_L_101 : LkV RL 101 yX2_takeOut cX2_takeOut 5 (some .int) 2 := ⟨wl_of 500 rfl rfl, wl_of 501 rfl rfl, wl_of 502 rfl rfl, wl_of 41 rfl rfl, wl_of 503 rfl rfl, by decide, by decide +kernel⟩
set_option maxRecDepth 20000 in
theorem kc_L_104 : LkV RL 104 yX3_takeOut cX3_takeOut 6 (some .int) 2 := ⟨wl_of 824 rfl rfl, wl_of 825 rfl rfl, wl_of 826 rfl rfl, wl_of 44 rfl rfl, wl_of 827 rfl rfl, by decide, by decide +kernel⟩
set_option maxRecDepth 20000 in
theorem kc_L_105 : LkV RL 105 yX2_row cX2_row 3 (some .int) 1 := ⟨wl_of 509 rfl rfl, wl_of 510 rfl rfl, wl_of 511 rfl rfl, wl_of 41 rfl rfl, wl_of 512 rfl rfl, by decide, by decide +kernel⟩
set_option maxRecDepth 20000 in
theorem kc_L_108 : LkV RL 108 yX3_row cX3_row 3 (some .int) 1 := ⟨wl_of 828 rfl rfl, wl_of 829 rfl rfl, wl_of 830 rfl rfl, wl_of 44 rfl rfl, wl_of 831 rfl rfl, by decide, by decide +kernel⟩
set_option maxRecDepth 20000 in
theorem kc_L_109 : LkV RL 109 yX2_fitting cX2_fitting 6 (some .int) 2 := ⟨wl_of 513 rfl rfl, wl_of 514 rfl rfl, wl_of 515 rfl rfl, wl_of 41 rfl rfl, wl_of 516 rfl rfl, by decide, by decide +kernel⟩
set_option maxRecDepth 20000 in
theorem kc_L_112 : LkV RL 112 yX3_fitting cX3_fitting 6 (some .int) 2 := ⟨wl_of 832 rfl rfl, wl_of 833 rfl rfl, wl_of 834 rfl rfl, wl_of 44 rfl rfl, wl_of 835 rfl rfl, by decide, by decide +kernel⟩
set_option maxRecDepth 20000 in
theorem kc_L_113 : LkV RL 113 yX2_judge cX2_judge 2 (some .int) 0 := ⟨wl_of 522 rfl rfl, wl_of 523 rfl rfl, wl_of 524 rfl rfl, wl_of 41 rfl rfl, wl_of 525 rfl rfl, by decide, by decide +kernel⟩
set_option maxRecDepth 20000 in
theorem kc_L_116 : LkV RL 116 yX3_judge cX3_judge 3 (some .int) 0 := ⟨wl_of 840 rfl rfl, wl_of 841 rfl rfl, wl_of 842 rfl rfl, wl_of 44 rfl rfl, wl_of 843 rfl rfl, by decide, by decide +kernel⟩
set_option maxRecDepth 20000 in
theorem kc_L_117 : LkV RL 117 yX2_seeds cX2_seeds 7 (some .int) 2 := ⟨wl_of 526 rfl rfl, wl_of 527 rfl rfl, wl_of 528 rfl rfl, wl_of 41 rfl rfl, wl_of 529 rfl rfl, by decide, by decide +kernel⟩
set_option maxRecDepth 20000 in
theorem kc_L_120 : LkV RL 120 yX3_seeds cX3_seeds 7 (some .int) 2 := ⟨wl_of 844 rfl rfl, wl_of 845 rfl rfl, wl_of 846 rfl rfl, wl_of 44 rfl rfl, wl_of 847 rfl rfl, by decide, by decide +kernel⟩
set_option maxRecDepth 20000 in
theorem kc_L_121 : LkV RL 121 yX2_image cX2_image 1 (some .int) 0 := ⟨wl_of 533 rfl rfl, wl_of 534 rfl rfl, wl_of 535 rfl rfl, wl_of 41 rfl rfl, wl_of 536 rfl rfl, by decide, by decide +kernel⟩
set_option maxRecDepth 20000 in
theorem kc_L_124 : LkV RL 124 yX3_image cX3_image 1 (some .int) 0 := ⟨wl_of 851 rfl rfl, wl_of 852 rfl rfl, wl_of 853 rfl rfl, wl_of 44 rfl rfl, wl_of 854 rfl rfl, by decide, by decide +kernel⟩
set_option maxRecDepth 20000 in
theorem kc_L_125 : LkV RL 125 yX2_on cX2_on 1 (some .int) 0 := ⟨wl_of 537 rfl rfl, wl_of 538 rfl rfl, wl_of 539 rfl rfl, wl_of 41 rfl rfl, wl_of 540 rfl rfl, by decide, by decide +kernel⟩
set_option maxRecDepth 20000 in
theorem kc_L_128 : LkV RL 128 yX3_on cX3_on 1 (some .int) 0 := ⟨wl_of 855 rfl rfl, wl_of 856 rfl rfl, wl_of 857 rfl rfl, wl_of 44 rfl rfl, wl_of 858 rfl rfl, by decide, by decide +kernel⟩
set_option maxRecDepth 20000 in
theorem kc_L_129 : LkV RL 129 yX2_count cX2_count 3 (some .int) 1 := ⟨wl_of 541 rfl rfl, wl_of 542 rfl rfl, wl_of 543 rfl rfl, wl_of 41 rfl rfl, wl_of 544 rfl rfl, by decide, by decide +kernel⟩
set_option maxRecDepth 20000 in
theorem kc_L_13 : LkV RL 13 yX2_letter cX2_letter 3 (some .int) 1 := ⟨wl_of 163 rfl rfl, wl_of 164 rfl rfl, wl_of 165 rfl rfl, wl_of 41 rfl rfl, wl_of 166 rfl rfl, by decide, by decide +kernel⟩
set_option maxRecDepth 20000 in
theorem kc_L_132 : LkV RL 132 yX3_count cX3_count 4 (some .int) 1 := ⟨wl_of 859 rfl rfl, wl_of 860 rfl rfl, wl_of 861 rfl rfl, wl_of 44 rfl rfl, wl_of 862 rfl rfl, by decide, by decide +kernel⟩
set_option maxRecDepth 20000 in
theorem kc_L_17 : LkV RL 17 yX3_letter cX3_letter 3 (some .int) 1 := ⟨wl_of 616 rfl rfl, wl_of 617 rfl rfl, wl_of 618 rfl rfl, wl_of 44 rfl rfl, wl_of 619 rfl rfl, by decide, by decide +kernel⟩
set_option maxRecDepth 20000 in
theorem kc_L_18 : LkV RL 18 yX2_town cX2_town 2 (some .int) 0 := ⟨wl_of 183 rfl rfl, wl_of 184 rfl rfl, wl_of 185 rfl rfl, wl_of 41 rfl rfl, wl_of 186 rfl rfl, by decide, by decide +kernel⟩
set_option maxRecDepth 20000 in
theorem kc_L_22 : LkV RL 22 yX3_town cX3_town 2 (some .int) 0 := ⟨wl_of 627 rfl rfl, wl_of 628 rfl rfl, wl_of 629 rfl rfl, wl_of 44 rfl rfl, wl_of 630 rfl rfl, by decide, by decide +kernel⟩
set_option maxRecDepth 20000 in
theorem kc_L_23 : LkV RL 23 yX2_street cX2_street 3 (some .int) 2 := ⟨wl_of 343 rfl rfl, wl_of 344 rfl rfl, wl_of 345 rfl rfl, wl_of 41 rfl rfl, wl_of 346 rfl rfl, by decide, by decide +kernel⟩
set_option maxRecDepth 20000 in
theorem kc_L_27 : LkV RL 27 yX3_street cX3_street 3 (some .int) 2 := ⟨wl_of 671 rfl rfl, wl_of 672 rfl rfl, wl_of 673 rfl rfl, wl_of 44 rfl rfl, wl_of 674 rfl rfl, by decide, by decide +kernel⟩
set_option maxRecDepth 20000 in
theorem kc_L_28 : LkV RL 28 yX2_mends cX2_mends 4 (some .int) 2 := ⟨wl_of 352 rfl rfl, wl_of 353 rfl rfl, wl_of 354 rfl rfl, wl_of 41 rfl rfl, wl_of 355 rfl rfl, by decide, by decide +kernel⟩
set_option maxRecDepth 20000 in
theorem kc_L_31 : LkV RL 31 yX3_mends cX3_mends 4 (some .int) 2 := ⟨wl_of 687 rfl rfl, wl_of 688 rfl rfl, wl_of 689 rfl rfl, wl_of 44 rfl rfl, wl_of 690 rfl rfl, by decide, by decide +kernel⟩
set_option maxRecDepth 20000 in
theorem kc_L_32 : LkV RL 32 yX2_pence cX2_pence 5 (some .int) 2 := ⟨wl_of 356 rfl rfl, wl_of 357 rfl rfl, wl_of 358 rfl rfl, wl_of 41 rfl rfl, wl_of 359 rfl rfl, by decide, by decide +kernel⟩
set_option maxRecDepth 20000 in
theorem kc_L_35 : LkV RL 35 yX3_pence cX3_pence 3 (some .int) 2 := ⟨wl_of 695 rfl rfl, wl_of 696 rfl rfl, wl_of 697 rfl rfl, wl_of 44 rfl rfl, wl_of 698 rfl rfl, by decide, by decide +kernel⟩
set_option maxRecDepth 20000 in
theorem kc_L_36 : LkV RL 36 yX2_hands cX2_hands 5 (some .int) 2 := ⟨wl_of 360 rfl rfl, wl_of 361 rfl rfl, wl_of 362 rfl rfl, wl_of 41 rfl rfl, wl_of 363 rfl rfl, by decide, by decide +kernel⟩
set_option maxRecDepth 20000 in
theorem kc_L_39 : LkV RL 39 yX3_hands cX3_hands 3 (some .int) 2 := ⟨wl_of 703 rfl rfl, wl_of 704 rfl rfl, wl_of 705 rfl rfl, wl_of 44 rfl rfl, wl_of 706 rfl rfl, by decide, by decide +kernel⟩
set_option maxRecDepth 20000 in
theorem kc_L_40 : LkV RL 40 yX2_year cX2_year 1 (some .int) 0 := ⟨wl_of 364 rfl rfl, wl_of 365 rfl rfl, wl_of 366 rfl rfl, wl_of 41 rfl rfl, wl_of 367 rfl rfl, by decide, by decide +kernel⟩
set_option maxRecDepth 20000 in
theorem kc_L_43 : LkV RL 43 yX3_year cX3_year 1 (some .int) 0 := ⟨wl_of 707 rfl rfl, wl_of 708 rfl rfl, wl_of 709 rfl rfl, wl_of 44 rfl rfl, wl_of 710 rfl rfl, by decide, by decide +kernel⟩
set_option maxRecDepth 20000 in
theorem kc_L_44 : LkV RL 44 yX2_mud cX2_mud 5 (some .int) 2 := ⟨wl_of 394 rfl rfl, wl_of 395 rfl rfl, wl_of 396 rfl rfl, wl_of 41 rfl rfl, wl_of 397 rfl rfl, by decide, by decide +kernel⟩
set_option maxRecDepth 20000 in
theorem kc_L_47 : LkV RL 47 yX3_mud cX3_mud 5 (some .int) 2 := ⟨wl_of 735 rfl rfl, wl_of 736 rfl rfl, wl_of 737 rfl rfl, wl_of 44 rfl rfl, wl_of 738 rfl rfl, by decide, by decide +kernel⟩
set_option maxRecDepth 20000 in
theorem kc_L_48 : LkV RL 48 yX2_worst cX2_worst 5 (some .int) 2 := ⟨wl_of 404 rfl rfl, wl_of 405 rfl rfl, wl_of 406 rfl rfl, wl_of 41 rfl rfl, wl_of 407 rfl rfl, by decide, by decide +kernel⟩
set_option maxRecDepth 20000 in
theorem kc_L_51 : LkV RL 51 yX3_worst cX3_worst 7 (some .int) 2 := ⟨wl_of 751 rfl rfl, wl_of 752 rfl rfl, wl_of 753 rfl rfl, wl_of 44 rfl rfl, wl_of 754 rfl rfl, by decide, by decide +kernel⟩
set_option maxRecDepth 20000 in
theorem kc_L_52 : LkV RL 52 yX2_again cX2_again 2 (some .int) 0 := ⟨wl_of 416 rfl rfl, wl_of 417 rfl rfl, wl_of 418 rfl rfl, wl_of 41 rfl rfl, wl_of 419 rfl rfl, by decide, by decide +kernel⟩
set_option maxRecDepth 20000 in
theorem kc_L_55 : LkV RL 55 yX3_again cX3_again 3 (some .int) 0 := ⟨wl_of 755 rfl rfl, wl_of 756 rfl rfl, wl_of 757 rfl rfl, wl_of 44 rfl rfl, wl_of 758 rfl rfl, by decide, by decide +kernel⟩
set_option maxRecDepth 20000 in
theorem kc_L_56 : LkV RL 56 yX2_way cX2_way 5 (some .int) 2 := ⟨wl_of 424 rfl rfl, wl_of 425 rfl rfl, wl_of 426 rfl rfl, wl_of 41 rfl rfl, wl_of 427 rfl rfl, by decide, by decide +kernel⟩
set_option maxRecDepth 20000 in
theorem kc_L_59 : LkV RL 59 yX3_way cX3_way 3 (some .int) 2 := ⟨wl_of 763 rfl rfl, wl_of 764 rfl rfl, wl_of 765 rfl rfl, wl_of 44 rfl rfl, wl_of 766 rfl rfl, by decide, by decide +kernel⟩
set_option maxRecDepth 20000 in
theorem kc_L_60 : LkV RL 60 yX2_ring cX2_ring 3 (some .int) 0 := ⟨wl_of 432 rfl rfl, wl_of 433 rfl rfl, wl_of 434 rfl rfl, wl_of 41 rfl rfl, wl_of 435 rfl rfl, by decide, by decide +kernel⟩
set_option maxRecDepth 20000 in
theorem kc_L_63 : LkV RL 63 yX3_ring cX3_ring 3 (some .int) 0 := ⟨wl_of 771 rfl rfl, wl_of 772 rfl rfl, wl_of 773 rfl rfl, wl_of 44 rfl rfl, wl_of 774 rfl rfl, by decide, by decide +kernel⟩
set_option maxRecDepth 20000 in
theorem kc_L_64 : LkV RL 64 yX2_tail cX2_tail 4 (some .int) 1 := ⟨wl_of 441 rfl rfl, wl_of 442 rfl rfl, wl_of 443 rfl rfl, wl_of 41 rfl rfl, wl_of 444 rfl rfl, by decide, by decide +kernel⟩
set_option maxRecDepth 20000 in
theorem kc_L_67 : LkV RL 67 yX3_tail cX3_tail 4 (some .int) 1 := ⟨wl_of 779 rfl rfl, wl_of 780 rfl rfl, wl_of 781 rfl rfl, wl_of 44 rfl rfl, wl_of 782 rfl rfl, by decide, by decide +kernel⟩
set_option maxRecDepth 20000 in
theorem kc_L_68 : LkV RL 68 yX2_rings cX2_rings 3 (some .int) 0 := ⟨wl_of 445 rfl rfl, wl_of 446 rfl rfl, wl_of 447 rfl rfl, wl_of 41 rfl rfl, wl_of 448 rfl rfl, by decide, by decide +kernel⟩
set_option maxRecDepth 20000 in
theorem kc_L_71 : LkV RL 71 yX3_rings cX3_rings 5 (some .int) 0 := ⟨wl_of 783 rfl rfl, wl_of 784 rfl rfl, wl_of 785 rfl rfl, wl_of 44 rfl rfl, wl_of 786 rfl rfl, by decide, by decide +kernel⟩
set_option maxRecDepth 20000 in
theorem kc_L_72 : LkV RL 72 yX2_never cX2_never 3 (some .int) 0 := ⟨wl_of 453 rfl rfl, wl_of 454 rfl rfl, wl_of 455 rfl rfl, wl_of 41 rfl rfl, wl_of 456 rfl rfl, by decide, by decide +kernel⟩
set_option maxRecDepth 20000 in
theorem kc_L_75 : LkV RL 75 yX3_never cX3_never 3 (some .int) 0 := ⟨wl_of 787 rfl rfl, wl_of 788 rfl rfl, wl_of 789 rfl rfl, wl_of 44 rfl rfl, wl_of 790 rfl rfl, by decide, by decide +kernel⟩
set_option maxRecDepth 20000 in
theorem kc_L_76 : LkV RL 76 yX2_felt cX2_felt 4 (some .int) 2 := ⟨wl_of 457 rfl rfl, wl_of 458 rfl rfl, wl_of 459 rfl rfl, wl_of 41 rfl rfl, wl_of 460 rfl rfl, by decide, by decide +kernel⟩
set_option maxRecDepth 20000 in
theorem kc_L_79 : LkV RL 79 yX3_felt cX3_felt 5 (some .int) 2 := ⟨wl_of 791 rfl rfl, wl_of 792 rfl rfl, wl_of 793 rfl rfl, wl_of 44 rfl rfl, wl_of 794 rfl rfl, by decide, by decide +kernel⟩
set_option maxRecDepth 20000 in
theorem kc_L_80 : LkV RL 80 yX2_worth cX2_worth 4 (some .int) 2 := ⟨wl_of 461 rfl rfl, wl_of 462 rfl rfl, wl_of 463 rfl rfl, wl_of 41 rfl rfl, wl_of 464 rfl rfl, by decide, by decide +kernel⟩
set_option maxRecDepth 20000 in
theorem kc_L_83 : LkV RL 83 yX3_worth cX3_worth 6 (some .int) 2 := ⟨wl_of 795 rfl rfl, wl_of 796 rfl rfl, wl_of 797 rfl rfl, wl_of 44 rfl rfl, wl_of 798 rfl rfl, by decide, by decide +kernel⟩
set_option maxRecDepth 20000 in
theorem kc_L_84 : LkV RL 84 yX2_bestMap cX2_bestMap 5 (some .int) 2 := ⟨wl_of 466 rfl rfl, wl_of 467 rfl rfl, wl_of 468 rfl rfl, wl_of 41 rfl rfl, wl_of 469 rfl rfl, by decide, by decide +kernel⟩
set_option maxRecDepth 20000 in
theorem kc_L_87 : LkV RL 87 yX3_bestMap cX3_bestMap 4 (some .int) 2 := ⟨wl_of 804 rfl rfl, wl_of 805 rfl rfl, wl_of 806 rfl rfl, wl_of 44 rfl rfl, wl_of 807 rfl rfl, by decide, by decide +kernel⟩
set_option maxRecDepth 20000 in
theorem kc_L_88 : LkV RL 88 yX2_change cX2_change 8 (some .int) 1 := ⟨wl_of 483 rfl rfl, wl_of 484 rfl rfl, wl_of 485 rfl rfl, wl_of 41 rfl rfl, wl_of 486 rfl rfl, by decide, by decide +kernel⟩
set_option maxRecDepth 20000 in
theorem kc_L_91 : LkV RL 91 yX3_change cX3_change 8 (some .int) 1 := ⟨wl_of 812 rfl rfl, wl_of 813 rfl rfl, wl_of 814 rfl rfl, wl_of 44 rfl rfl, wl_of 815 rfl rfl, by decide, by decide +kernel⟩
set_option maxRecDepth 20000 in
theorem kc_L_92 : LkV RL 92 yX2_cure cX2_cure 8 (some .int) 2 := ⟨wl_of 487 rfl rfl, wl_of 488 rfl rfl, wl_of 489 rfl rfl, wl_of 41 rfl rfl, wl_of 490 rfl rfl, by decide, by decide +kernel⟩
set_option maxRecDepth 20000 in
theorem kc_L_95 : LkV RL 95 yX3_cure cX3_cure 8 (some .int) 2 := ⟨wl_of 816 rfl rfl, wl_of 817 rfl rfl, wl_of 818 rfl rfl, wl_of 44 rfl rfl, wl_of 819 rfl rfl, by decide, by decide +kernel⟩
set_option maxRecDepth 20000 in
theorem kc_L_96 : LkV RL 96 yX2_putIn cX2_putIn 4 (some .int) 3 := ⟨wl_of 491 rfl rfl, wl_of 492 rfl rfl, wl_of 493 rfl rfl, wl_of 41 rfl rfl, wl_of 494 rfl rfl, by decide, by decide +kernel⟩
set_option maxRecDepth 20000 in
theorem kc_X0_19 : LkV RX0 19 yX0_isFull cX0_isFull 1 (some .boolean) 0 := ⟨wl_of 182 rfl rfl, wl_of 171 rfl rfl, wl_of 172 rfl rfl, wl_of 43 rfl rfl, wl_of 173 rfl rfl, by decide, by decide +kernel⟩
set_option maxRecDepth 20000 in
theorem kc_X0_23 : LkV RX0 23 yX0_at cX0_at 2 (some .char) 1 := ⟨wl_of 195 rfl rfl, wl_of 196 rfl rfl, wl_of 197 rfl rfl, wl_of 43 rfl rfl, wl_of 198 rfl rfl, by decide, by decide +kernel⟩
set_option maxRecDepth 20000 in
theorem kc_X0_27 : LkS RX0 27 yX0_isDigit cX0_isDigit 1 (some .boolean) 1 := ⟨wl_of 292 rfl rfl, wl_of 293 rfl rfl, wl_of 43 rfl rfl, wl_of 294 rfl rfl, by decide, by decide +kernel⟩
set_option maxRecDepth 20000 in
theorem kc_X0_31 : LkV RX0 31 yX0_digit cX0_digit 2 (some .int) 1 := ⟨wl_of 337 rfl rfl, wl_of 310 rfl rfl, wl_of 311 rfl rfl, wl_of 43 rfl rfl, wl_of 312 rfl rfl, by decide, by decide +kernel⟩
set_option maxRecDepth 20000 in
theorem kc_X0_35 : LkS RX0 35 yX0_dueBehind cX0_dueBehind 2 (some .int) 2 := ⟨wl_of 199 rfl rfl, wl_of 200 rfl rfl, wl_of 43 rfl rfl, wl_of 201 rfl rfl, by decide, by decide +kernel⟩
set_option maxRecDepth 20000 in
theorem kc_X0_39 : LkS RX0 39 yX0_dueInStatement cX0_dueInStatement 1 (some .int) 1 := ⟨wl_of 202 rfl rfl, wl_of 203 rfl rfl, wl_of 43 rfl rfl, wl_of 204 rfl rfl, by decide, by decide +kernel⟩
set_option maxRecDepth 20000 in
theorem kc_X1_100 : LkV RX1 100 yX1_mudOf cX1_mudOf 2 (some .int) 1 := ⟨wl_of 412 rfl rfl, wl_of 413 rfl rfl, wl_of 414 rfl rfl, wl_of 42 rfl rfl, wl_of 415 rfl rfl, by decide, by decide +kernel⟩
set_option maxRecDepth 20000 in
theorem kc_X1_43 : LkA RX1 43 := ⟨wl_of 299 rfl rfl, wl_of 301 rfl rfl, wl_of 300 rfl rfl, wl_of 51 rfl rfl⟩
set_option maxRecDepth 20000 in
theorem kc_X1_55 : LkV RX1 55 yX1_isFull cX1_isFull 1 (some .boolean) 0 := ⟨wl_of 317 rfl rfl, wl_of 318 rfl rfl, wl_of 319 rfl rfl, wl_of 42 rfl rfl, wl_of 320 rfl rfl, by decide, by decide +kernel⟩
set_option maxRecDepth 20000 in
theorem kc_X1_59 : LkV RX1 59 yX1_isStreet cX1_isStreet 2 (some .boolean) 1 := ⟨wl_of 321 rfl rfl, wl_of 322 rfl rfl, wl_of 323 rfl rfl, wl_of 42 rfl rfl, wl_of 324 rfl rfl, by decide, by decide +kernel⟩
set_option maxRecDepth 20000 in
theorem kc_X1_63 : LkV RX1 63 yX1_add cX1_add 5 none 4 := ⟨wl_of 325 rfl rfl, wl_of 327 rfl rfl, wl_of 3 rfl rfl, wl_of 42 rfl rfl, wl_of 328 rfl rfl, by decide, by decide +kernel⟩
set_option maxRecDepth 20000 in
theorem kc_X1_67 : LkV RX1 67 yX1_stepFrom cX1_stepFrom 2 (some .int) 1 := ⟨wl_of 440 rfl rfl, wl_of 429 rfl rfl, wl_of 430 rfl rfl, wl_of 42 rfl rfl, wl_of 431 rfl rfl, by decide, by decide +kernel⟩
set_option maxRecDepth 20000 in
theorem kc_X1_71 : LkV RX1 71 yX1_passYear cX1_passYear 3 none 0 := ⟨wl_of 402 rfl rfl, wl_of 369 rfl rfl, wl_of 370 rfl rfl, wl_of 42 rfl rfl, wl_of 371 rfl rfl, by decide, by decide +kernel⟩
set_option maxRecDepth 20000 in
theorem kc_X1_74 : LkV RX1 74 yX1_mudOfAll cX1_mudOfAll 3 (some .int) 0 := ⟨wl_of 403 rfl rfl, wl_of 391 rfl rfl, wl_of 392 rfl rfl, wl_of 42 rfl rfl, wl_of 393 rfl rfl, by decide, by decide +kernel⟩
set_option maxRecDepth 20000 in
theorem kc_X1_78 : LkM RX1 78 := ⟨wl_of 372 rfl rfl, wl_of 238 rfl rfl, wl_of 47 rfl rfl, wl_of 239 rfl rfl⟩
set_option maxRecDepth 20000 in
theorem kc_X1_84 : LkV RX1 84 yX1_workOf cX1_workOf 4 (some .int) 2 := ⟨wl_of 373 rfl rfl, wl_of 375 rfl rfl, wl_of 4 rfl rfl, wl_of 42 rfl rfl, wl_of 376 rfl rfl, by decide, by decide +kernel⟩
set_option maxRecDepth 20000 in
theorem kc_X1_87 : LkX RX1 87 := ⟨wl_of 381 rfl rfl, wl_of 235 rfl rfl, wl_of 47 rfl rfl, wl_of 236 rfl rfl⟩
set_option maxRecDepth 20000 in
theorem kc_X1_90 : LkV RX1 90 yX1_payAll cX1_payAll 3 none 0 := ⟨wl_of 382 rfl rfl, wl_of 384 rfl rfl, wl_of 6 rfl rfl, wl_of 42 rfl rfl, wl_of 385 rfl rfl, by decide, by decide +kernel⟩
set_option maxRecDepth 20000 in
theorem kc_X1_93 : LkV RX1 93 yX1_trustOf cX1_trustOf 2 (some .int) 1 := ⟨wl_of 377 rfl rfl, wl_of 379 rfl rfl, wl_of 5 rfl rfl, wl_of 42 rfl rfl, wl_of 380 rfl rfl, by decide, by decide +kernel⟩
set_option maxRecDepth 20000 in
theorem kc_X1_96 : LkV RX1 96 yX1_pay cX1_pay 3 none 1 := ⟨wl_of 386 rfl rfl, wl_of 388 rfl rfl, wl_of 7 rfl rfl, wl_of 42 rfl rfl, wl_of 389 rfl rfl, by decide, by decide +kernel⟩
set_option maxRecDepth 20000 in
theorem kc_X2_100 : LkV RX2 100 yX1_passYear cX1_passYear 3 none 0 := ⟨wl_of 368 rfl rfl, wl_of 369 rfl rfl, wl_of 370 rfl rfl, wl_of 42 rfl rfl, wl_of 371 rfl rfl, by decide, by decide +kernel⟩
set_option maxRecDepth 20000 in
theorem kc_X2_103 : LkV RX2 103 yX1_mudOfAll cX1_mudOfAll 3 (some .int) 0 := ⟨wl_of 390 rfl rfl, wl_of 391 rfl rfl, wl_of 392 rfl rfl, wl_of 42 rfl rfl, wl_of 393 rfl rfl, by decide, by decide +kernel⟩
set_option maxRecDepth 20000 in
theorem kc_X2_106 : LkV RX2 106 yX1_copyFrom cX1_copyFrom 2 none 1 := ⟨wl_of 295 rfl rfl, wl_of 296 rfl rfl, wl_of 297 rfl rfl, wl_of 42 rfl rfl, wl_of 298 rfl rfl, by decide, by decide +kernel⟩
set_option maxRecDepth 20000 in
theorem kc_X2_110 : LkV RX2 110 yX1_mudBehind cX1_mudBehind 3 (some .int) 1 := ⟨wl_of 398 rfl rfl, wl_of 399 rfl rfl, wl_of 400 rfl rfl, wl_of 42 rfl rfl, wl_of 401 rfl rfl, by decide, by decide +kernel⟩
set_option maxRecDepth 20000 in
theorem kc_X2_113 : LkV RX2 113 yX1_muddiest cX1_muddiest 3 (some .int) 0 := ⟨wl_of 408 rfl rfl, wl_of 409 rfl rfl, wl_of 410 rfl rfl, wl_of 42 rfl rfl, wl_of 411 rfl rfl, by decide, by decide +kernel⟩
set_option maxRecDepth 20000 in
theorem kc_X2_116 : LkV RX2 116 yX1_liesLike cX1_liesLike 3 (some .boolean) 1 := ⟨wl_of 420 rfl rfl, wl_of 421 rfl rfl, wl_of 422 rfl rfl, wl_of 42 rfl rfl, wl_of 423 rfl rfl, by decide, by decide +kernel⟩
set_option maxRecDepth 20000 in
theorem kc_X2_123 : LkV RX2 123 yX1_stepFrom cX1_stepFrom 2 (some .int) 1 := ⟨wl_of 428 rfl rfl, wl_of 429 rfl rfl, wl_of 430 rfl rfl, wl_of 42 rfl rfl, wl_of 431 rfl rfl, by decide, by decide +kernel⟩
set_option maxRecDepth 20000 in
theorem kc_X2_126 : LkV RX2 126 yX1_isOnRing cX1_isOnRing 4 (some .boolean) 1 := ⟨wl_of 436 rfl rfl, wl_of 437 rfl rfl, wl_of 438 rfl rfl, wl_of 42 rfl rfl, wl_of 439 rfl rfl, by decide, by decide +kernel⟩
set_option maxRecDepth 20000 in
theorem kc_X2_129 : LkV RX2 129 yX1_leastOnTheWayFrom cX1_leastOnTheWayFrom 5 (some .int) 1 := ⟨wl_of 449 rfl rfl, wl_of 450 rfl rfl, wl_of 451 rfl rfl, wl_of 42 rfl rfl, wl_of 452 rfl rfl, by decide, by decide +kernel⟩
set_option maxRecDepth 20000 in
theorem kc_X2_136 : LkV RX2 136 yX2_findBestMap cX2_findBestMap 6 (some .int) 1 := ⟨wl_of 470 rfl rfl, wl_of 472 rfl rfl, wl_of 8 rfl rfl, wl_of 41 rfl rfl, wl_of 473 rfl rfl, by decide, by decide +kernel⟩
set_option maxRecDepth 20000 in
theorem kc_X2_139 : LkV RX2 139 yX1_isFull cX1_isFull 1 (some .boolean) 0 := ⟨wl_of 495 rfl rfl, wl_of 318 rfl rfl, wl_of 319 rfl rfl, wl_of 42 rfl rfl, wl_of 320 rfl rfl, by decide, by decide +kernel⟩
set_option maxRecDepth 20000 in
theorem kc_X2_140 : LkV RX2 140 yX1_putBehind cX1_putBehind 4 none 2 := ⟨wl_of 496 rfl rfl, wl_of 497 rfl rfl, wl_of 498 rfl rfl, wl_of 42 rfl rfl, wl_of 499 rfl rfl, by decide, by decide +kernel⟩
set_option maxRecDepth 20000 in
theorem kc_X2_144 : LkV RX2 144 yX1_leave cX1_leave 3 none 1 := ⟨wl_of 504 rfl rfl, wl_of 505 rfl rfl, wl_of 506 rfl rfl, wl_of 42 rfl rfl, wl_of 507 rfl rfl, by decide, by decide +kernel⟩
set_option maxRecDepth 20000 in
theorem kc_X2_148 : LkV RX2 148 yX1_mudOf cX1_mudOf 2 (some .int) 1 := ⟨wl_of 508 rfl rfl, wl_of 413 rfl rfl, wl_of 414 rfl rfl, wl_of 42 rfl rfl, wl_of 415 rfl rfl, by decide, by decide +kernel⟩
set_option maxRecDepth 20000 in
theorem kc_X2_154 : LkV RX2 154 yX2_firstNotAsTold cX2_firstNotAsTold 4 (some .int) 1 := ⟨wl_of 517 rfl rfl, wl_of 519 rfl rfl, wl_of 11 rfl rfl, wl_of 41 rfl rfl, wl_of 520 rfl rfl, by decide, by decide +kernel⟩
set_option maxRecDepth 20000 in
theorem kc_X2_165 : LkV RX2 165 yX1_penceOfAll cX1_penceOfAll 3 (some .int) 0 := ⟨wl_of 545 rfl rfl, wl_of 546 rfl rfl, wl_of 547 rfl rfl, wl_of 42 rfl rfl, wl_of 548 rfl rfl, by decide, by decide +kernel⟩
set_option maxRecDepth 20000 in
theorem kc_X2_168 : LkV RX2 168 yX0_formFault cX0_formFault 3 (some .int) 0 := ⟨wl_of 191 rfl rfl, wl_of 192 rfl rfl, wl_of 193 rfl rfl, wl_of 43 rfl rfl, wl_of 194 rfl rfl, by decide, by decide +kernel⟩
set_option maxRecDepth 20000 in
theorem kc_X2_171 : LkV RX2 171 yX0_at cX0_at 2 (some .char) 1 := ⟨wl_of 302 rfl rfl, wl_of 196 rfl rfl, wl_of 197 rfl rfl, wl_of 43 rfl rfl, wl_of 198 rfl rfl, by decide, by decide +kernel⟩
set_option maxRecDepth 20000 in
theorem kc_X2_175 : LkV RX2 175 yX2_comesToTrial cX2_comesToTrial 3 (some .boolean) 1 := ⟨wl_of 303 rfl rfl, wl_of 305 rfl rfl, wl_of 2 rfl rfl, wl_of 41 rfl rfl, wl_of 306 rfl rfl, by decide, by decide +kernel⟩
set_option maxRecDepth 20000 in
theorem kc_X2_185 : LkV RX2 185 yX0_digit cX0_digit 2 (some .int) 1 := ⟨wl_of 309 rfl rfl, wl_of 310 rfl rfl, wl_of 311 rfl rfl, wl_of 43 rfl rfl, wl_of 312 rfl rfl, by decide, by decide +kernel⟩
set_option maxRecDepth 20000 in
theorem kc_X2_188 : LkV RX2 188 yX1_tell cX1_tell 6 (some .boolean) 4 := ⟨wl_of 313 rfl rfl, wl_of 314 rfl rfl, wl_of 315 rfl rfl, wl_of 42 rfl rfl, wl_of 316 rfl rfl, by decide, by decide +kernel⟩
set_option maxRecDepth 20000 in
theorem kc_X2_192 : LkV RX2 192 yX1_tellWhoMends cX1_tellWhoMends 3 (some .boolean) 2 := ⟨wl_of 329 rfl rfl, wl_of 330 rfl rfl, wl_of 331 rfl rfl, wl_of 42 rfl rfl, wl_of 332 rfl rfl, by decide, by decide +kernel⟩
set_option maxRecDepth 20000 in
theorem kc_X2_196 : LkV RX2 196 yX0_oneOrTwoDigits cX0_oneOrTwoDigits 3 (some .int) 1 := ⟨wl_of 333 rfl rfl, wl_of 334 rfl rfl, wl_of 335 rfl rfl, wl_of 43 rfl rfl, wl_of 336 rfl rfl, by decide, by decide +kernel⟩
set_option maxRecDepth 20000 in
theorem kc_X2_199 : LkV RX2 199 yX1_tellPence cX1_tellPence 3 (some .boolean) 2 := ⟨wl_of 338 rfl rfl, wl_of 339 rfl rfl, wl_of 340 rfl rfl, wl_of 42 rfl rfl, wl_of 341 rfl rfl, by decide, by decide +kernel⟩
set_option maxRecDepth 20000 in
theorem kc_X2_202 : LkM RX2 202 := ⟨wl_of 521 rfl rfl, wl_of 238 rfl rfl, wl_of 47 rfl rfl, wl_of 239 rfl rfl⟩
set_option maxRecDepth 20000 in
theorem kc_X2_208 : LkA RX2 208 := ⟨wl_of 474 rfl rfl, wl_of 301 rfl rfl, wl_of 300 rfl rfl, wl_of 51 rfl rfl⟩
set_option maxRecDepth 20000 in
theorem kc_X2_214 : LkV RX2 214 yX2_goToNextMap cX2_goToNextMap 6 (some .boolean) 1 := ⟨wl_of 475 rfl rfl, wl_of 477 rfl rfl, wl_of 9 rfl rfl, wl_of 41 rfl rfl, wl_of 478 rfl rfl, by decide, by decide +kernel⟩
set_option maxRecDepth 20000 in
theorem kc_X2_217 : LkV RX2 217 yX2_swapInMap cX2_swapInMap 4 none 2 := ⟨wl_of 479 rfl rfl, wl_of 481 rfl rfl, wl_of 10 rfl rfl, wl_of 41 rfl rfl, wl_of 482 rfl rfl, by decide, by decide +kernel⟩
set_option maxRecDepth 20000 in
theorem kc_X2_45 : LkS RX2 45 yX2_refusalOf cX2_refusalOf 4 (some .int) 4 := ⟨wl_of 167 rfl rfl, wl_of 168 rfl rfl, wl_of 41 rfl rfl, wl_of 169 rfl rfl, by decide, by decide +kernel⟩
set_option maxRecDepth 20000 in
theorem kc_X2_49 : LkV RX2 49 yX0_isFull cX0_isFull 1 (some .boolean) 0 := ⟨wl_of 170 rfl rfl, wl_of 171 rfl rfl, wl_of 172 rfl rfl, wl_of 43 rfl rfl, wl_of 173 rfl rfl, by decide, by decide +kernel⟩
set_option maxRecDepth 20000 in
theorem kc_X2_53 : LkV RX2 53 yX2_refuse cX2_refuse 3 (some .int) 1 := ⟨wl_of 174 rfl rfl, wl_of 176 rfl rfl, wl_of 0 rfl rfl, wl_of 41 rfl rfl, wl_of 177 rfl rfl, by decide, by decide +kernel⟩
set_option maxRecDepth 20000 in
theorem kc_X2_57 : LkV RX2 57 yX0_append cX0_append 2 none 1 := ⟨wl_of 178 rfl rfl, wl_of 179 rfl rfl, wl_of 180 rfl rfl, wl_of 43 rfl rfl, wl_of 181 rfl rfl, by decide, by decide +kernel⟩
set_option maxRecDepth 20000 in
theorem kc_X2_65 : LkV RX2 65 yX2_readTown cX2_readTown 5 (some .int) 0 := ⟨wl_of 187 rfl rfl, wl_of 189 rfl rfl, wl_of 1 rfl rfl, wl_of 41 rfl rfl, wl_of 190 rfl rfl, by decide, by decide +kernel⟩
set_option maxRecDepth 20000 in
theorem kc_X2_69 : LkV RX2 69 yX1_isStreet cX1_isStreet 2 (some .boolean) 1 := ⟨wl_of 347 rfl rfl, wl_of 322 rfl rfl, wl_of 323 rfl rfl, wl_of 42 rfl rfl, wl_of 324 rfl rfl, by decide, by decide +kernel⟩
set_option maxRecDepth 20000 in
theorem kc_X2_94 : LkV RX2 94 yX1_fed cX1_fed 4 (some .int) 1 := ⟨wl_of 348 rfl rfl, wl_of 349 rfl rfl, wl_of 350 rfl rfl, wl_of 42 rfl rfl, wl_of 351 rfl rfl, by decide, by decide +kernel⟩
set_option maxRecDepth 20000 in
theorem kc_X3_100 : LkV RX3 100 yX3_readsStatement cX3_readsStatement 3 (some .boolean) 0 := ⟨wl_of 635 rfl rfl, wl_of 637 rfl rfl, wl_of 14 rfl rfl, wl_of 44 rfl rfl, wl_of 638 rfl rfl, by decide, by decide +kernel⟩
set_option maxRecDepth 20000 in
theorem kc_X3_103 : LkV RX3 103 yX3_comes cX3_comes 5 (some .boolean) 1 := ⟨wl_of 664 rfl rfl, wl_of 666 rfl rfl, wl_of 19 rfl rfl, wl_of 44 rfl rfl, wl_of 667 rfl rfl, by decide, by decide +kernel⟩
set_option maxRecDepth 20000 in
theorem kc_X3_106 : LkV RX3 106 yX3_reads cX3_reads 5 (some .int) 0 := ⟨wl_of 631 rfl rfl, wl_of 633 rfl rfl, wl_of 13 rfl rfl, wl_of 44 rfl rfl, wl_of 634 rfl rfl, by decide, by decide +kernel⟩
set_option maxRecDepth 20000 in
theorem kc_X3_109 : LkV RX3 109 yX3_get cX3_get 3 (some .int) 2 := ⟨wl_of 683 rfl rfl, wl_of 685 rfl rfl, wl_of 22 rfl rfl, wl_of 44 rfl rfl, wl_of 686 rfl rfl, by decide, by decide +kernel⟩
set_option maxRecDepth 20000 in
theorem kc_X3_113 : LkV RX3 113 yX3_trustOf cX3_trustOf 2 (some .int) 1 := ⟨wl_of 719 rfl rfl, wl_of 721 rfl rfl, wl_of 27 rfl rfl, wl_of 44 rfl rfl, wl_of 722 rfl rfl, by decide, by decide +kernel⟩
set_option maxRecDepth 20000 in
theorem kc_X3_116 : LkV RX3 116 yX3_puts cX3_puts 4 none 3 := ⟨wl_of 691 rfl rfl, wl_of 693 rfl rfl, wl_of 23 rfl rfl, wl_of 44 rfl rfl, wl_of 694 rfl rfl, by decide, by decide +kernel⟩
set_option maxRecDepth 20000 in
theorem kc_X3_120 : LkV RX3 120 yX3_mendsBy cX3_mendsBy 3 (some .int) 1 := ⟨wl_of 715 rfl rfl, wl_of 717 rfl rfl, wl_of 26 rfl rfl, wl_of 44 rfl rfl, wl_of 718 rfl rfl, by decide, by decide +kernel⟩
set_option maxRecDepth 20000 in
theorem kc_X3_123 : LkV RX3 123 yX3_paysFor cX3_paysFor 4 none 1 := ⟨wl_of 723 rfl rfl, wl_of 725 rfl rfl, wl_of 28 rfl rfl, wl_of 44 rfl rfl, wl_of 726 rfl rfl, by decide, by decide +kernel⟩
set_option maxRecDepth 20000 in
theorem kc_X3_127 : LkV RX3 127 yX3_goes cX3_goes 4 none 0 := ⟨wl_of 711 rfl rfl, wl_of 713 rfl rfl, wl_of 25 rfl rfl, wl_of 44 rfl rfl, wl_of 714 rfl rfl, by decide, by decide +kernel⟩
set_option maxRecDepth 20000 in
theorem kc_X3_130 : LkV RX3 130 yX3_mudOf cX3_mudOf 4 (some .int) 1 := ⟨wl_of 731 rfl rfl, wl_of 733 rfl rfl, wl_of 30 rfl rfl, wl_of 44 rfl rfl, wl_of 734 rfl rfl, by decide, by decide +kernel⟩
set_option maxRecDepth 20000 in
theorem kc_X3_133 : LkV RX3 133 yX3_goesFor cX3_goesFor 3 none 1 := ⟨wl_of 743 rfl rfl, wl_of 745 rfl rfl, wl_of 32 rfl rfl, wl_of 44 rfl rfl, wl_of 746 rfl rfl, by decide, by decide +kernel⟩
set_option maxRecDepth 20000 in
theorem kc_X3_136 : LkV RX3 136 yX3_allMud cX3_allMud 1 (some .int) 0 := ⟨wl_of 727 rfl rfl, wl_of 729 rfl rfl, wl_of 29 rfl rfl, wl_of 44 rfl rfl, wl_of 730 rfl rfl, by decide, by decide +kernel⟩
set_option maxRecDepth 20000 in
theorem kc_X3_139 : LkV RX3 139 yX3_ends cX3_ends 1 none 0 := ⟨wl_of 747 rfl rfl, wl_of 749 rfl rfl, wl_of 33 rfl rfl, wl_of 44 rfl rfl, wl_of 750 rfl rfl, by decide, by decide +kernel⟩
set_option maxRecDepth 20000 in
theorem kc_X3_142 : LkV RX3 142 yX3_isStreet cX3_isStreet 2 (some .boolean) 1 := ⟨wl_of 675 rfl rfl, wl_of 677 rfl rfl, wl_of 20 rfl rfl, wl_of 44 rfl rfl, wl_of 678 rfl rfl, by decide, by decide +kernel⟩
set_option maxRecDepth 20000 in
theorem kc_X3_145 : LkV RX3 145 yX3_fed cX3_fed 4 (some .int) 1 := ⟨wl_of 679 rfl rfl, wl_of 681 rfl rfl, wl_of 21 rfl rfl, wl_of 44 rfl rfl, wl_of 682 rfl rfl, by decide, by decide +kernel⟩
set_option maxRecDepth 20000 in
theorem kc_X3_148 : LkV RX3 148 yX3_becomes cX3_becomes 7 (some .int) 4 := ⟨wl_of 699 rfl rfl, wl_of 701 rfl rfl, wl_of 24 rfl rfl, wl_of 44 rfl rfl, wl_of 702 rfl rfl, by decide, by decide +kernel⟩
set_option maxRecDepth 20000 in
theorem kc_X3_152 : LkV RX3 152 yX3_begins cX3_begins 1 none 0 := ⟨wl_of 739 rfl rfl, wl_of 741 rfl rfl, wl_of 31 rfl rfl, wl_of 44 rfl rfl, wl_of 742 rfl rfl, by decide, by decide +kernel⟩
set_option maxRecDepth 20000 in
theorem kc_X3_155 : LkV RX3 155 yX3_isAsThen cX3_isAsThen 3 (some .boolean) 0 := ⟨wl_of 759 rfl rfl, wl_of 761 rfl rfl, wl_of 34 rfl rfl, wl_of 44 rfl rfl, wl_of 762 rfl rfl, by decide, by decide +kernel⟩
set_option maxRecDepth 20000 in
theorem kc_X3_158 : LkV RX3 158 yX3_wayOf cX3_wayOf 5 (some .int) 2 := ⟨wl_of 767 rfl rfl, wl_of 769 rfl rfl, wl_of 35 rfl rfl, wl_of 44 rfl rfl, wl_of 770 rfl rfl, by decide, by decide +kernel⟩
set_option maxRecDepth 20000 in
theorem kc_X3_161 : LkV RX3 161 yX3_isOnRing cX3_isOnRing 2 (some .boolean) 1 := ⟨wl_of 775 rfl rfl, wl_of 777 rfl rfl, wl_of 36 rfl rfl, wl_of 44 rfl rfl, wl_of 778 rfl rfl, by decide, by decide +kernel⟩
set_option maxRecDepth 20000 in
theorem kc_X3_165 : LkV RX3 165 yX3_mudBehind cX3_mudBehind 3 (some .int) 1 := ⟨wl_of 800 rfl rfl, wl_of 802 rfl rfl, wl_of 37 rfl rfl, wl_of 44 rfl rfl, wl_of 803 rfl rfl, by decide, by decide +kernel⟩
set_option maxRecDepth 20000 in
theorem kc_X3_171 : LkV RX3 171 yX3_maps cX3_maps 6 none 3 := ⟨wl_of 808 rfl rfl, wl_of 810 rfl rfl, wl_of 38 rfl rfl, wl_of 44 rfl rfl, wl_of 811 rfl rfl, by decide, by decide +kernel⟩
set_option maxRecDepth 20000 in
theorem kc_X3_177 : LkV RX3 177 yX3_isAsTold cX3_isAsTold 2 (some .boolean) 0 := ⟨wl_of 836 rfl rfl, wl_of 838 rfl rfl, wl_of 39 rfl rfl, wl_of 44 rfl rfl, wl_of 839 rfl rfl, by decide, by decide +kernel⟩
set_option maxRecDepth 20000 in
theorem kc_X3_56 : LkS RX3 56 yX3_lays cX3_lays 3 none 2 := ⟨wl_of 661 rfl rfl, wl_of 662 rfl rfl, wl_of 44 rfl rfl, wl_of 663 rfl rfl, by decide, by decide +kernel⟩
set_option maxRecDepth 20000 in
theorem kc_X3_60 : LkS RX3 60 yX3_isIn cX3_isIn 2 (some .boolean) 2 := ⟨wl_of 654 rfl rfl, wl_of 655 rfl rfl, wl_of 44 rfl rfl, wl_of 656 rfl rfl, by decide, by decide +kernel⟩
set_option maxRecDepth 20000 in
theorem kc_X3_64 : LkS RX3 64 yX3_within cX3_within 3 (some .int) 3 := ⟨wl_of 620 rfl rfl, wl_of 621 rfl rfl, wl_of 44 rfl rfl, wl_of 622 rfl rfl, by decide, by decide +kernel⟩
set_option maxRecDepth 20000 in
theorem kc_X3_71 : LkV RX3 71 yX3_refuse cX3_refuse 2 (some .int) 1 := ⟨wl_of 623 rfl rfl, wl_of 625 rfl rfl, wl_of 12 rfl rfl, wl_of 44 rfl rfl, wl_of 626 rfl rfl, by decide, by decide +kernel⟩
set_option maxRecDepth 20000 in
theorem kc_X3_78 : LkV RX3 78 yX3_sign cX3_sign 1 (some .int) 0 := ⟨wl_of 639 rfl rfl, wl_of 641 rfl rfl, wl_of 15 rfl rfl, wl_of 44 rfl rfl, wl_of 642 rfl rfl, by decide, by decide +kernel⟩
set_option maxRecDepth 20000 in
theorem kc_X3_82 : LkS RX3 82 yX3_kindOf cX3_kindOf 1 (some .int) 1 := ⟨wl_of 647 rfl rfl, wl_of 648 rfl rfl, wl_of 44 rfl rfl, wl_of 649 rfl rfl, by decide, by decide +kernel⟩
set_option maxRecDepth 20000 in
theorem kc_X3_85 : LkV RX3 85 yX3_readsKind cX3_readsKind 1 (some .boolean) 0 := ⟨wl_of 643 rfl rfl, wl_of 645 rfl rfl, wl_of 16 rfl rfl, wl_of 44 rfl rfl, wl_of 646 rfl rfl, by decide, by decide +kernel⟩
set_option maxRecDepth 20000 in
theorem kc_X3_89 : LkV RX3 89 yX3_readsNumber cX3_readsNumber 4 (some .boolean) 2 := ⟨wl_of 650 rfl rfl, wl_of 652 rfl rfl, wl_of 17 rfl rfl, wl_of 44 rfl rfl, wl_of 653 rfl rfl, by decide, by decide +kernel⟩
set_option maxRecDepth 20000 in
theorem kc_X3_92 : LkV RX3 92 yX3_takes cX3_takes 2 (some .boolean) 1 := ⟨wl_of 657 rfl rfl, wl_of 659 rfl rfl, wl_of 18 rfl rfl, wl_of 44 rfl rfl, wl_of 660 rfl rfl, by decide, by decide +kernel⟩
set_option maxRecDepth 20000 in
theorem kc_X3_96 : LkS RX3 96 yX3_setIn cX3_setIn 4 none 4 := ⟨wl_of 668 rfl rfl, wl_of 669 rfl rfl, wl_of 44 rfl rfl, wl_of 670 rfl rfl, by decide, by decide +kernel⟩
set_option maxRecDepth 20000 in
theorem kf_X0_15 : FLk RX0 15 0 1 := ⟨RX0, TX0, 2, rfl, by decide, wX0, wl_of 121 rfl rfl⟩
set_option maxRecDepth 20000 in
theorem kf_X0_9 : FLk RX0 9 0 0 := ⟨RX0, TX0, 2, rfl, by decide, wX0, wl_of 120 rfl rfl⟩
set_option maxRecDepth 20000 in
theorem kf_X1_15 : FLk RX1 15 1 1 := ⟨RX1, TX1, 12, rfl, by decide, wX1, wl_of 68 rfl rfl⟩
set_option maxRecDepth 20000 in
theorem kf_X1_18 : FLk RX1 18 1 2 := ⟨RX1, TX1, 12, rfl, by decide, wX1, wl_of 70 rfl rfl⟩
set_option maxRecDepth 20000 in
theorem kf_X1_21 : FLk RX1 21 1 3 := ⟨RX1, TX1, 12, rfl, by decide, wX1, wl_of 72 rfl rfl⟩
set_option maxRecDepth 20000 in
theorem kf_X1_24 : FLk RX1 24 1 4 := ⟨RX1, TX1, 12, rfl, by decide, wX1, wl_of 74 rfl rfl⟩
set_option maxRecDepth 20000 in
theorem kf_X1_27 : FLk RX1 27 1 5 := ⟨RX1, TX1, 12, rfl, by decide, wX1, wl_of 76 rfl rfl⟩
set_option maxRecDepth 20000 in
theorem kf_X1_30 : FLk RX1 30 1 6 := ⟨RX1, TX1, 12, rfl, by decide, wX1, wl_of 78 rfl rfl⟩
set_option maxRecDepth 20000 in
theorem kf_X1_33 : FLk RX1 33 1 7 := ⟨RX1, TX1, 12, rfl, by decide, wX1, wl_of 80 rfl rfl⟩
set_option maxRecDepth 20000 in
theorem kf_X1_36 : FLk RX1 36 1 10 := ⟨RX1, TX1, 12, rfl, by decide, wX1, wl_of 85 rfl rfl⟩
set_option maxRecDepth 20000 in
theorem kf_X1_40 : FLk RX1 40 1 11 := ⟨RX1, TX1, 12, rfl, by decide, wX1, wl_of 87 rfl rfl⟩
set_option maxRecDepth 20000 in
theorem kf_X1_49 : FLk RX1 49 1 8 := ⟨RX1, TX1, 12, rfl, by decide, wX1, wl_of 81 rfl rfl⟩
set_option maxRecDepth 20000 in
theorem kf_X1_52 : FLk RX1 52 1 9 := ⟨RX1, TX1, 12, rfl, by decide, wX1, wl_of 83 rfl rfl⟩
set_option maxRecDepth 20000 in
theorem kf_X1_9 : FLk RX1 9 1 0 := ⟨RX1, TX1, 12, rfl, by decide, wX1, wl_of 66 rfl rfl⟩
set_option maxRecDepth 20000 in
theorem kf_X2_12 : FLk RX2 12 2 0 := ⟨RX2, TX2, 11, rfl, by decide, wX2, wl_of 129 rfl rfl⟩
set_option maxRecDepth 20000 in
theorem kf_X2_120 : FLn RX2 120 1 8 := ⟨rfl, RX1, TX1, 12, rfl, by decide, wX1, List.mem_of_getElem? (i := 7) rfl⟩
set_option maxRecDepth 20000 in
theorem kf_X2_132 : FLn RX2 132 1 10 := ⟨rfl, RX1, TX1, 12, rfl, by decide, wX1, List.mem_of_getElem? (i := 9) rfl⟩
set_option maxRecDepth 20000 in
theorem kf_X2_151 : FLk RX2 151 2 9 := ⟨RX2, TX2, 11, rfl, by decide, wX2, wl_of 138 rfl rfl⟩
set_option maxRecDepth 20000 in
theorem kf_X2_16 : FLk RX2 16 2 1 := ⟨RX2, TX2, 11, rfl, by decide, wX2, wl_of 130 rfl rfl⟩
set_option maxRecDepth 20000 in
theorem kf_X2_161 : FLk RX2 161 2 10 := ⟨RX2, TX2, 11, rfl, by decide, wX2, wl_of 139 rfl rfl⟩
set_option maxRecDepth 20000 in
theorem kf_X2_19 : FLk RX2 19 2 2 := ⟨RX2, TX2, 11, rfl, by decide, wX2, wl_of 131 rfl rfl⟩
set_option maxRecDepth 20000 in
theorem kf_X2_22 : FLk RX2 22 2 3 := ⟨RX2, TX2, 11, rfl, by decide, wX2, wl_of 132 rfl rfl⟩
set_option maxRecDepth 20000 in
theorem kf_X2_28 : FLk RX2 28 2 4 := ⟨RX2, TX2, 11, rfl, by decide, wX2, wl_of 133 rfl rfl⟩
set_option maxRecDepth 20000 in
theorem kf_X2_32 : FLk RX2 32 2 5 := ⟨RX2, TX2, 11, rfl, by decide, wX2, wl_of 134 rfl rfl⟩
set_option maxRecDepth 20000 in
theorem kf_X2_36 : FLk RX2 36 2 6 := ⟨RX2, TX2, 11, rfl, by decide, wX2, wl_of 135 rfl rfl⟩
set_option maxRecDepth 20000 in
theorem kf_X2_39 : FLk RX2 39 2 7 := ⟨RX2, TX2, 11, rfl, by decide, wX2, wl_of 136 rfl rfl⟩
set_option maxRecDepth 20000 in
theorem kf_X2_42 : FLk RX2 42 2 8 := ⟨RX2, TX2, 11, rfl, by decide, wX2, wl_of 137 rfl rfl⟩
set_option maxRecDepth 20000 in
theorem kf_X2_61 : FLn RX2 61 0 1 := ⟨rfl, RX0, TX0, 2, rfl, by decide, wX0, List.mem_of_getElem? (i := 10) rfl⟩
set_option maxRecDepth 20000 in
theorem kf_X2_73 : FLn RX2 73 1 0 := ⟨rfl, RX1, TX1, 12, rfl, by decide, wX1, List.mem_of_getElem? (i := 0) rfl⟩
set_option maxRecDepth 20000 in
theorem kf_X2_76 : FLn RX2 76 1 1 := ⟨rfl, RX1, TX1, 12, rfl, by decide, wX1, List.mem_of_getElem? (i := 1) rfl⟩
set_option maxRecDepth 20000 in
theorem kf_X2_79 : FLn RX2 79 1 2 := ⟨rfl, RX1, TX1, 12, rfl, by decide, wX1, List.mem_of_getElem? (i := 2) rfl⟩
set_option maxRecDepth 20000 in
theorem kf_X2_82 : FLn RX2 82 1 3 := ⟨rfl, RX1, TX1, 12, rfl, by decide, wX1, List.mem_of_getElem? (i := 3) rfl⟩
set_option maxRecDepth 20000 in
theorem kf_X2_85 : FLn RX2 85 1 4 := ⟨rfl, RX1, TX1, 12, rfl, by decide, wX1, List.mem_of_getElem? (i := 4) rfl⟩
set_option maxRecDepth 20000 in
theorem kf_X2_88 : FLn RX2 88 1 5 := ⟨rfl, RX1, TX1, 12, rfl, by decide, wX1, List.mem_of_getElem? (i := 5) rfl⟩
set_option maxRecDepth 20000 in
theorem kf_X2_91 : FLn RX2 91 1 6 := ⟨rfl, RX1, TX1, 12, rfl, by decide, wX1, List.mem_of_getElem? (i := 6) rfl⟩
set_option maxRecDepth 20000 in
theorem kf_X2_97 : FLn RX2 97 1 9 := ⟨rfl, RX1, TX1, 12, rfl, by decide, wX1, List.mem_of_getElem? (i := 8) rfl⟩
set_option maxRecDepth 20000 in
theorem kf_X3_13 : FLk RX3 13 3 1 := ⟨RX3, TX3, 20, rfl, by decide, wX3, wl_of 556 rfl rfl⟩
set_option maxRecDepth 20000 in
theorem kf_X3_16 : FLk RX3 16 3 2 := ⟨RX3, TX3, 20, rfl, by decide, wX3, wl_of 557 rfl rfl⟩
set_option maxRecDepth 20000 in
theorem kf_X3_168 : FLk RX3 168 3 17 := ⟨RX3, TX3, 20, rfl, by decide, wX3, wl_of 572 rfl rfl⟩
set_option maxRecDepth 20000 in
theorem kf_X3_174 : FLk RX3 174 3 19 := ⟨RX3, TX3, 20, rfl, by decide, wX3, wl_of 574 rfl rfl⟩
set_option maxRecDepth 20000 in
theorem kf_X3_183 : FLk RX3 183 3 5 := ⟨RX3, TX3, 20, rfl, by decide, wX3, wl_of 560 rfl rfl⟩
set_option maxRecDepth 20000 in
theorem kf_X3_19 : FLk RX3 19 3 3 := ⟨RX3, TX3, 20, rfl, by decide, wX3, wl_of 558 rfl rfl⟩
set_option maxRecDepth 20000 in
theorem kf_X3_22 : FLk RX3 22 3 4 := ⟨RX3, TX3, 20, rfl, by decide, wX3, wl_of 559 rfl rfl⟩
set_option maxRecDepth 20000 in
theorem kf_X3_25 : FLk RX3 25 3 6 := ⟨RX3, TX3, 20, rfl, by decide, wX3, wl_of 561 rfl rfl⟩
set_option maxRecDepth 20000 in
theorem kf_X3_29 : FLk RX3 29 3 7 := ⟨RX3, TX3, 20, rfl, by decide, wX3, wl_of 562 rfl rfl⟩
set_option maxRecDepth 20000 in
theorem kf_X3_32 : FLk RX3 32 3 8 := ⟨RX3, TX3, 20, rfl, by decide, wX3, wl_of 563 rfl rfl⟩
set_option maxRecDepth 20000 in
theorem kf_X3_35 : FLk RX3 35 3 9 := ⟨RX3, TX3, 20, rfl, by decide, wX3, wl_of 564 rfl rfl⟩
set_option maxRecDepth 20000 in
theorem kf_X3_38 : FLk RX3 38 3 12 := ⟨RX3, TX3, 20, rfl, by decide, wX3, wl_of 567 rfl rfl⟩
set_option maxRecDepth 20000 in
theorem kf_X3_41 : FLk RX3 41 3 13 := ⟨RX3, TX3, 20, rfl, by decide, wX3, wl_of 568 rfl rfl⟩
set_option maxRecDepth 20000 in
theorem kf_X3_44 : FLk RX3 44 3 14 := ⟨RX3, TX3, 20, rfl, by decide, wX3, wl_of 569 rfl rfl⟩
set_option maxRecDepth 20000 in
theorem kf_X3_47 : FLk RX3 47 3 15 := ⟨RX3, TX3, 20, rfl, by decide, wX3, wl_of 570 rfl rfl⟩
set_option maxRecDepth 20000 in
theorem kf_X3_50 : FLk RX3 50 3 16 := ⟨RX3, TX3, 20, rfl, by decide, wX3, wl_of 571 rfl rfl⟩
set_option maxRecDepth 20000 in
theorem kf_X3_53 : FLk RX3 53 3 18 := ⟨RX3, TX3, 20, rfl, by decide, wX3, wl_of 573 rfl rfl⟩
set_option maxRecDepth 20000 in
theorem kf_X3_68 : FLk RX3 68 3 10 := ⟨RX3, TX3, 20, rfl, by decide, wX3, wl_of 565 rfl rfl⟩
set_option maxRecDepth 20000 in
theorem kf_X3_7 : FLk RX3 7 3 0 := ⟨RX3, TX3, 20, rfl, by decide, wX3, wl_of 555 rfl rfl⟩
set_option maxRecDepth 20000 in
theorem kf_X3_75 : FLk RX3 75 3 11 := ⟨RX3, TX3, 20, rfl, by decide, wX3, wl_of 566 rfl rfl⟩
set_option maxRecDepth 20000 in
theorem kk_X2_135 : Cond.constant RX2 135 (1000000000) ∈ WL := wl_of 465 rfl rfl
set_option maxRecDepth 20000 in
theorem kk_X2_158 : Cond.constant RX2 158 (1664525) ∈ WL := wl_of 530 rfl rfl
set_option maxRecDepth 20000 in
theorem kk_X2_159 : Cond.constant RX2 159 (1013904223) ∈ WL := wl_of 531 rfl rfl
set_option maxRecDepth 20000 in
theorem kk_X2_160 : Cond.constant RX2 160 (2147483647) ∈ WL := wl_of 532 rfl rfl
set_option maxRecDepth 20000 in
theorem kk_X3_164 : Cond.constant RX3 164 (1000000000) ∈ WL := wl_of 799 rfl rfl
set_option maxRecDepth 20000 in
theorem kk_X3_180 : Cond.constant RX3 180 (1664525) ∈ WL := wl_of 848 rfl rfl
set_option maxRecDepth 20000 in
theorem kk_X3_181 : Cond.constant RX3 181 (1013904223) ∈ WL := wl_of 849 rfl rfl
set_option maxRecDepth 20000 in
theorem kk_X3_182 : Cond.constant RX3 182 (2147483647) ∈ WL := wl_of 850 rfl rfl
set_option maxRecDepth 20000 in
theorem kp_X0_15 : FPk RX0 15 0 1 .int := ⟨RX0, TX0, 2, rfl, by decide, wX0, wl_of 121 rfl rfl, rfl, rfl, ⟨tyX0, tyX0_ok⟩, nmX0⟩
set_option maxRecDepth 20000 in
theorem kp_X1_36 : FPk RX1 36 1 10 .int := ⟨RX1, TX1, 12, rfl, by decide, wX1, wl_of 85 rfl rfl, rfl, rfl, ⟨tyX1, tyX1_ok⟩, nmX1⟩
set_option maxRecDepth 20000 in
theorem kp_X1_40 : FPk RX1 40 1 11 .int := ⟨RX1, TX1, 12, rfl, by decide, wX1, wl_of 87 rfl rfl, rfl, rfl, ⟨tyX1, tyX1_ok⟩, nmX1⟩
set_option maxRecDepth 20000 in
theorem kp_X1_49 : FPk RX1 49 1 8 .int := ⟨RX1, TX1, 12, rfl, by decide, wX1, wl_of 81 rfl rfl, rfl, rfl, ⟨tyX1, tyX1_ok⟩, nmX1⟩
set_option maxRecDepth 20000 in
theorem kp_X1_52 : FPk RX1 52 1 9 .int := ⟨RX1, TX1, 12, rfl, by decide, wX1, wl_of 83 rfl rfl, rfl, rfl, ⟨tyX1, tyX1_ok⟩, nmX1⟩
set_option maxRecDepth 20000 in
theorem kp_X2_132 : FPn RX2 132 1 10 .int := ⟨rfl, RX1, TX1, 12, rfl, by decide, wX1, List.mem_of_getElem? (i := 9) rfl, rfl, rfl, ⟨tyX1, tyX1_ok⟩, nmX1⟩
set_option maxRecDepth 20000 in
theorem kp_X2_151 : FPk RX2 151 2 9 .int := ⟨RX2, TX2, 11, rfl, by decide, wX2, wl_of 138 rfl rfl, rfl, rfl, ⟨tyX2, tyX2_ok⟩, nmX2⟩
set_option maxRecDepth 20000 in
theorem kp_X2_161 : FPk RX2 161 2 10 .boolean := ⟨RX2, TX2, 11, rfl, by decide, wX2, wl_of 139 rfl rfl, rfl, rfl, ⟨tyX2, tyX2_ok⟩, nmX2⟩
set_option maxRecDepth 20000 in
theorem kp_X2_61 : FPn RX2 61 0 1 .int := ⟨rfl, RX0, TX0, 2, rfl, by decide, wX0, List.mem_of_getElem? (i := 10) rfl, rfl, rfl, ⟨tyX0, tyX0_ok⟩, nmX0⟩
set_option maxRecDepth 20000 in
theorem kp_X3_168 : FPk RX3 168 3 17 .int := ⟨RX3, TX3, 20, rfl, by decide, wX3, wl_of 572 rfl rfl, rfl, rfl, ⟨tyX3, tyX3_ok⟩, nmX3⟩
set_option maxRecDepth 20000 in
theorem kp_X3_174 : FPk RX3 174 3 19 .int := ⟨RX3, TX3, 20, rfl, by decide, wX3, wl_of 574 rfl rfl, rfl, rfl, ⟨tyX3, tyX3_ok⟩, nmX3⟩
set_option maxRecDepth 20000 in
theorem kp_X3_183 : FPk RX3 183 3 5 .boolean := ⟨RX3, TX3, 20, rfl, by decide, wX3, wl_of 560 rfl rfl, rfl, rfl, ⟨tyX3, tyX3_ok⟩, nmX3⟩
set_option maxRecDepth 20000 in
theorem kp_X3_25 : FPk RX3 25 3 6 .int := ⟨RX3, TX3, 20, rfl, by decide, wX3, wl_of 561 rfl rfl, rfl, rfl, ⟨tyX3, tyX3_ok⟩, nmX3⟩
set_option maxRecDepth 20000 in
theorem kp_X3_29 : FPk RX3 29 3 7 .int := ⟨RX3, TX3, 20, rfl, by decide, wX3, wl_of 562 rfl rfl, rfl, rfl, ⟨tyX3, tyX3_ok⟩, nmX3⟩
set_option maxRecDepth 20000 in
theorem kp_X3_68 : FPk RX3 68 3 10 .int := ⟨RX3, TX3, 20, rfl, by decide, wX3, wl_of 565 rfl rfl, rfl, rfl, ⟨tyX3, tyX3_ok⟩, nmX3⟩
set_option maxRecDepth 20000 in
theorem kp_X3_75 : FPk RX3 75 3 11 .int := ⟨RX3, TX3, 20, rfl, by decide, wX3, wl_of 566 rfl rfl, rfl, rfl, ⟨tyX3, tyX3_ok⟩, nmX3⟩
end
section
/-! what is known beside the world: the text, and a static -/
def KF (G : Gx) (U : State) : Prop := va_K G.1 vwCl [(G.2.1, .int), (G.2.2.1, .char)] U
def KLen : List Nat := [6]
def KByt : List (List Int32) := [[100, 108, 116, 119, 109, 99]]
def NF (U : State) : Prop := ∀ q ∈ nestL, va_Nw (.fieldLinkNest RX2 q.1 q.2.1 q.2.2.1 q.2.2.2 RX2) U
def SF (G : Gx) (A : Nat → Prop) (U : State) (H : Heap) : Prop :=
  NF U ∧ vk_S 1 KLen KByt (fun _ => G.2.2.2 100) (fun _ => G.2.2.2 101) A U H ∧ vk_R RX0 43 "dltwmc" (G.2.2.2 100) U ∧ vk_R RX2 178 "dltwmc" (G.2.2.2 100) U ∧ va_Z "java/lang/String" "COMPACT_STRINGS" "Z" (.int 1) A U H
def AW (G : Gx) (sz : Nat) : Nat → Prop := fun q => (∃ o : Nat, o < NO ∧ q = G.2.2.2 o) ∨ sz ≤ q
theorem AW_D {G : Gx} {σ : Sg} {A : Nat → Prop} {sz : Nat} (h : va_D A (world G σ)) : va_D (AW G sz) (world G σ) := ⟨h.1, fun k q hk => by
  obtain ⟨h1, rfl⟩ := world_in hk
  exact Or.inl ⟨k, h1, rfl⟩⟩
theorem AW_sub {G : Gx} {σ : Sg} {A : Nat → Prop} {sz s0 : Nat} (h : va_D A (world G σ)) (hA : ∀ q, s0 ≤ q → A q) (hs : s0 ≤ sz) : ∀ q, AW G sz q → A q := by
  intro q hq
  rcases hq with ⟨o, ho, rfl⟩ | hq
  · exact h.2 o _ (world_at ho)
  · exact hA q (Nat.le_trans hs hq)
theorem SF_call {G : Gx} {A : Nat → Prop} {s U : State} {H : Heap} {locs : List Loc} {B : Nat → Prop} (h : SF G A s s.heap) (hW : s.WarmedH U.vm) (hS : va_S A s.heap H locs) (hU : U.heap = H) (hB : ∀ q, B q → A q) : SF G B U U.heap := by
  obtain ⟨h0, h1, h2, h3, h4⟩ := h
  rw [hU]
  exact ⟨fun q hq => va_Nw.warmF hW (h0 q hq), ((h1.kept hS.2.1).moved hW.alike).narrow hB, h2.warm hW, h3.warm hW, ((h4.kept hS.2.1).moved hW.alike).narrow hB⟩
theorem SF_same {G : Gx} {A : Nat → Prop} {U U1 : State} (h : SF G A U U.heap) (hv : U1.vm = U.vm) (hh : U1.heap = U.heap) : SF G A U1 U1.heap := by
  obtain ⟨h0, h1, h2, h3, h4⟩ := h
  rw [hh]
  exact ⟨fun q hq => va_Nw.same rfl hv.symm (h0 q hq), h1.moved (by rw [hv]; exact Vm.Alike.refl _), vk_R.same hv h2, vk_R.same hv h3, h4.moved (by rw [hv]; exact Vm.Alike.refl _)⟩
/-! contracts -/
def rmD (d : Nat) : Room := { frames := d, cells := 0, slots := 0, locals := 64 * d }
def PC (G : Gx) (av : List Value) (σ : Sg) (sz : Nat) : Array Value → State → Prop := fun v U => v = (av.map (abv G.2.2.2)).toArray ∧ U.heap.size = sz ∧ va_P G.1 vwCl (world G σ) U.heap ∧ KF G U ∧ va_D (fun _ => True) (world G σ) ∧ SF G (AW G sz) U U.heap
def QC (G : Gx) (post : Option Value → Sg → Prop) (sz : Nat) : Array Value → State → Outcome → State → Prop := fun _ st oc t =>
  (∃ (r : Option Value) (σ' : Sg), oc = .returned (r.map (abv G.2.2.2)) ∧ post r σ' ∧ va_P G.1 vwCl (world G σ') t.heap) ∧ va_F (AW G sz) st t
def Con (d : Nat) (y : MethodName) (cc : ByteArray) (nL : Nat) (ret : Option FieldType) (av : List Value) (σ : Sg) (post : Option Value → Sg → Prop) : Prop :=
  ∀ (l : Launch) (G : Gx) (sz : Nat), Met l y (Cond.code y cc nL ret :: WL) (rmD d) (PC G av σ sz) (QC G post sz) 0 0 (AW G sz)
def PI (p : Int32 → Sg → Prop) : Option Value → Sg → Prop := fun r σ => ∃ v : Int32, r = some (.int v) ∧ p v σ
def PV (p : Sg → Prop) : Option Value → Sg → Prop := fun r σ => r = none ∧ p σ
/-! the walks -/
abbrev Cx : Type := Program × Launch × Env × Room × State × MethodId × Array Value × List Frame × Method × Code × Nat × Nat × (State → Prop) × (Nat → Prop) × Gx
def xp (x : Cx) := x.1
def xl (x : Cx) := x.2.1
def xe (x : Cx) := x.2.2.1
def xR (x : Cx) := x.2.2.2.1
def xs (x : Cx) := x.2.2.2.2.1
def xm (x : Cx) := x.2.2.2.2.2.1
def xa (x : Cx) := x.2.2.2.2.2.2.1
def xb (x : Cx) := x.2.2.2.2.2.2.2.1
def xM (x : Cx) := x.2.2.2.2.2.2.2.2.1
def xc (x : Cx) := x.2.2.2.2.2.2.2.2.2.1
def xk (x : Cx) := x.2.2.2.2.2.2.2.2.2.2.1
def xn (x : Cx) := x.2.2.2.2.2.2.2.2.2.2.2.1
def xQ (x : Cx) := x.2.2.2.2.2.2.2.2.2.2.2.2.1
def xA (x : Cx) := x.2.2.2.2.2.2.2.2.2.2.2.2.2.1
def xG (x : Cx) : Gx := x.2.2.2.2.2.2.2.2.2.2.2.2.2.2
def FX (x : Cx) (own : String) (cc : ByteArray) (nL : Nat) : Prop :=
  (xp x).tables.exec = Jvm.exec ∧ (xc x).code = cc ∧ (xc x).maxLocals = nL ∧ (xs x).vm.findClass own = some (xm x).cls ∧ (∀ w ∈ WL, w.before (xa x) (xs x) = true) ∧ KF (xG x) (xs x) ∧ va_D (xA x) (world (xG x) (fun _ _ => 0)) ∧
  SF (xG x) (xA x) (xs x) (xs x).heap ∧ (∀ q, (xs x).heap.size ≤ q → xA x q) ∧ xk x ≤ (xR x).cells ∧ xn x ≤ (xR x).slots
def lvO (ad : Nat → Nat) (ls : Array Slot) (nL : Nat) (L : List (Option Value)) : Prop := ls.size = nL ∧ L.length ≤ nL ∧ lv_wf ls ∧ ∀ (k : Nat) (v : Value), L[k]? = some (some v) → ls[k]? = some (.val (abv ad v)) ∧ v.category = 1
def V (x : Cx) (own : String) (cc : ByteArray) (nL : Nat) (pc : Nat) (L : List (Option Value)) (st : List Value) (σ : Sg) : Prop :=
  FX x own cc nL → ∀ (H : Heap) (locs : List Loc) (ls : Array Slot), va_P (xG x).1 vwCl (world (xG x) σ) H → va_S (xA x) (xs x).heap H locs → lvO (xG x).2.2.2 ls nL L →
    W (xp x) (xl x) (xe x) (xR x) (xs x) (xm x) (xa x) (xb x) (xM x) (xc x) H locs (xk x) (xn x) (xQ x) (F0 (xm x) pc ls (st.map (abv (xG x).2.2.2)))
/-- the room of a callee of depth d -/
def Rm (x : Cx) (d : Nat) : Prop := d + 1 ≤ (xR x).frames ∧ 64 * (d + 1) ≤ (xR x).locals
def prs (ad : Nat → Nat) (L : List (Option Value)) : List (Nat × Value) := (List.range L.length).filterMap (fun k => match L[k]? with | some (some v) => some (k, abv ad v) | _ => none)
theorem prs_mem {ad : Nat → Nat} {L : List (Option Value)} {q : Nat × Value} : q ∈ prs ad L ↔ ∃ v : Value, L[q.1]? = some (some v) ∧ q.2 = abv ad v := by
  unfold prs
  rw [List.mem_filterMap]
  constructor
  · rintro ⟨k, hk, h⟩
    cases hL : L[k]? with
    | none => rw [hL] at h; cases h
    | some z => cases z with
      | none => rw [hL] at h; cases h
      | some v =>
        rw [hL] at h
        cases h
        exact ⟨v, hL, rfl⟩
  · rintro ⟨v, h1, h2⟩
    refine ⟨q.1, List.mem_range.mpr (List.getElem?_eq_some_iff.mp h1).1, ?_⟩
    rw [h1]
    show some (q.1, abv ad v) = some q
    rw [← h2]
theorem lvO_has {ad : Nat → Nat} {ls : Array Slot} {nL : Nat} {L : List (Option Value)} (h : lvO ad ls nL L) : lv_has ls nL (prs ad L) := by
  refine ⟨h.1, h.2.2.1, fun q hq => ?_⟩
  obtain ⟨v, h1, h2⟩ := prs_mem.mp hq
  rw [h2]
  exact (h.2.2.2 q.1 v h1).1
theorem lvO_set {ad : Nat → Nat} {ls ls' : Array Slot} {nL i : Nat} {L : List (Option Value)} {v : Value} (h : lvO ad ls nL L) (hv : v.category = 1) (h' : lv_has ls' nL ((i, abv ad v) :: (prs ad L).filter (fun q => !(q.1 == i) && !(q.1 + 1 == i && q.2.category == 2)))) : lvO ad ls' nL (L.set i (some v)) := by
  refine ⟨h'.1, by rw [List.length_set]; exact h.2.1, h'.2.1, fun k u hk => ?_⟩
  by_cases hki : k = i
  · subst hki
    have hlt : k < L.length := by
      have := (List.getElem?_eq_some_iff.mp hk).1
      rwa [List.length_set] at this
    rw [List.getElem?_set_self hlt] at hk
    cases hk
    exact ⟨h'.2.2 (k, abv ad v) List.mem_cons_self, hv⟩
  · rw [List.getElem?_set_ne (Ne.symm hki)] at hk
    have hc := (h.2.2.2 k u hk).2
    refine ⟨h'.2.2 (k, abv ad u) (List.mem_cons_of_mem _ (List.mem_filter.mpr ⟨prs_mem.mpr ⟨u, hk, rfl⟩, ?_⟩)), hc⟩
    simp [hki, abv_cat, hc]
theorem lvO_le {ad : Nat → Nat} {ls : Array Slot} {nL : Nat} {L L' : List (Option Value)} (h : lvO ad ls nL L) (hn : L'.length ≤ nL) (hL : ∀ (k : Nat) (v : Value), L'[k]? = some (some v) → L[k]? = some (some v)) : lvO ad ls nL L' := ⟨h.1, hn, h.2.2.1, fun k v hk => h.2.2.2 k v (hL k v hk)⟩
section VV
variable {x : Cx} {own : String} {cc : ByteArray} {nL pc q : Nat} {L : List (Option Value)} {st : List Value} {σ : Sg}
theorem V.cq (h : V x own cc nL q L st σ) (e : pc = q) : V x own cc nL pc L st σ := e ▸ h
theorem V.le {L' : List (Option Value)} (h : V x own cc nL pc L' st σ) (hn : L'.length ≤ L.length) (hL : ∀ (k : Nat) (v : Value), L'[k]? = some (some v) → L[k]? = some (some v)) : V x own cc nL pc L st σ :=
  fun hF H locs ls hP hS hl => h hF H locs ls hP hS (lvO_le hl (Nat.le_trans hn hl.2.1) hL)
theorem V.iconst {n : Int} {v : Int32} (hd : decode cc pc = .ok (.iconst n, 1)) (e : pc + 1 = q) (hv : Int32.ofInt n = v) (h : V x own cc nL q L (.int v :: st) σ) : V x own cc nL pc L st σ :=
  fun hF H locs ls hP hS hl => lv_iconst hF.1 hF.2.1 hd hv (e ▸ h hF H locs ls hP hS hl)
theorem V.bipush {n : Int} {v : Int32} (hd : decode cc pc = .ok (.bipush n, 2)) (e : pc + 2 = q) (hv : (Int8.ofInt n).toInt32 = v) (h : V x own cc nL q L (.int v :: st) σ) : V x own cc nL pc L st σ :=
  fun hF H locs ls hP hS hl => lv_bipush hF.1 hF.2.1 hd hv (e ▸ h hF H locs ls hP hS hl)
theorem V.sipush {n : Int} {v : Int32} (hd : decode cc pc = .ok (.sipush n, 3)) (e : pc + 3 = q) (hv : (Int16.ofInt n).toInt32 = v) (h : V x own cc nL q L (.int v :: st) σ) : V x own cc nL pc L st σ :=
  fun hF H locs ls hP hS hl => lv_sipush hF.1 hF.2.1 hd hv (e ▸ h hF H locs ls hP hS hl)
theorem V.ldc {idx : Nat} {v : Int32} (hd : decode cc pc = .ok (.ldc idx, 2)) (e : pc + 2 = q) (hc : Cond.constant own idx v ∈ WL) (h : V x own cc nL q L (.int v :: st) σ) : V x own cc nL pc L st σ :=
  fun hF H locs ls hP hS hl => lv_ldc hF.1 hF.2.1 hF.2.2.2.1 (hF.2.2.2.2.1 _ hc) hd (e ▸ h hF H locs ls hP hS hl)
theorem V.iload_n {k : Fin 4} {v : Int32} (hd : decode cc pc = .ok (.iload_n k, 1)) (e : pc + 1 = q) (hk : L[k.val]? = some (some (.int v))) (h : V x own cc nL q L (.int v :: st) σ) : V x own cc nL pc L st σ :=
  fun hF H locs ls hP hS hl => lv_iload_n hF.1 hF.2.1 hd rfl (hl.2.2.2 _ _ hk).1 (e ▸ h hF H locs ls hP hS hl)
theorem V.iload {i : Nat} {v : Int32} (hd : decode cc pc = .ok (.iload i, 2)) (e : pc + 2 = q) (hk : L[i]? = some (some (.int v))) (h : V x own cc nL q L (.int v :: st) σ) : V x own cc nL pc L st σ :=
  fun hF H locs ls hP hS hl => lv_iload hF.1 hF.2.1 hd (hl.2.2.2 _ _ hk).1 (e ▸ h hF H locs ls hP hS hl)
theorem V.aload_n {k : Fin 4} {o : Nat} (hd : decode cc pc = .ok (.aload_n k, 1)) (e : pc + 1 = q) (hk : L[k.val]? = some (some (.ref o))) (h : V x own cc nL q L (.ref o :: st) σ) : V x own cc nL pc L st σ :=
  fun hF H locs ls hP hS hl => lv_aload_n hF.1 hF.2.1 hd rfl (hl.2.2.2 _ _ hk).1 (e ▸ h hF H locs ls hP hS hl)
theorem V.aload {i : Nat} {o : Nat} (hd : decode cc pc = .ok (.aload i, 2)) (e : pc + 2 = q) (hk : L[i]? = some (some (.ref o))) (h : V x own cc nL q L (.ref o :: st) σ) : V x own cc nL pc L st σ :=
  fun hF H locs ls hP hS hl => lv_aload hF.1 hF.2.1 hd (hl.2.2.2 _ _ hk).1 (e ▸ h hF H locs ls hP hS hl)
theorem V.istore_n {k : Fin 4} {v : Int32} (hd : decode cc pc = .ok (.istore_n k, 1)) (e : pc + 1 = q) (hk : k.val < L.length) (h : V x own cc nL q (L.set k.val (some (.int v))) st σ) : V x own cc nL pc L (.int v :: st) σ :=
  fun hF H locs ls hP hS hl => lv_istore_n hF.1 hF.2.1 hd rfl (lvO_has hl) (Nat.lt_of_lt_of_le hk hl.2.1) rfl (fun ls' h' => e ▸ h hF H locs ls' hP hS (lvO_set hl rfl h'))
theorem V.istore {i : Nat} {v : Int32} (hd : decode cc pc = .ok (.istore i, 2)) (e : pc + 2 = q) (hk : i < L.length) (h : V x own cc nL q (L.set i (some (.int v))) st σ) : V x own cc nL pc L (.int v :: st) σ :=
  fun hF H locs ls hP hS hl => lv_istore hF.1 hF.2.1 hd (lvO_has hl) (Nat.lt_of_lt_of_le hk hl.2.1) rfl (fun ls' h' => e ▸ h hF H locs ls' hP hS (lvO_set hl rfl h'))
theorem V.iinc {i : Nat} {n : Int} {u v : Int32} (hd : decode cc pc = .ok (.iinc i n, 3)) (e : pc + 3 = q) (hk : L[i]? = some (some (.int u))) (hv : u + Int32.ofInt n = v) (h : V x own cc nL q (L.set i (some (.int v))) st σ) : V x own cc nL pc L st σ := by
  intro hF H locs ls hP hS hl
  have hm : (i, Value.int u) ∈ prs (xG x).2.2.2 L := prs_mem.mpr ⟨.int u, hk, rfl⟩
  obtain ⟨j, hj⟩ := List.getElem?_of_mem hm
  exact lv_iinc hF.1 hF.2.1 hd (lvO_has hl) hj hv (Nat.lt_of_lt_of_le (List.getElem?_eq_some_iff.mp hk).1 hl.2.1) rfl (fun ls' h' => e ▸ h hF H locs ls' hP hS (lvO_set (v := .int v) hl rfl h'))
theorem V.ist0 {a0 : Option Value} {T : List (Option Value)} {v : Int32} (hd : decode cc pc = .ok (.istore_n 0, 1)) (e : pc + 1 = q) (h : V x own cc nL q (some (.int v) :: T) st σ) : V x own cc nL pc (a0 :: T) (.int v :: st) σ := V.istore_n hd e (by show 0 < _; simp) h
theorem V.inc0  {T : List (Option Value)} {n : Int} {u v : Int32} (hd : decode cc pc = .ok (.iinc 0 n, 3)) (e : pc + 3 = q) (hv : u + Int32.ofInt n = v) (h : V x own cc nL q (some (.int v) :: T) st σ) : V x own cc nL pc (some (.int u) :: T) st σ := V.iinc hd e rfl hv h
theorem V.fg0 {a0 : Option Value} {T : List (Option Value)} (h : V x own cc nL pc (none :: T) st σ) : V x own cc nL pc (a0 :: T) st σ := V.le h (by simp) (fun j v hj => by
  by_cases hjk : j = 0
  · subst hjk; simp at hj
  · have e : (none :: T) = ((a0 :: T).set 0 none) := rfl
    rw [e, List.getElem?_set_ne (Ne.symm hjk)] at hj
    exact hj)
theorem V.ist1 {a0 a1 : Option Value} {T : List (Option Value)} {v : Int32} (hd : decode cc pc = .ok (.istore_n 1, 1)) (e : pc + 1 = q) (h : V x own cc nL q (a0 :: some (.int v) :: T) st σ) : V x own cc nL pc (a0 :: a1 :: T) (.int v :: st) σ := V.istore_n hd e (by show 1 < _; simp) h
theorem V.inc1 {a0 : Option Value}  {T : List (Option Value)} {n : Int} {u v : Int32} (hd : decode cc pc = .ok (.iinc 1 n, 3)) (e : pc + 3 = q) (hv : u + Int32.ofInt n = v) (h : V x own cc nL q (a0 :: some (.int v) :: T) st σ) : V x own cc nL pc (a0 :: some (.int u) :: T) st σ := V.iinc hd e rfl hv h
theorem V.fg1 {a0 a1 : Option Value} {T : List (Option Value)} (h : V x own cc nL pc (a0 :: none :: T) st σ) : V x own cc nL pc (a0 :: a1 :: T) st σ := V.le h (by simp) (fun j v hj => by
  by_cases hjk : j = 1
  · subst hjk; simp at hj
  · have e : (a0 :: none :: T) = ((a0 :: a1 :: T).set 1 none) := rfl
    rw [e, List.getElem?_set_ne (Ne.symm hjk)] at hj
    exact hj)
theorem V.ist2 {a0 a1 a2 : Option Value} {T : List (Option Value)} {v : Int32} (hd : decode cc pc = .ok (.istore_n 2, 1)) (e : pc + 1 = q) (h : V x own cc nL q (a0 :: a1 :: some (.int v) :: T) st σ) : V x own cc nL pc (a0 :: a1 :: a2 :: T) (.int v :: st) σ := V.istore_n hd e (by show 2 < _; simp) h
theorem V.inc2 {a0 a1 : Option Value}  {T : List (Option Value)} {n : Int} {u v : Int32} (hd : decode cc pc = .ok (.iinc 2 n, 3)) (e : pc + 3 = q) (hv : u + Int32.ofInt n = v) (h : V x own cc nL q (a0 :: a1 :: some (.int v) :: T) st σ) : V x own cc nL pc (a0 :: a1 :: some (.int u) :: T) st σ := V.iinc hd e rfl hv h
theorem V.fg2 {a0 a1 a2 : Option Value} {T : List (Option Value)} (h : V x own cc nL pc (a0 :: a1 :: none :: T) st σ) : V x own cc nL pc (a0 :: a1 :: a2 :: T) st σ := V.le h (by simp) (fun j v hj => by
  by_cases hjk : j = 2
  · subst hjk; simp at hj
  · have e : (a0 :: a1 :: none :: T) = ((a0 :: a1 :: a2 :: T).set 2 none) := rfl
    rw [e, List.getElem?_set_ne (Ne.symm hjk)] at hj
    exact hj)
theorem V.ist3 {a0 a1 a2 a3 : Option Value} {T : List (Option Value)} {v : Int32} (hd : decode cc pc = .ok (.istore_n 3, 1)) (e : pc + 1 = q) (h : V x own cc nL q (a0 :: a1 :: a2 :: some (.int v) :: T) st σ) : V x own cc nL pc (a0 :: a1 :: a2 :: a3 :: T) (.int v :: st) σ := V.istore_n hd e (by show 3 < _; simp) h
theorem V.inc3 {a0 a1 a2 : Option Value}  {T : List (Option Value)} {n : Int} {u v : Int32} (hd : decode cc pc = .ok (.iinc 3 n, 3)) (e : pc + 3 = q) (hv : u + Int32.ofInt n = v) (h : V x own cc nL q (a0 :: a1 :: a2 :: some (.int v) :: T) st σ) : V x own cc nL pc (a0 :: a1 :: a2 :: some (.int u) :: T) st σ := V.iinc hd e rfl hv h
theorem V.fg3 {a0 a1 a2 a3 : Option Value} {T : List (Option Value)} (h : V x own cc nL pc (a0 :: a1 :: a2 :: none :: T) st σ) : V x own cc nL pc (a0 :: a1 :: a2 :: a3 :: T) st σ := V.le h (by simp) (fun j v hj => by
  by_cases hjk : j = 3
  · subst hjk; simp at hj
  · have e : (a0 :: a1 :: a2 :: none :: T) = ((a0 :: a1 :: a2 :: a3 :: T).set 3 none) := rfl
    rw [e, List.getElem?_set_ne (Ne.symm hjk)] at hj
    exact hj)
theorem V.ist4 {a0 a1 a2 a3 a4 : Option Value} {T : List (Option Value)} {v : Int32} (hd : decode cc pc = .ok (.istore 4, 2)) (e : pc + 2 = q) (h : V x own cc nL q (a0 :: a1 :: a2 :: a3 :: some (.int v) :: T) st σ) : V x own cc nL pc (a0 :: a1 :: a2 :: a3 :: a4 :: T) (.int v :: st) σ := V.istore hd e (by show 4 < _; simp) h
theorem V.inc4 {a0 a1 a2 a3 : Option Value}  {T : List (Option Value)} {n : Int} {u v : Int32} (hd : decode cc pc = .ok (.iinc 4 n, 3)) (e : pc + 3 = q) (hv : u + Int32.ofInt n = v) (h : V x own cc nL q (a0 :: a1 :: a2 :: a3 :: some (.int v) :: T) st σ) : V x own cc nL pc (a0 :: a1 :: a2 :: a3 :: some (.int u) :: T) st σ := V.iinc hd e rfl hv h
theorem V.fg4 {a0 a1 a2 a3 a4 : Option Value} {T : List (Option Value)} (h : V x own cc nL pc (a0 :: a1 :: a2 :: a3 :: none :: T) st σ) : V x own cc nL pc (a0 :: a1 :: a2 :: a3 :: a4 :: T) st σ := V.le h (by simp) (fun j v hj => by
  by_cases hjk : j = 4
  · subst hjk; simp at hj
  · have e : (a0 :: a1 :: a2 :: a3 :: none :: T) = ((a0 :: a1 :: a2 :: a3 :: a4 :: T).set 4 none) := rfl
    rw [e, List.getElem?_set_ne (Ne.symm hjk)] at hj
    exact hj)
theorem V.ist5 {a0 a1 a2 a3 a4 a5 : Option Value} {T : List (Option Value)} {v : Int32} (hd : decode cc pc = .ok (.istore 5, 2)) (e : pc + 2 = q) (h : V x own cc nL q (a0 :: a1 :: a2 :: a3 :: a4 :: some (.int v) :: T) st σ) : V x own cc nL pc (a0 :: a1 :: a2 :: a3 :: a4 :: a5 :: T) (.int v :: st) σ := V.istore hd e (by show 5 < _; simp) h
theorem V.inc5 {a0 a1 a2 a3 a4 : Option Value}  {T : List (Option Value)} {n : Int} {u v : Int32} (hd : decode cc pc = .ok (.iinc 5 n, 3)) (e : pc + 3 = q) (hv : u + Int32.ofInt n = v) (h : V x own cc nL q (a0 :: a1 :: a2 :: a3 :: a4 :: some (.int v) :: T) st σ) : V x own cc nL pc (a0 :: a1 :: a2 :: a3 :: a4 :: some (.int u) :: T) st σ := V.iinc hd e rfl hv h
theorem V.fg5 {a0 a1 a2 a3 a4 a5 : Option Value} {T : List (Option Value)} (h : V x own cc nL pc (a0 :: a1 :: a2 :: a3 :: a4 :: none :: T) st σ) : V x own cc nL pc (a0 :: a1 :: a2 :: a3 :: a4 :: a5 :: T) st σ := V.le h (by simp) (fun j v hj => by
  by_cases hjk : j = 5
  · subst hjk; simp at hj
  · have e : (a0 :: a1 :: a2 :: a3 :: a4 :: none :: T) = ((a0 :: a1 :: a2 :: a3 :: a4 :: a5 :: T).set 5 none) := rfl
    rw [e, List.getElem?_set_ne (Ne.symm hjk)] at hj
    exact hj)
theorem V.ist6 {a0 a1 a2 a3 a4 a5 a6 : Option Value} {T : List (Option Value)} {v : Int32} (hd : decode cc pc = .ok (.istore 6, 2)) (e : pc + 2 = q) (h : V x own cc nL q (a0 :: a1 :: a2 :: a3 :: a4 :: a5 :: some (.int v) :: T) st σ) : V x own cc nL pc (a0 :: a1 :: a2 :: a3 :: a4 :: a5 :: a6 :: T) (.int v :: st) σ := V.istore hd e (by show 6 < _; simp) h
theorem V.inc6 {a0 a1 a2 a3 a4 a5 : Option Value}  {T : List (Option Value)} {n : Int} {u v : Int32} (hd : decode cc pc = .ok (.iinc 6 n, 3)) (e : pc + 3 = q) (hv : u + Int32.ofInt n = v) (h : V x own cc nL q (a0 :: a1 :: a2 :: a3 :: a4 :: a5 :: some (.int v) :: T) st σ) : V x own cc nL pc (a0 :: a1 :: a2 :: a3 :: a4 :: a5 :: some (.int u) :: T) st σ := V.iinc hd e rfl hv h
theorem V.fg6 {a0 a1 a2 a3 a4 a5 a6 : Option Value} {T : List (Option Value)} (h : V x own cc nL pc (a0 :: a1 :: a2 :: a3 :: a4 :: a5 :: none :: T) st σ) : V x own cc nL pc (a0 :: a1 :: a2 :: a3 :: a4 :: a5 :: a6 :: T) st σ := V.le h (by simp) (fun j v hj => by
  by_cases hjk : j = 6
  · subst hjk; simp at hj
  · have e : (a0 :: a1 :: a2 :: a3 :: a4 :: a5 :: none :: T) = ((a0 :: a1 :: a2 :: a3 :: a4 :: a5 :: a6 :: T).set 6 none) := rfl
    rw [e, List.getElem?_set_ne (Ne.symm hjk)] at hj
    exact hj)
theorem V.ist7 {a0 a1 a2 a3 a4 a5 a6 a7 : Option Value} {T : List (Option Value)} {v : Int32} (hd : decode cc pc = .ok (.istore 7, 2)) (e : pc + 2 = q) (h : V x own cc nL q (a0 :: a1 :: a2 :: a3 :: a4 :: a5 :: a6 :: some (.int v) :: T) st σ) : V x own cc nL pc (a0 :: a1 :: a2 :: a3 :: a4 :: a5 :: a6 :: a7 :: T) (.int v :: st) σ := V.istore hd e (by show 7 < _; simp) h
theorem V.inc7 {a0 a1 a2 a3 a4 a5 a6 : Option Value}  {T : List (Option Value)} {n : Int} {u v : Int32} (hd : decode cc pc = .ok (.iinc 7 n, 3)) (e : pc + 3 = q) (hv : u + Int32.ofInt n = v) (h : V x own cc nL q (a0 :: a1 :: a2 :: a3 :: a4 :: a5 :: a6 :: some (.int v) :: T) st σ) : V x own cc nL pc (a0 :: a1 :: a2 :: a3 :: a4 :: a5 :: a6 :: some (.int u) :: T) st σ := V.iinc hd e rfl hv h
theorem V.fg7 {a0 a1 a2 a3 a4 a5 a6 a7 : Option Value} {T : List (Option Value)} (h : V x own cc nL pc (a0 :: a1 :: a2 :: a3 :: a4 :: a5 :: a6 :: none :: T) st σ) : V x own cc nL pc (a0 :: a1 :: a2 :: a3 :: a4 :: a5 :: a6 :: a7 :: T) st σ := V.le h (by simp) (fun j v hj => by
  by_cases hjk : j = 7
  · subst hjk; simp at hj
  · have e : (a0 :: a1 :: a2 :: a3 :: a4 :: a5 :: a6 :: none :: T) = ((a0 :: a1 :: a2 :: a3 :: a4 :: a5 :: a6 :: a7 :: T).set 7 none) := rfl
    rw [e, List.getElem?_set_ne (Ne.symm hjk)] at hj
    exact hj)
theorem V.iadd {a b : Int32} (hd : decode cc pc = .ok (.iadd, 1)) (e : pc + 1 = q) (h : V x own cc nL q L (.int (a + b) :: st) σ) : V x own cc nL pc L (.int b :: .int a :: st) σ :=
  fun hF H locs ls hP hS hl => lv_iadd hF.1 hF.2.1 hd (e ▸ h hF H locs ls hP hS hl)
theorem V.iaddN {a b : Nat} (hd : decode cc pc = .ok (.iadd, 1)) (e : pc + 1 = q) (h : V x own cc nL q L (.int (nI (a + b)) :: st) σ) : V x own cc nL pc L (.int (nI b) :: .int (nI a) :: st) σ := V.iadd hd e (nI_add a b ▸ h)
theorem V.isub {a b : Int32} (hd : decode cc pc = .ok (.isub, 1)) (e : pc + 1 = q) (h : V x own cc nL q L (.int (a - b) :: st) σ) : V x own cc nL pc L (.int b :: .int a :: st) σ :=
  fun hF H locs ls hP hS hl => lv_isub hF.1 hF.2.1 hd (e ▸ h hF H locs ls hP hS hl)
theorem V.imul {a b : Int32} (hd : decode cc pc = .ok (.imul, 1)) (e : pc + 1 = q) (h : V x own cc nL q L (.int (a * b) :: st) σ) : V x own cc nL pc L (.int b :: .int a :: st) σ :=
  fun hF H locs ls hP hS hl => lv_imul hF.1 hF.2.1 hd (e ▸ h hF H locs ls hP hS hl)
theorem V.imulN {a b : Nat} (hd : decode cc pc = .ok (.imul, 1)) (e : pc + 1 = q) (h : V x own cc nL q L (.int (nI (a * b)) :: st) σ) : V x own cc nL pc L (.int (nI b) :: .int (nI a) :: st) σ := V.imul hd e (pk_mul a b ▸ h)
theorem V.iand {a b : Int32} (hd : decode cc pc = .ok (.iand, 1)) (e : pc + 1 = q) (h : V x own cc nL q L (.int (a &&& b) :: st) σ) : V x own cc nL pc L (.int b :: .int a :: st) σ :=
  fun hF H locs ls hP hS hl => lv_iand hF.1 hF.2.1 hd (e ▸ h hF H locs ls hP hS hl)
theorem V.ior {a b : Int32} (hd : decode cc pc = .ok (.ior, 1)) (e : pc + 1 = q) (h : V x own cc nL q L (.int (a ||| b) :: st) σ) : V x own cc nL pc L (.int b :: .int a :: st) σ :=
  fun hF H locs ls hP hS hl => lv_ior hF.1 hF.2.1 hd (e ▸ h hF H locs ls hP hS hl)
theorem V.ishl {a b : Int32} (hd : decode cc pc = .ok (.ishl, 1)) (e : pc + 1 = q) (h : V x own cc nL q L (.int (a <<< (b &&& 31)) :: st) σ) : V x own cc nL pc L (.int b :: .int a :: st) σ :=
  fun hF H locs ls hP hS hl => lv_ishl hF.1 hF.2.1 hd (e ▸ h hF H locs ls hP hS hl)
theorem V.ishr {a b : Int32} (hd : decode cc pc = .ok (.ishr, 1)) (e : pc + 1 = q) (h : V x own cc nL q L (.int (a >>> (b &&& 31)) :: st) σ) : V x own cc nL pc L (.int b :: .int a :: st) σ :=
  fun hF H locs ls hP hS hl => lv_ishr hF.1 hF.2.1 hd (e ▸ h hF H locs ls hP hS hl)
theorem V.idiv {a b : Int32} (hd : decode cc pc = .ok (.idiv, 1)) (e : pc + 1 = q) (hne : ¬ b = 0) (h : V x own cc nL q L (.int (a / b) :: st) σ) : V x own cc nL pc L (.int b :: .int a :: st) σ :=
  fun hF H locs ls hP hS hl => lv_idiv hF.1 hF.2.1 hd hne (e ▸ h hF H locs ls hP hS hl)
theorem V.irem {a b : Int32} (hd : decode cc pc = .ok (.irem, 1)) (e : pc + 1 = q) (hne : ¬ b = 0) (h : V x own cc nL q L (.int (a - a / b * b) :: st) σ) : V x own cc nL pc L (.int b :: .int a :: st) σ :=
  fun hF H locs ls hP hS hl => lv_irem hF.1 hF.2.1 hd hne (e ▸ h hF H locs ls hP hS hl)
theorem V.iremN {a b : Nat} (hd : decode cc pc = .ok (.irem, 1)) (e : pc + 1 = q) (ha : a < 2 ^ 31) (h0 : 0 < b) (hb : b < 2 ^ 31) (h : V x own cc nL q L (.int (nI (a % b)) :: st) σ) : V x own cc nL pc L (.int (nI b) :: .int (nI a) :: st) σ := V.irem hd e (nI_ne0 h0 hb) (pk_rem ha h0 hb ▸ h)
theorem V.idivN {a b : Nat} (hd : decode cc pc = .ok (.idiv, 1)) (e : pc + 1 = q) (ha : a < 2 ^ 31) (h0 : 0 < b) (hb : b < 2 ^ 31) (h : V x own cc nL q L (.int (nI (a / b)) :: st) σ) : V x own cc nL pc L (.int (nI b) :: .int (nI a) :: st) σ := V.idiv hd e (nI_ne0 h0 hb) (pk_div ha h0 hb ▸ h)
theorem V.isubN {a b : Nat} (hd : decode cc pc = .ok (.isub, 1)) (e : pc + 1 = q) (hb : b ≤ a) (h : V x own cc nL q L (.int (nI (a - b)) :: st) σ) : V x own cc nL pc L (.int (nI b) :: .int (nI a) :: st) σ := V.isub hd e (pk_sub hb ▸ h)
theorem V.ineg {a : Int32} (hd : decode cc pc = .ok (.ineg, 1)) (e : pc + 1 = q) (h : V x own cc nL q L (.int (-a) :: st) σ) : V x own cc nL pc L (.int a :: st) σ :=
  fun hF H locs ls hP hS hl => lv_ineg hF.1 hF.2.1 hd (e ▸ h hF H locs ls hP hS hl)
theorem V.i2c {a v : Int32} (hd : decode cc pc = .ok (.i2c, 1)) (e : pc + 1 = q) (hv : (a.toUInt32 % 65536).toInt32 = v) (h : V x own cc nL q L (.int v :: st) σ) : V x own cc nL pc L (.int a :: st) σ :=
  fun hF H locs ls hP hS hl => lv_i2c hF.1 hF.2.1 hd hv (e ▸ h hF H locs ls hP hS hl)
theorem V.dup {v : Value} (hd : decode cc pc = .ok (.dup, 1)) (e : pc + 1 = q) (hv : v.category = 1) (h : V x own cc nL q L (v :: v :: st) σ) : V x own cc nL pc L (v :: st) σ :=
  fun hF H locs ls hP hS hl => lv_dup hF.1 hF.2.1 hd (abv_cat.trans hv) (e ▸ h hF H locs ls hP hS hl)
theorem V.pop {v : Value} (hd : decode cc pc = .ok (.pop, 1)) (e : pc + 1 = q) (hv : v.category = 1) (h : V x own cc nL q L st σ) : V x own cc nL pc L (v :: st) σ :=
  fun hF H locs ls hP hS hl => lv_pop hF.1 hF.2.1 hd (abv_cat.trans hv) (e ▸ h hF H locs ls hP hS hl)
theorem V.dup2 {v w : Value} (hd : decode cc pc = .ok (.dup2, 1)) (e : pc + 1 = q) (hv : v.category = 1) (hw : w.category = 1) (h : V x own cc nL q L (v :: w :: v :: w :: st) σ) : V x own cc nL pc L (v :: w :: st) σ :=
  fun hF H locs ls hP hS hl => lv_dup2_11 hF.1 hF.2.1 hd (abv_cat.trans hv) (abv_cat.trans hw) (e ▸ h hF H locs ls hP hS hl)
theorem V.goto {off : Int} (hd : decode cc pc = .ok (.goto off, 3)) (ht : (pc : Int) + off = (q : Int)) (h : V x own cc nL q L st σ) : V x own cc nL pc L st σ :=
  fun hF H locs ls hP hS hl => lv_goto hF.1 hF.2.1 hd ht (h hF H locs ls hP hS hl)
theorem V.lookup {dflt : Int} {ps : Array (Int × Int)} {len : Nat} {v : Int32} {off : Int} (hd : decode cc pc = .ok (.lookupswitch dflt ps, len)) (hp : (ps.toList.zip (ps.toList.drop 1)).all (fun (a, next) => a.1 < next.1) = true) (ho : Op.lookupswitch.offset ps.toList dflt v.toInt = off) (ht : (pc : Int) + off = (q : Int)) (h : V x own cc nL q L st σ) : V x own cc nL pc L (.int v :: st) σ :=
  fun hF H locs ls hP hS hl => lv_lookup hF.1 hF.2.1 hd hp ho ht (h hF H locs ls hP hS hl)
theorem V.tableIn {dflt lo hi : Int} {offs : Array Int} {len : Nat} {v : Int32} {off : Int} (hd : decode cc pc = .ok (.tableswitch dflt lo hi offs, len)) (h1 : ¬ v.toInt < lo) (h2 : ¬ hi < v.toInt) (ho : offs[(v.toInt - lo).toNat]? = some off) (ht : (pc : Int) + off = (q : Int)) (h : V x own cc nL q L st σ) : V x own cc nL pc L (.int v :: st) σ :=
  fun hF H locs ls hP hS hl => lv_tableIn hF.1 hF.2.1 hd h1 h2 ho ht (h hF H locs ls hP hS hl)
theorem V.tableOut {dflt lo hi : Int} {offs : Array Int} {len : Nat} {v : Int32} (hd : decode cc pc = .ok (.tableswitch dflt lo hi offs, len)) (h1 : v.toInt < lo ∨ hi < v.toInt) (ht : (pc : Int) + dflt = (q : Int)) (h : V x own cc nL q L st σ) : V x own cc nL pc L (.int v :: st) σ :=
  fun hF H locs ls hP hS hl => lv_tableOut hF.1 hF.2.1 hd h1 ht (h hF H locs ls hP hS hl)
theorem V.if_eq {u : Int32} {off : Int} {t : Nat} (hd : decode cc pc = .ok (.ifCond .eq off, 3)) (ht : (pc : Int) + off = (t : Int)) (e : pc + 3 = q) (kt : u = 0 → V x own cc nL t L st σ) (kf : ¬ u = 0 → V x own cc nL q L st σ) : V x own cc nL pc L (.int u :: st) σ :=
  fun hF H locs ls hP hS hl => lv_if_eq hF.1 hF.2.1 hd ht (fun hc => kt hc hF H locs ls hP hS hl) (fun hc => e ▸ kf hc hF H locs ls hP hS hl)
theorem V.icmp_eq {u v : Int32} {off : Int} {t : Nat} (hd : decode cc pc = .ok (.if_icmp .eq off, 3)) (ht : (pc : Int) + off = (t : Int)) (e : pc + 3 = q) (kt : u = v → V x own cc nL t L st σ) (kf : ¬ u = v → V x own cc nL q L st σ) : V x own cc nL pc L (.int v :: .int u :: st) σ :=
  fun hF H locs ls hP hS hl => lv_icmp_eq hF.1 hF.2.1 hd ht (fun hc => kt hc hF H locs ls hP hS hl) (fun hc => e ▸ kf hc hF H locs ls hP hS hl)
theorem V.if_ne {u : Int32} {off : Int} {t : Nat} (hd : decode cc pc = .ok (.ifCond .ne off, 3)) (ht : (pc : Int) + off = (t : Int)) (e : pc + 3 = q) (kt : ¬ u = 0 → V x own cc nL t L st σ) (kf : u = 0 → V x own cc nL q L st σ) : V x own cc nL pc L (.int u :: st) σ :=
  fun hF H locs ls hP hS hl => lv_if_ne hF.1 hF.2.1 hd ht (fun hc => kt hc hF H locs ls hP hS hl) (fun hc => e ▸ kf hc hF H locs ls hP hS hl)
theorem V.icmp_ne {u v : Int32} {off : Int} {t : Nat} (hd : decode cc pc = .ok (.if_icmp .ne off, 3)) (ht : (pc : Int) + off = (t : Int)) (e : pc + 3 = q) (kt : ¬ u = v → V x own cc nL t L st σ) (kf : u = v → V x own cc nL q L st σ) : V x own cc nL pc L (.int v :: .int u :: st) σ :=
  fun hF H locs ls hP hS hl => lv_icmp_ne hF.1 hF.2.1 hd ht (fun hc => kt hc hF H locs ls hP hS hl) (fun hc => e ▸ kf hc hF H locs ls hP hS hl)
theorem V.if_lt {u : Int32} {off : Int} {t : Nat} (hd : decode cc pc = .ok (.ifCond .lt off, 3)) (ht : (pc : Int) + off = (t : Int)) (e : pc + 3 = q) (kt : u < 0 → V x own cc nL t L st σ) (kf : ¬ u < 0 → V x own cc nL q L st σ) : V x own cc nL pc L (.int u :: st) σ :=
  fun hF H locs ls hP hS hl => lv_if_lt hF.1 hF.2.1 hd ht (fun hc => kt hc hF H locs ls hP hS hl) (fun hc => e ▸ kf hc hF H locs ls hP hS hl)
theorem V.icmp_lt {u v : Int32} {off : Int} {t : Nat} (hd : decode cc pc = .ok (.if_icmp .lt off, 3)) (ht : (pc : Int) + off = (t : Int)) (e : pc + 3 = q) (kt : u < v → V x own cc nL t L st σ) (kf : ¬ u < v → V x own cc nL q L st σ) : V x own cc nL pc L (.int v :: .int u :: st) σ :=
  fun hF H locs ls hP hS hl => lv_icmp_lt hF.1 hF.2.1 hd ht (fun hc => kt hc hF H locs ls hP hS hl) (fun hc => e ▸ kf hc hF H locs ls hP hS hl)
theorem V.if_ge {u : Int32} {off : Int} {t : Nat} (hd : decode cc pc = .ok (.ifCond .ge off, 3)) (ht : (pc : Int) + off = (t : Int)) (e : pc + 3 = q) (kt : 0 ≤ u → V x own cc nL t L st σ) (kf : ¬ 0 ≤ u → V x own cc nL q L st σ) : V x own cc nL pc L (.int u :: st) σ :=
  fun hF H locs ls hP hS hl => lv_if_ge hF.1 hF.2.1 hd ht (fun hc => kt hc hF H locs ls hP hS hl) (fun hc => e ▸ kf hc hF H locs ls hP hS hl)
theorem V.icmp_ge {u v : Int32} {off : Int} {t : Nat} (hd : decode cc pc = .ok (.if_icmp .ge off, 3)) (ht : (pc : Int) + off = (t : Int)) (e : pc + 3 = q) (kt : v ≤ u → V x own cc nL t L st σ) (kf : ¬ v ≤ u → V x own cc nL q L st σ) : V x own cc nL pc L (.int v :: .int u :: st) σ :=
  fun hF H locs ls hP hS hl => lv_icmp_ge hF.1 hF.2.1 hd ht (fun hc => kt hc hF H locs ls hP hS hl) (fun hc => e ▸ kf hc hF H locs ls hP hS hl)
theorem V.if_gt {u : Int32} {off : Int} {t : Nat} (hd : decode cc pc = .ok (.ifCond .gt off, 3)) (ht : (pc : Int) + off = (t : Int)) (e : pc + 3 = q) (kt : 0 < u → V x own cc nL t L st σ) (kf : ¬ 0 < u → V x own cc nL q L st σ) : V x own cc nL pc L (.int u :: st) σ :=
  fun hF H locs ls hP hS hl => lv_if_gt hF.1 hF.2.1 hd ht (fun hc => kt hc hF H locs ls hP hS hl) (fun hc => e ▸ kf hc hF H locs ls hP hS hl)
theorem V.icmp_gt {u v : Int32} {off : Int} {t : Nat} (hd : decode cc pc = .ok (.if_icmp .gt off, 3)) (ht : (pc : Int) + off = (t : Int)) (e : pc + 3 = q) (kt : v < u → V x own cc nL t L st σ) (kf : ¬ v < u → V x own cc nL q L st σ) : V x own cc nL pc L (.int v :: .int u :: st) σ :=
  fun hF H locs ls hP hS hl => lv_icmp_gt hF.1 hF.2.1 hd ht (fun hc => kt hc hF H locs ls hP hS hl) (fun hc => e ▸ kf hc hF H locs ls hP hS hl)
theorem V.if_le {u : Int32} {off : Int} {t : Nat} (hd : decode cc pc = .ok (.ifCond .le off, 3)) (ht : (pc : Int) + off = (t : Int)) (e : pc + 3 = q) (kt : u ≤ 0 → V x own cc nL t L st σ) (kf : ¬ u ≤ 0 → V x own cc nL q L st σ) : V x own cc nL pc L (.int u :: st) σ :=
  fun hF H locs ls hP hS hl => lv_if_le hF.1 hF.2.1 hd ht (fun hc => kt hc hF H locs ls hP hS hl) (fun hc => e ▸ kf hc hF H locs ls hP hS hl)
theorem V.icmp_le {u v : Int32} {off : Int} {t : Nat} (hd : decode cc pc = .ok (.if_icmp .le off, 3)) (ht : (pc : Int) + off = (t : Int)) (e : pc + 3 = q) (kt : u ≤ v → V x own cc nL t L st σ) (kf : ¬ u ≤ v → V x own cc nL q L st σ) : V x own cc nL pc L (.int v :: .int u :: st) σ :=
  fun hF H locs ls hP hS hl => lv_icmp_le hF.1 hF.2.1 hd ht (fun hc => kt hc hF H locs ls hP hS hl) (fun hc => e ▸ kf hc hF H locs ls hP hS hl)
theorem V.icmpN_eq {a b : Nat} {off : Int} {t : Nat} (hd : decode cc pc = .ok (.if_icmp .eq off, 3)) (ht : (pc : Int) + off = (t : Int)) (e : pc + 3 = q) (ha : a < 2 ^ 31) (hb : b < 2 ^ 31) (kt : a = b → V x own cc nL t L st σ) (kf : a ≠ b → V x own cc nL q L st σ) : V x own cc nL pc L (.int (nI b) :: .int (nI a) :: st) σ := by
  have L9 := nI_eq ha hb
  exact V.icmp_eq hd ht e (fun h => kt (L9.mp h)) (fun h => kf (fun z => h (L9.mpr z)))
theorem V.ifN_eq {a : Nat} {off : Int} {t : Nat} (hd : decode cc pc = .ok (.ifCond .eq off, 3)) (ht : (pc : Int) + off = (t : Int)) (e : pc + 3 = q) (ha : a < 2 ^ 31) (kt : a = 0 → V x own cc nL t L st σ) (kf : a ≠ 0 → V x own cc nL q L st σ) : V x own cc nL pc L (.int (nI a) :: st) σ := by
  have hb : 0 < 2 ^ 31 := by decide
  have L9 := nI_eq ha hb
  rw [nI_0] at L9
  exact V.if_eq hd ht e (fun h => kt (L9.mp h)) (fun h => kf (fun z => h (L9.mpr z)))
theorem V.icmpN_ne {a b : Nat} {off : Int} {t : Nat} (hd : decode cc pc = .ok (.if_icmp .ne off, 3)) (ht : (pc : Int) + off = (t : Int)) (e : pc + 3 = q) (ha : a < 2 ^ 31) (hb : b < 2 ^ 31) (kt : a ≠ b → V x own cc nL t L st σ) (kf : a = b → V x own cc nL q L st σ) : V x own cc nL pc L (.int (nI b) :: .int (nI a) :: st) σ := by
  have L9 := nI_eq ha hb
  exact V.icmp_ne hd ht e (fun h => kt (fun z => h (L9.mpr z))) (fun h => kf (L9.mp h))
theorem V.ifN_ne {a : Nat} {off : Int} {t : Nat} (hd : decode cc pc = .ok (.ifCond .ne off, 3)) (ht : (pc : Int) + off = (t : Int)) (e : pc + 3 = q) (ha : a < 2 ^ 31) (kt : a ≠ 0 → V x own cc nL t L st σ) (kf : a = 0 → V x own cc nL q L st σ) : V x own cc nL pc L (.int (nI a) :: st) σ := by
  have hb : 0 < 2 ^ 31 := by decide
  have L9 := nI_eq ha hb
  rw [nI_0] at L9
  exact V.if_ne hd ht e (fun h => kt (fun z => h (L9.mpr z))) (fun h => kf (L9.mp h))
theorem V.icmpN_lt {a b : Nat} {off : Int} {t : Nat} (hd : decode cc pc = .ok (.if_icmp .lt off, 3)) (ht : (pc : Int) + off = (t : Int)) (e : pc + 3 = q) (ha : a < 2 ^ 31) (hb : b < 2 ^ 31) (kt : a < b → V x own cc nL t L st σ) (kf : b ≤ a → V x own cc nL q L st σ) : V x own cc nL pc L (.int (nI b) :: .int (nI a) :: st) σ := by
  have L9 := nI_ltI ha hb
  exact V.icmp_lt hd ht e (fun h => kt (L9.mp h)) (fun h => kf (by have h9 : ¬ _ := fun z => h (L9.mpr z); omega))
theorem V.ifN_lt {a : Nat} {off : Int} {t : Nat} (hd : decode cc pc = .ok (.ifCond .lt off, 3)) (ht : (pc : Int) + off = (t : Int)) (e : pc + 3 = q) (ha : a < 2 ^ 31) (kt : a < 0 → V x own cc nL t L st σ) (kf : 0 ≤ a → V x own cc nL q L st σ) : V x own cc nL pc L (.int (nI a) :: st) σ := by
  have hb : 0 < 2 ^ 31 := by decide
  have L9 := nI_ltI ha hb
  rw [nI_0] at L9
  exact V.if_lt hd ht e (fun h => kt (L9.mp h)) (fun h => kf (by have h9 : ¬ _ := fun z => h (L9.mpr z); omega))
theorem V.icmpN_ge {a b : Nat} {off : Int} {t : Nat} (hd : decode cc pc = .ok (.if_icmp .ge off, 3)) (ht : (pc : Int) + off = (t : Int)) (e : pc + 3 = q) (ha : a < 2 ^ 31) (hb : b < 2 ^ 31) (kt : b ≤ a → V x own cc nL t L st σ) (kf : a < b → V x own cc nL q L st σ) : V x own cc nL pc L (.int (nI b) :: .int (nI a) :: st) σ := by
  have L9 := nI_leI hb ha
  exact V.icmp_ge hd ht e (fun h => kt (L9.mp h)) (fun h => kf (by have h9 : ¬ _ := fun z => h (L9.mpr z); omega))
theorem V.ifN_ge {a : Nat} {off : Int} {t : Nat} (hd : decode cc pc = .ok (.ifCond .ge off, 3)) (ht : (pc : Int) + off = (t : Int)) (e : pc + 3 = q) (ha : a < 2 ^ 31) (kt : 0 ≤ a → V x own cc nL t L st σ) (kf : a < 0 → V x own cc nL q L st σ) : V x own cc nL pc L (.int (nI a) :: st) σ := by
  have hb : 0 < 2 ^ 31 := by decide
  have L9 := nI_leI hb ha
  rw [nI_0] at L9
  exact V.if_ge hd ht e (fun h => kt (L9.mp h)) (fun h => kf (by have h9 : ¬ _ := fun z => h (L9.mpr z); omega))
theorem V.icmpN_gt {a b : Nat} {off : Int} {t : Nat} (hd : decode cc pc = .ok (.if_icmp .gt off, 3)) (ht : (pc : Int) + off = (t : Int)) (e : pc + 3 = q) (ha : a < 2 ^ 31) (hb : b < 2 ^ 31) (kt : b < a → V x own cc nL t L st σ) (kf : a ≤ b → V x own cc nL q L st σ) : V x own cc nL pc L (.int (nI b) :: .int (nI a) :: st) σ := by
  have L9 := nI_ltI hb ha
  exact V.icmp_gt hd ht e (fun h => kt (L9.mp h)) (fun h => kf (by have h9 : ¬ _ := fun z => h (L9.mpr z); omega))
theorem V.ifN_gt {a : Nat} {off : Int} {t : Nat} (hd : decode cc pc = .ok (.ifCond .gt off, 3)) (ht : (pc : Int) + off = (t : Int)) (e : pc + 3 = q) (ha : a < 2 ^ 31) (kt : 0 < a → V x own cc nL t L st σ) (kf : a ≤ 0 → V x own cc nL q L st σ) : V x own cc nL pc L (.int (nI a) :: st) σ := by
  have hb : 0 < 2 ^ 31 := by decide
  have L9 := nI_ltI hb ha
  rw [nI_0] at L9
  exact V.if_gt hd ht e (fun h => kt (L9.mp h)) (fun h => kf (by have h9 : ¬ _ := fun z => h (L9.mpr z); omega))
theorem V.icmpN_le {a b : Nat} {off : Int} {t : Nat} (hd : decode cc pc = .ok (.if_icmp .le off, 3)) (ht : (pc : Int) + off = (t : Int)) (e : pc + 3 = q) (ha : a < 2 ^ 31) (hb : b < 2 ^ 31) (kt : a ≤ b → V x own cc nL t L st σ) (kf : b < a → V x own cc nL q L st σ) : V x own cc nL pc L (.int (nI b) :: .int (nI a) :: st) σ := by
  have L9 := nI_leI ha hb
  exact V.icmp_le hd ht e (fun h => kt (L9.mp h)) (fun h => kf (by have h9 : ¬ _ := fun z => h (L9.mpr z); omega))
theorem V.ifN_le {a : Nat} {off : Int} {t : Nat} (hd : decode cc pc = .ok (.ifCond .le off, 3)) (ht : (pc : Int) + off = (t : Int)) (e : pc + 3 = q) (ha : a < 2 ^ 31) (kt : a ≤ 0 → V x own cc nL t L st σ) (kf : 0 < a → V x own cc nL q L st σ) : V x own cc nL pc L (.int (nI a) :: st) σ := by
  have hb : 0 < 2 ^ 31 := by decide
  have L9 := nI_leI ha hb
  rw [nI_0] at L9
  exact V.if_le hd ht e (fun h => kt (L9.mp h)) (fun h => kf (by have h9 : ¬ _ := fun z => h (L9.mpr z); omega))
theorem wl_hts (hF : FX x own cc nL) {w : Cond} (h : w ∈ WL) : w.before (xa x) (xs x) = true := hF.2.2.2.2.1 w h
theorem world_arr {G : Gx} {o n : Nat} {b : Bool} (h : shp o = .inl (b, n)) (ho : o < NO) : (world G σ)[o]? = some (G.2.2.2 o, .inl (if b = true then G.2.2.1 else G.2.1, n, .inl (σ o))) := by rw [world_at ho, ent_arr h]
theorem world_obj {G : Gx} {o ci : Nat} {ks : List (Option Nat)} (h : shp o = .inr (ci, ks)) (ho : o < NO) : (world G σ)[o]? = some (G.2.2.2 o, .inr (ci, fvs G.2.2.2 (σ o) 0 ks)) := by rw [world_at ho, ent_obj h]
theorem world_put {G : Gx} {o ci k : Nat} {v : Int32} {ks : List (Option Nat)} (h : shp o = .inr (ci, ks)) (ho : o < NO) (hk : ks[k]? = some none) : (world G σ).set o (G.2.2.2 o, .inr (ci, (fvs G.2.2.2 (σ o) 0 ks).set k (.int v))) = world G (w2 σ o k v) := by
  unfold w2
  apply world_set ho
  rw [ent_obj h, so_at, fvs_set G.2.2.2 (σ o) hk]
theorem world_ast {G : Gx} {o n : Nat} {b : Bool} {f : Nat → Int32} (h : shp o = .inl (b, n)) (ho : o < NO) : (world G σ).set o (G.2.2.2 o, .inl (if b = true then G.2.2.1 else G.2.1, n, .inl f)) = world G (so σ o f) := by
  apply world_set ho
  rw [ent_arr h, so_at]
theorem V.getI {o idx ci k : Nat} {ks : List (Option Nat)} {v : Int32} (hd : decode cc pc = .ok (.getfield idx, 3)) (e : pc + 3 = q) (hl : FLk own idx ci k) (hs : shp o = .inr (ci, ks)) (ho : o < NO) (hk : ks[k]? = some none) (hv : σ o k = v) (h : V x own cc nL q L (.int v :: st) σ) : V x own cc nL pc L (.ref o :: st) σ := by
  intro hF H locs ls hP hS hl1
  subst hv
  obtain ⟨C, T, N, h1, h2, h3, h4⟩ := hl
  exact va_get (C := C) (T := T) (N := N) (v := .int (σ o k)) hF.1 hF.2.1 hF.2.2.2.2.1 h3 hF.2.2.2.1 hF.2.2.2.2.2.1 hP o (world_obj hs ho) h1 k h2 (wl_hts hF h4) (fun _ h9 => h9) (by rw [fvs_at, hk]; simp) hd (e ▸ h hF H locs ls hP hS hl1)
theorem V.getR {o idx ci k j : Nat} {ks : List (Option Nat)} (hd : decode cc pc = .ok (.getfield idx, 3)) (e : pc + 3 = q) (hl : FLk own idx ci k) (hs : shp o = .inr (ci, ks)) (ho : o < NO) (hk : ks[k]? = some (some j)) (h : V x own cc nL q L (.ref j :: st) σ) : V x own cc nL pc L (.ref o :: st) σ := by
  intro hF H locs ls hP hS hl1
  obtain ⟨C, T, N, h1, h2, h3, h4⟩ := hl
  exact va_get (C := C) (T := T) (N := N) (v := .ref ((xG x).2.2.2 j)) hF.1 hF.2.1 hF.2.2.2.2.1 h3 hF.2.2.2.1 hF.2.2.2.2.2.1 hP o (world_obj hs ho) h1 k h2 (wl_hts hF h4) (fun _ h9 => h9) (by rw [fvs_at, hk]; simp) hd (e ▸ h hF H locs ls hP hS hl1)
theorem V.putI {o idx ci k : Nat} {ks : List (Option Nat)} {v : Int32} {ty : FieldType} (hd : decode cc pc = .ok (.putfield idx, 3)) (e : pc + 3 = q) (hl : FPk own idx ci k ty) (hs : shp o = .inr (ci, ks)) (ho : o < NO) (hk : ks[k]? = some none) (hn : narrow ty (.int v) = .int v) (hf : fits ty (.int v) = true) (h : V x own cc nL q L st (w2 σ o k v)) : V x own cc nL pc L (.int v :: .ref o :: st) σ := by
  intro hF H locs ls hP hS hl1
  obtain ⟨C, T, N, h1, h2, h3, h4, h5, h6, ⟨ty0, h7⟩, h8⟩ := hl
  refine va_put (C := C) (T := T) (N := N) (v := .int v) (ty := ty) hF.1 hF.2.1 hF.2.2.2.2.1 h3 ty0 h7 h8 hF.2.2.2.1 hF.2.2.2.2.2.1 hP (world_D hF.2.2.2.2.2.2.1) hS o (world_obj hs ho) h1 k h2 (wl_hts hF h4) (fun _ h9 => h9) h5 h6 hn hf (by rw [fvs_len]; exact (List.getElem?_eq_some_iff.mp hk).1) hd (fun H1 locs1 hP1 hD1 hS1 => ?_)
  rw [world_put hs ho hk] at hP1
  exact e ▸ h hF H1 locs1 ls hP1 hS1 hl1
theorem V.getIn {o idx ci k : Nat} {ks : List (Option Nat)} {v : Int32} (hd : decode cc pc = .ok (.getfield idx, 3)) (e : pc + 3 = q) (hl : FLn own idx ci k) (hs : shp o = .inr (ci, ks)) (ho : o < NO) (hk : ks[k]? = some none) (hv : σ o k = v) (h : V x own cc nL q L (.int v :: st) σ) : V x own cc nL pc L (.ref o :: st) σ := by
  intro hF H locs ls hP hS hl1
  subst hv
  obtain ⟨rfl, C, T, N, h1, h2, h3, h4⟩ := hl
  exact va_getN (C := C) (T := T) (N := N) (v := .int (σ o k)) hF.1 hF.2.1 hF.2.2.2.2.1 h3 hF.2.2.2.1 hF.2.2.2.2.2.1 hP o (world_obj hs ho) h1 k h2 (va_Nw.use rfl (hF.2.2.2.2.2.2.2.1.1 _ h4)) (fun _ h9 => h9) (by rw [fvs_at, hk]; simp) hd (e ▸ h hF H locs ls hP hS hl1)
theorem V.getRn {o idx ci k j : Nat} {ks : List (Option Nat)} (hd : decode cc pc = .ok (.getfield idx, 3)) (e : pc + 3 = q) (hl : FLn own idx ci k) (hs : shp o = .inr (ci, ks)) (ho : o < NO) (hk : ks[k]? = some (some j)) (h : V x own cc nL q L (.ref j :: st) σ) : V x own cc nL pc L (.ref o :: st) σ := by
  intro hF H locs ls hP hS hl1
  obtain ⟨rfl, C, T, N, h1, h2, h3, h4⟩ := hl
  exact va_getN (C := C) (T := T) (N := N) (v := .ref ((xG x).2.2.2 j)) hF.1 hF.2.1 hF.2.2.2.2.1 h3 hF.2.2.2.1 hF.2.2.2.2.2.1 hP o (world_obj hs ho) h1 k h2 (va_Nw.use rfl (hF.2.2.2.2.2.2.2.1.1 _ h4)) (fun _ h9 => h9) (by rw [fvs_at, hk]; simp) hd (e ▸ h hF H locs ls hP hS hl1)
theorem V.putIn {o idx ci k : Nat} {ks : List (Option Nat)} {v : Int32} {ty : FieldType} (hd : decode cc pc = .ok (.putfield idx, 3)) (e : pc + 3 = q) (hl : FPn own idx ci k ty) (hs : shp o = .inr (ci, ks)) (ho : o < NO) (hk : ks[k]? = some none) (hn : narrow ty (.int v) = .int v) (hf : fits ty (.int v) = true) (h : V x own cc nL q L st (w2 σ o k v)) : V x own cc nL pc L (.int v :: .ref o :: st) σ := by
  intro hF H locs ls hP hS hl1
  obtain ⟨rfl, C, T, N, h1, h2, h3, h4, h5, h6, ⟨ty0, h7⟩, h8⟩ := hl
  refine va_putN (C := C) (T := T) (N := N) (v := .int v) (ty := ty) hF.1 hF.2.1 hF.2.2.2.2.1 h3 ty0 h7 h8 hF.2.2.2.1 hF.2.2.2.2.2.1 hP (world_D hF.2.2.2.2.2.2.1) hS o (world_obj hs ho) h1 k h2 (va_Nw.use rfl (hF.2.2.2.2.2.2.2.1.1 _ h4)) (fun _ h9 => h9) h5 h6 hn hf (by rw [fvs_len]; exact (List.getElem?_eq_some_iff.mp hk).1) hd (fun H1 locs1 hP1 hD1 hS1 => ?_)
  rw [world_put hs ho hk] at hP1
  exact e ▸ h hF H1 locs1 ls hP1 hS1 hl1
theorem V.iald {o n : Nat} {i v : Int32} (hd : decode cc pc = .ok (.iaload, 1)) (e : pc + 1 = q) (hs : shp o = .inl (false, n)) (ho : o < NO) (hi : vp_in i n) (hv : σ o i.toNatClampNeg = v) (h : V x own cc nL q L (.int v :: st) σ) : V x own cc nL pc L (.int i :: .ref o :: st) σ := by
  intro hF H locs ls hP hS hl1
  subst hv
  exact va_iald hF.1 hF.2.1 hF.2.2.2.2.2.1 hP o 0 (world_arr hs ho) rfl hi hd (e ▸ h hF H locs ls hP hS hl1)
theorem V.iast {o n : Nat} {i v : Int32} (hd : decode cc pc = .ok (.iastore, 1)) (e : pc + 1 = q) (hs : shp o = .inl (false, n)) (ho : o < NO) (hi : vp_in i n) (h : V x own cc nL q L st (w2 σ o i.toNatClampNeg v)) : V x own cc nL pc L (.int v :: .int i :: .ref o :: st) σ := by
  intro hF H locs ls hP hS hl1
  refine va_iast hF.1 hF.2.1 hF.2.2.2.2.2.1 hP (world_D hF.2.2.2.2.2.2.1) hS o 0 (world_arr hs ho) rfl hi hd (fun H1 locs1 hP1 hD1 hS1 => ?_)
  rw [world_ast hs ho] at hP1
  exact e ▸ h hF H1 locs1 ls hP1 hS1 hl1
theorem V.ialdN {o n i : Nat} {v : Int32} (hd : decode cc pc = .ok (.iaload, 1)) (e : pc + 1 = q) (hs : shp o = .inl (false, n)) (ho : o < NO) (hi : i < n) (hn : n < 100) (hv : σ o i = v) (h : V x own cc nL q L (.int v :: st) σ) : V x own cc nL pc L (.int (nI i) :: .ref o :: st) σ :=
  V.iald hd e hs ho (vp_in_nI hi (by omega)) (by rw [nI_clamp (by omega)]; exact hv) h
theorem V.iastN {o n i : Nat} {v : Int32} (hd : decode cc pc = .ok (.iastore, 1)) (e : pc + 1 = q) (hs : shp o = .inl (false, n)) (ho : o < NO) (hi : i < n) (hn : n < 100) (h : V x own cc nL q L st (w2 σ o i v)) : V x own cc nL pc L (.int v :: .int (nI i) :: .ref o :: st) σ :=
  V.iast hd e hs ho (vp_in_nI hi (by omega)) (by rw [nI_clamp (by omega)]; exact h)
theorem V.caldN {o n i : Nat} {v : Int32} (hd : decode cc pc = .ok (.caload, 1)) (e : pc + 1 = q) (hs : shp o = .inl (true, n)) (ho : o < NO) (hi : i < n) (hn : n < 100) (hv : σ o i = v) (h : V x own cc nL q L (.int v :: st) σ) : V x own cc nL pc L (.int (nI i) :: .ref o :: st) σ := by
  intro hF H locs ls hP hS hl1
  subst hv
  have e2 : (nI i).toNatClampNeg = i := nI_clamp (by omega)
  have h2 := e ▸ h hF H locs ls hP hS hl1
  rw [← e2] at h2
  exact va_cald hF.1 hF.2.1 hF.2.2.2.2.2.1 hP o 1 (world_arr hs ho) rfl (vp_in_nI hi (by omega)) hd h2
theorem V.castN {o n i : Nat} {v : Int32} (hd : decode cc pc = .ok (.castore, 1)) (e : pc + 1 = q) (hs : shp o = .inl (true, n)) (ho : o < NO) (hi : i < n) (hn : n < 100) (h : V x own cc nL q L st (w2 σ o i (vp_nar .char v))) : V x own cc nL pc L (.int v :: .int (nI i) :: .ref o :: st) σ := by
  intro hF H locs ls hP hS hl1
  have e2 : (nI i).toNatClampNeg = i := nI_clamp (by omega)
  refine va_cast hF.1 hF.2.1 hF.2.2.2.2.2.1 hP (world_D hF.2.2.2.2.2.2.1) hS o 1 (world_arr hs ho) rfl (vp_in_nI hi (by omega)) hd (fun H1 locs1 hP1 hD1 hS1 => ?_)
  rw [world_ast hs ho, e2] at hP1
  exact e ▸ h hF H1 locs1 ls hP1 hS1 hl1
theorem V.alen {o n : Nat} {b : Bool} (hd : decode cc pc = .ok (.arraylength, 1)) (e : pc + 1 = q) (hs : shp o = .inl (b, n)) (ho : o < NO) (h : V x own cc nL q L (.int (nI n) :: st) σ) : V x own cc nL pc L (.ref o :: st) σ := by
  intro hF H locs ls hP hS hl1
  cases b with
  | false => exact va_alen hF.1 hF.2.1 hF.2.2.2.2.2.1 hP o 0 (world_arr hs ho) (ty := .int) rfl rfl hd (e ▸ h hF H locs ls hP hS hl1)
  | true => exact va_alen hF.1 hF.2.1 hF.2.2.2.2.2.1 hP o 1 (world_arr hs ho) (ty := .char) rfl rfl hd (e ▸ h hF H locs ls hP hS hl1)
theorem V.min {idx : Nat} {a b v : Int32} (hd : decode cc pc = .ok (.invokestatic idx, 3)) (e : pc + 3 = q) (hk : LkM own idx) (hR : Rm x 0) (hc : ((st.map (abv (xG x).2.2.2)).map fun v => v.category).sum ≤ 8) (hv : (if b < a then b else a) = v) (h : V x own cc nL q L (.int v :: st) σ) : V x own cc nL pc L (.int b :: .int a :: st) σ := by
  intro hF H locs ls hP hS hl1
  subst hv
  exact va_mmin hF.1 hF.2.1 (hF.2.2.1.trans hl1.1.symm) hF.2.2.2.1 (wl_hts hF hk.1) (wl_hts hF hk.2.1) (wl_hts hF hk.2.2.1) (wl_hts hF hk.2.2.2) hR.1 (by have := hR.2; omega) hF.2.2.2.2.2.2.2.2.2.1 hF.2.2.2.2.2.2.2.2.2.2 hd (e ▸ h hF H locs ls hP hS hl1)
theorem V.max {idx : Nat} {a b v : Int32} (hd : decode cc pc = .ok (.invokestatic idx, 3)) (e : pc + 3 = q) (hk : LkX own idx) (hR : Rm x 0) (hc : ((st.map (abv (xG x).2.2.2)).map fun v => v.category).sum ≤ 8) (hv : (if a < b then b else a) = v) (h : V x own cc nL q L (.int v :: st) σ) : V x own cc nL pc L (.int b :: .int a :: st) σ := by
  intro hF H locs ls hP hS hl1
  subst hv
  exact va_mmax hF.1 hF.2.1 (hF.2.2.1.trans hl1.1.symm) hF.2.2.2.1 (wl_hts hF hk.1) (wl_hts hF hk.2.1) (wl_hts hF hk.2.2.1) (wl_hts hF hk.2.2.2) hR.1 (by have := hR.2; omega) hF.2.2.2.2.2.2.2.2.2.1 hF.2.2.2.2.2.2.2.2.2.2 hd (e ▸ h hF H locs ls hP hS hl1)
theorem nfw : nativeFrameWords "java/lang/System" "arraycopy" 5 = 7 := by decide +kernel
/-- the six first places of a row, from the beginning -/
theorem V.copy6 {idx o0 o1 : Nat} (hd : decode cc pc = .ok (.invokestatic idx, 3)) (e : pc + 3 = q) (hk : LkA own idx) (hR : Rm x 0) (hc : ((st.map (abv (xG x).2.2.2)).map fun v => v.category).sum ≤ 8) (hs0 : shp o0 = .inl (false, 6)) (ho0 : o0 < NO) (hs1 : shp o1 = .inl (false, 6)) (ho1 : o1 < NO)
    (h : V x own cc nL q L st (so σ o1 (fun k => if k < 6 then σ o0 k else σ o1 k))) : V x own cc nL pc L (.int (nI 6) :: .int (nI 0) :: .ref o1 :: .int (nI 0) :: .ref o0 :: st) σ := by
  intro hF H locs ls hP hS hl1
  refine va_copyi (ty := .int) hF.1 hF.2.1 (hF.2.2.1.trans hl1.1.symm) hF.2.2.2.1 (wl_hts hF hk.1) (wl_hts hF hk.2.1) (wl_hts hF hk.2.2.1) (wl_hts hF hk.2.2.2) hF.2.2.2.2.2.1 hP (world_D hF.2.2.2.2.2.2.1) hS o0 o1 0 0 (world_arr hs0 ho0) (world_arr hs1 ho1) rfl rfl rfl (by decide +kernel) (by decide +kernel) (by decide +kernel) (by decide +kernel) (by decide +kernel) (fun i hi => rfl) hR.1 (by have := hR.2; rw [nfw]; omega) hd (fun H1 locs1 hP1 hD1 hS1 => ?_)
  have e1 : va_cpy (σ o0) (σ o1) (nI 0).toNatClampNeg (nI 0).toNatClampNeg (nI 6).toNatClampNeg = fun k => if k < 6 then σ o0 k else σ o1 k := by
    funext k
    have e0 : (nI 0).toNatClampNeg = 0 := by decide +kernel
    have e6 : (nI 6).toNatClampNeg = 6 := by decide +kernel
    rw [e0, e6]
    unfold va_cpy
    by_cases hk6 : k < 6
    · rw [if_pos ⟨Nat.zero_le _, by omega⟩, if_pos hk6]; simp
    · rw [if_neg (fun z => hk6 (by omega)), if_neg hk6]
  rw [world_ast hs1 ho1, e1] at hP1
  exact e ▸ h hF H1 locs1 ls hP1 hS1 hl1
end VV
/-! a method's body, and its ends -/
def IsB (x : Cx) (ret : Option FieldType) (d : Nat) (post : Option Value → Sg → Prop) : Prop :=
  xR x = rmD d ∧ xQ x = MQ (xb x) (QC (xG x) post (xs x).heap.size) (xa x) (xs x) 0 0 (xA x) ∧ xA x = AW (xG x) (xs x).heap.size ∧ xk x = 0 ∧ xn x = 0 ∧ (xM x).sig.returnType = ret ∧ (xM x).locks = false
theorem IsB.rm {x : Cx} {ret : Option FieldType} {d d' : Nat} {post : Option Value → Sg → Prop} (h : IsB x ret d post) (hd : d' < d) : Rm x d' := by
  unfold Rm; rw [h.1]; exact ⟨hd, Nat.mul_le_mul_left 64 hd⟩
section VR
variable {x : Cx} {own : String} {cc : ByteArray} {nL pc : Nat} {L : List (Option Value)} {σ : Sg} {d : Nat} {post : Option Value → Sg → Prop}
theorem V.ret_int {ty : FieldType} {v : Int32} (hB : IsB x (some ty) d post) (hd : decode cc pc = .ok (.ireturn, 1)) (hn : narrow ty (.int v) = .int v) (hp : post (some (.int v)) σ) : V x own cc nL pc L [.int v] σ := by
  intro hF H locs ls hP hS hl1
  obtain ⟨hR, hQ, hA, hk, hn0, hr, hlk⟩ := hB
  rw [hQ, hk, hn0]
  refine W.zret (v := v) hF.1 hF.2.1 hr hn (fun t ht hW => ⟨⟨some (.int v), σ, rfl, hp, by rw [ht]; exact hP⟩, ?_⟩) hS.2.2 hd hlk
  have h1 := hS.F ht
  rw [hA] at h1
  exact h1
theorem V.ret_v (hB : IsB x none d post) (hd : decode cc pc = .ok (.return_, 1)) (hp : post none σ) : V x own cc nL pc L [] σ := by
  intro hF H locs ls hP hS hl1
  obtain ⟨hR, hQ, hA, hk, hn0, hr, hlk⟩ := hB
  rw [hQ, hk, hn0]
  refine W.vret hF.1 hF.2.1 hr (fun t ht hW => ⟨⟨none, σ, rfl, hp, by rw [ht]; exact hP⟩, ?_⟩) hS.2.2 hd hlk
  have h1 := hS.F ht
  rw [hA] at h1
  exact h1
end VR
theorem lva1 : ∀ (vs : List Value) (i : Nat), (∀ v ∈ vs, v.category = 1) → ∀ (k : Nat) (v : Value), vs[k]? = some v → (i + k, v) ∈ lv_args i vs
  | [], i, hc, k, v, h => by simp at h
  | u :: vs, i, hc, 0, v, h => by
    simp at h; subst h
    show (i + 0, u) ∈ (i, u) :: _
    exact List.mem_cons_self
  | u :: vs, i, hc, k + 1, v, h => by
    have hu : u.category = 1 := hc u List.mem_cons_self
    show (i + (k + 1), v) ∈ (i, u) :: lv_args (if u.category = 2 then i + 2 else i + 1) vs
    rw [if_neg (by omega)]
    have := lva1 vs (i + 1) (fun w hw => hc w (List.mem_cons_of_mem _ hw)) k v (by simpa using h)
    rw [show i + (k + 1) = i + 1 + k from by omega]
    exact List.mem_cons_of_mem _ this
theorem lvO_entry (ad : Nat → Nat) (av : List Value) (nL : Nat) (hc : ∀ v ∈ av, v.category = 1) (hn : av.length ≤ nL) :
    lvO ad ((lg_sl (av.map (abv ad)) ++ List.replicate (nL - (lg_sl (av.map (abv ad))).length) Slot.unset).toArray) nL (av.map some ++ List.replicate (nL - av.length) none) := by
  have hc' : ∀ v ∈ av.map (abv ad), v.category = 1 := by
    intro v hv
    obtain ⟨u, hu, rfl⟩ := List.mem_map.mp hv
    rw [abv_cat]; exact hc u hu
  have hlen : (lg_sl (av.map (abv ad))).length ≤ nL := by
    have e : ∀ (vs : List Value), (∀ v ∈ vs, v.category = 1) → (lg_sl vs).length = vs.length := by
      intro vs
      induction vs with
      | nil => intro _; rfl
      | cons u vs ih =>
        intro h
        have hu : ¬ u.category = 2 := by have := h u List.mem_cons_self; omega
        show (List.flatMap _ (u :: vs)).length = _
        rw [List.flatMap_cons, if_neg hu, List.length_append]
        have := ih (fun w hw => h w (List.mem_cons_of_mem _ hw))
        unfold lg_sl at this
        rw [this]; simp; omega
    rw [e _ hc', List.length_map]; exact hn
  obtain ⟨h1, h2, h3⟩ := lv_entry (av.map (abv ad)) (n := nL) hlen
  refine ⟨h1, by simp; omega, h2, fun k v hk => ?_⟩
  have hk2 : k < av.length := by
    rcases Nat.lt_or_ge k av.length with z | z
    · exact z
    · rw [List.getElem?_append_right (by rw [List.length_map]; exact z)] at hk
      have := List.mem_of_getElem? hk
      rw [List.mem_replicate] at this
      cases this.2
  rw [List.getElem?_append_left (by rw [List.length_map]; exact hk2), List.getElem?_map] at hk
  cases hv : av[k]? with
  | none => rw [hv] at hk; cases hk
  | some u =>
    rw [hv] at hk
    have huv : u = v := by simpa using hk
    subst huv
    have := lva1 (av.map (abv ad)) 0 hc' k (abv ad u) (by rw [List.getElem?_map, hv]; rfl)
    rw [Nat.zero_add] at this
    exact ⟨h3 _ this, hc u (List.mem_of_getElem? hv)⟩
/-- a contract out of a walk of the body -/
theorem Con.of {d : Nat} {y : MethodName} {cc : ByteArray} {nL : Nat} {ret : Option FieldType} {av : List Value} {σ : Sg} {post : Option Value → Sg → Prop} (hy : plainName y.cls = true) (hc : ∀ v ∈ av, v.category = 1) (hn : av.length ≤ nL)
    (body : ∀ x : Cx, IsB x ret d post → V x y.cls cc nL 0 (av.map some ++ List.replicate (nL - av.length) none) [] σ) : Con d y cc nL ret av σ post := by
  intro l G sz
  refine Met.ofW (cc := cc) (maxL := nL) (ret := ret) hy rfl ?_
  intro p e s m args below meth c s₁ B hml hv
  obtain ⟨rfl, hsz, hP, hK, hD, hSF⟩ := hv
  subst hsz
  have hts := atoms_spec (ws := Cond.code y cc nL ret :: WL) B.pre
  have hA : va_D (AW G s.heap.size) (world G σ) := AW_D hD
  have hw := body (p, l, e, rmD d, s, m, (av.map (abv G.2.2.2)).toArray, below, meth, c, 0, 0, MQ below (QC G post s.heap.size) (av.map (abv G.2.2.2)).toArray s 0 0 (AW G s.heap.size), AW G s.heap.size, G) ⟨rfl, rfl, rfl, rfl, rfl, B.returns, B.notSynchronized⟩
  have h2 := hw ⟨B.exec, B.bytes, hml, findClass_of_methodNamed B.named, fun w h => hts w (List.mem_cons_of_mem _ h), hK, world_D hA, hSF, fun q h => Or.inr h, Nat.le_refl 0, Nat.le_refl 0⟩ s.heap [] _ hP va_S.rf (lvO_entry G.2.2.2 av nL hc hn)
  rw [lg_entry_eq]
  exact h2
theorem PC_blind {G : Gx} {av : List Value} {σ : Sg} {sz : Nat} : FrameBlind (PC G av σ sz) := by
  intro a U g mk h
  obtain ⟨h1, h2, h3, h4, h5, h6⟩ := h
  exact ⟨h1, h2, h3, va_K.moved (u := U) (U := U.calling g mk a) (Vm.Alike.refl U.vm) h4, h5, SF_same h6 rfl rfl⟩
theorem Con.weaken {d : Nat} {y : MethodName} {cc : ByteArray} {nL : Nat} {ret : Option FieldType} {av : List Value} {σ : Sg} {p1 p2 : Option Value → Sg → Prop} (h : Con d y cc nL ret av σ p1) (hp : ∀ r τ, p1 r τ → p2 r τ) : Con d y cc nL ret av σ p2 := by
  have e : p2 = fun r τ => p1 r τ ∨ p2 r τ := by
    funext r τ
    exact propext ⟨Or.inr, fun z => z.elim (hp r τ) id⟩
  intro l G sz
  have h1 := h l G sz
  intro p ep ha hc hk s m args below hf hfit hheap happ
  obtain ⟨k, o, q1, q2, q3, ⟨⟨⟨r, τ, w1, w2', w3⟩, w4⟩, w5⟩⟩ := h1 p ep ha hc hk s m args below hf hfit hheap happ
  exact ⟨k, o, q1, q2, q3, ⟨⟨⟨r, τ, w1, hp r τ w2', w3⟩, w4⟩, w5⟩⟩
section VC
variable {x : Cx} {own : String} {cc : ByteArray} {nL pc q : Nat} {L : List (Option Value)} {σ : Sg} {y : MethodName} {c2 : ByteArray} {n2 idx d n : Nat} {ret : Option FieldType} {As rest st : List Value} {post : Option Value → Sg → Prop}
theorem call_go (hF : FX x own cc nL) (hC : Con d y c2 n2 ret As σ post) {H : Heap} {locs : List Loc} {ls : Array Slot} {a : Array Value} {st0 : List Value} (hS : va_S (xA x) (xs x).heap H locs) (hl : lvO (xG x).2.2.2 ls nL L)
    (hr : va_Run (xp x) (xl x) (xe x) (xR x) (xs x) (xm x) (xa x) (xb x) (xM x) (xc x) H locs (xk x) (xn x) 0 0 (F0 (xm x) pc ls st0) (rest.map (abv (xG x).2.2.2)) (QC (xG x) post H.size a) (AW (xG x) H.size))
    (kk : ∀ (r : Option Value) (τ : Sg), post r τ → V x own cc nL (pc + 3) L (r.toList ++ rest) τ) : W (xp x) (xl x) (xe x) (xR x) (xs x) (xm x) (xa x) (xb x) (xM x) (xc x) H locs (xk x) (xn x) (xQ x) (F0 (xm x) pc ls st0) := by
  intro T hT X
  obtain ⟨v, st₀, t, T', L1, h0, X', hL, e1, e2, ⟨⟨r, τ, hv, hp, hW⟩, hz, hk⟩, st⟩ := hr T hT X
  have hAs := AW_sub (sz := H.size) hF.2.2.2.2.2.2.1 hF.2.2.2.2.2.2.2.2.1 hS.1
  cases hv
  rw [h0] at hz hk
  have h3 := kk r τ hp hF T'.heap (locs ++ L1) ls (by rw [e1]; exact hW) ⟨Nat.le_trans hS.1 (by rw [e1]; exact hz), fun z h1 h2 => by rw [e1, hk z (Nat.lt_of_lt_of_le h1 hS.1) (fun w => h2 (hAs z w))]; exact hS.2.1 z h1 h2, fun z hq => by
      rcases List.mem_append.mp hq with h | h
      · exact hS.2.2 z h
      · exact hAs _ (hL z h)⟩ hl
  have e3 : (r.toList ++ rest).map (abv (xG x).2.2.2) = (r.map (abv (xG x).2.2.2)).toList ++ rest.map (abv (xG x).2.2.2) := by cases r <;> simp
  rw [e3] at h3
  obtain ⟨t2, a1, b1⟩ := h3 T' rfl X'
  exact ⟨t2, st t2 a1, b1⟩
theorem call_pc (hF : FX x own cc nL) {H : Heap} {locs : List Loc} (hP : va_P (xG x).1 vwCl (world (xG x) σ) H) (hS : va_S (xA x) (xs x).heap H locs) : ∀ U : State, U.heap = H → (xs x).WarmedH U.vm → PC (xG x) As σ H.size (As.map (abv (xG x).2.2.2)).toArray U := by
  intro U hU hW
  have hAs := AW_sub (sz := H.size) hF.2.2.2.2.2.2.1 hF.2.2.2.2.2.2.2.2.1 hS.1
  exact ⟨rfl, by rw [hU], by rw [hU]; exact hP, va_K.moved hW.alike hF.2.2.2.2.2.1, (world_D hF.2.2.2.2.2.2.1).weaken (fun _ _ _ _ => trivial), SF_call hF.2.2.2.2.2.2.2.1 hW hS hU hAs⟩
theorem V.callV {o ci : Nat} {ks : List (Option Nat)} {T : u_T} {N : Nat} (hd : decode cc pc = .ok (.invokevirtual idx, 3)) (hk : LkV own idx y c2 n2 ret n) (hs : shp o = .inr (ci, ks)) (ho : o < NO) (hci : vwCl[ci]? = some (y.cls, T, N)) (hn : As.length = n) (hR : Rm x d)
    (hcat : ((rest.map (abv (xG x).2.2.2)).map fun v => v.category).sum ≤ 8) (hst : st = As.reverse ++ .ref o :: rest) (hC : Con d y c2 n2 ret (.ref o :: As) σ post)
    (kk : ∀ (r : Option Value) (τ : Sg), post r τ → V x own cc nL (pc + 3) L (r.toList ++ rest) τ) : V x own cc nL pc L st σ := by
  intro hF H locs ls hP hS hl
  subst hst
  obtain ⟨k1, k2, k3, k4, k5, k6, k7, k8, k9⟩ := hk
  have hG : GoodIn WL (wsV own idx y.cls y (Cond.code y c2 n2 ret :: WL)) := wl_good (fun _ h => h) (fun w hw => by
    unfold wsV at hw
    rcases List.mem_append.mp hw with h | h
    · rcases List.mem_cons.mp h with rfl | h
      · exact k1
      rcases List.mem_cons.mp h with rfl | h
      · exact k2
      rcases List.mem_cons.mp h with rfl | h
      · exact k3
      rcases List.mem_cons.mp h with rfl | h
      · exact k4
      cases h
    · rcases List.mem_cons.mp h with rfl | h
      · exact k5
      · exact h)
  have hcw := cwV (R := xR x) (args := xa x) (s := xs x) (rm := rmD d) (mc := 0) (ms := 0) n hF.2.2.2.2.1 hG rfl rfl rfl ⟨rfl, k7, k8, k9⟩ ⟨hR.1, by have := hR.2; show 8 + (n2 + 11) + 64 * d ≤ _; omega⟩
  refine call_go hF hC hS hl (va_runV (As := As.map (abv (xG x).2.2.2)) (b := (xG x).2.2.2 o) (rest := rest.map (abv (xG x).2.2.2)) ⟨hF.1, hF.2.1, hF.2.2.1, hF.2.2.2.1, hF.2.2.2.2.1⟩ (hC (xl x) (xG x) H.size) hcw ⟨PC_blind, va_recv hF.2.2.2.2.2.1 hP hci (world_obj hs ho), call_pc hF hP hS⟩ rfl (by rw [List.length_map]; exact hn) hl.1 ?_ (lv_room hcat) hd ⟨hF.2.2.2.2.2.2.2.2.2.1, hF.2.2.2.2.2.2.2.2.2.2⟩) kk
  show (As.reverse ++ .ref o :: rest).map (abv (xG x).2.2.2) = _
  rw [List.map_append, List.map_reverse]; rfl
theorem V.callS (hd : decode cc pc = .ok (.invokestatic idx, 3)) (hk : LkS own idx y c2 n2 ret n) (hn : As.length = n) (hR : Rm x d)
    (hcat : ((rest.map (abv (xG x).2.2.2)).map fun v => v.category).sum ≤ 8) (hst : st = As.reverse ++ rest) (hC : Con d y c2 n2 ret As σ post)
    (kk : ∀ (r : Option Value) (τ : Sg), post r τ → V x own cc nL (pc + 3) L (r.toList ++ rest) τ) : V x own cc nL pc L st σ := by
  intro hF H locs ls hP hS hl
  subst hst
  obtain ⟨k1, k2, k4, k5, k6, k7, k8, k9⟩ := hk
  have hG : GoodIn WL (va_wsS own idx y (Cond.code y c2 n2 ret :: WL)) := wl_good (fun _ h => h) (fun w hw => by
    unfold va_wsS at hw
    rcases List.mem_append.mp hw with h | h
    · rcases List.mem_cons.mp h with rfl | h
      · exact k1
      rcases List.mem_cons.mp h with rfl | h
      · exact k2
      rcases List.mem_cons.mp h with rfl | h
      · exact k4
      cases h
    · rcases List.mem_cons.mp h with rfl | h
      · exact k5
      · exact h)
  have hcw := va_cwS (R := xR x) (args := xa x) (s := xs x) (rm := rmD d) (mc := 0) (ms := 0) n hF.2.2.2.2.1 hG rfl rfl rfl ⟨k7, k8, k9⟩ ⟨hR.1, by have := hR.2; show 8 + (n2 + 11) + 64 * d ≤ _; omega⟩
  refine call_go hF hC hS hl (va_runS (As := As.map (abv (xG x).2.2.2)) (rest := rest.map (abv (xG x).2.2.2)) ⟨hF.1, hF.2.1, hF.2.2.1, hF.2.2.2.1, hF.2.2.2.2.1⟩ (hC (xl x) (xG x) H.size) hcw ⟨PC_blind, call_pc hF hP hS⟩ rfl (by rw [List.length_map]; exact hn) hl.1 ?_ (lv_room hcat) hd ⟨hF.2.2.2.2.2.2.2.2.2.1, hF.2.2.2.2.2.2.2.2.2.2⟩) kk
  show (As.reverse ++ rest).map (abv (xG x).2.2.2) = _
  rw [List.map_append, List.map_reverse]
theorem V.cvi0 {pi : Int32 → Sg → Prop} {o ci : Nat} {ks : List (Option Nat)} {T : u_T} {N : Nat} (hd : decode cc pc = .ok (.invokevirtual idx, 3)) (e : pc + 3 = q) (hk : LkV own idx y c2 n2 ret 0) (hs : shp o = .inr (ci, ks)) (ho : o < NO) (hci : vwCl[ci]? = some (y.cls, T, N)) (hR : Rm x d) (hcat : ((rest.map (abv (xG x).2.2.2)).map fun v => v.category).sum ≤ 8) (hC : Con d y c2 n2 ret (.ref o :: []) σ (PI pi)) (kk : ∀ (v : Int32) (τ : Sg), pi v τ → V x own cc nL q L (.int v :: rest) τ) : V x own cc nL pc L (.ref o :: rest) σ := V.callV (As := []) hd hk hs ho hci rfl hR hcat rfl hC (fun r τ h => by obtain ⟨v, rfl, hp⟩ := h; exact e ▸ kk v τ hp)
theorem V.csi0 {pi : Int32 → Sg → Prop} (hd : decode cc pc = .ok (.invokestatic idx, 3)) (e : pc + 3 = q) (hk : LkS own idx y c2 n2 ret 0) (hR : Rm x d) (hcat : ((rest.map (abv (xG x).2.2.2)).map fun v => v.category).sum ≤ 8) (hC : Con d y c2 n2 ret [] σ (PI pi)) (kk : ∀ (v : Int32) (τ : Sg), pi v τ → V x own cc nL q L (.int v :: rest) τ) : V x own cc nL pc L (rest) σ := V.callS (As := []) hd hk rfl hR hcat rfl hC (fun r τ h => by obtain ⟨v, rfl, hp⟩ := h; exact e ▸ kk v τ hp)
theorem V.cvv0 {pv : Sg → Prop} {o ci : Nat} {ks : List (Option Nat)} {T : u_T} {N : Nat} (hd : decode cc pc = .ok (.invokevirtual idx, 3)) (e : pc + 3 = q) (hk : LkV own idx y c2 n2 ret 0) (hs : shp o = .inr (ci, ks)) (ho : o < NO) (hci : vwCl[ci]? = some (y.cls, T, N)) (hR : Rm x d) (hcat : ((rest.map (abv (xG x).2.2.2)).map fun v => v.category).sum ≤ 8) (hC : Con d y c2 n2 ret (.ref o :: []) σ (PV pv)) (kk : ∀ (τ : Sg), pv τ → V x own cc nL q L rest τ) : V x own cc nL pc L (.ref o :: rest) σ := V.callV (As := []) hd hk hs ho hci rfl hR hcat rfl hC (fun r τ h => by obtain ⟨rfl, hp⟩ := h; exact e ▸ kk τ hp)
theorem V.csv0 {pv : Sg → Prop} (hd : decode cc pc = .ok (.invokestatic idx, 3)) (e : pc + 3 = q) (hk : LkS own idx y c2 n2 ret 0) (hR : Rm x d) (hcat : ((rest.map (abv (xG x).2.2.2)).map fun v => v.category).sum ≤ 8) (hC : Con d y c2 n2 ret [] σ (PV pv)) (kk : ∀ (τ : Sg), pv τ → V x own cc nL q L rest τ) : V x own cc nL pc L (rest) σ := V.callS (As := []) hd hk rfl hR hcat rfl hC (fun r τ h => by obtain ⟨rfl, hp⟩ := h; exact e ▸ kk τ hp)
theorem V.cvi1 {b0 : Value} {pi : Int32 → Sg → Prop} {o ci : Nat} {ks : List (Option Nat)} {T : u_T} {N : Nat} (hd : decode cc pc = .ok (.invokevirtual idx, 3)) (e : pc + 3 = q) (hk : LkV own idx y c2 n2 ret 1) (hs : shp o = .inr (ci, ks)) (ho : o < NO) (hci : vwCl[ci]? = some (y.cls, T, N)) (hR : Rm x d) (hcat : ((rest.map (abv (xG x).2.2.2)).map fun v => v.category).sum ≤ 8) (hC : Con d y c2 n2 ret (.ref o :: [b0]) σ (PI pi)) (kk : ∀ (v : Int32) (τ : Sg), pi v τ → V x own cc nL q L (.int v :: rest) τ) : V x own cc nL pc L (b0 :: .ref o :: rest) σ := V.callV (As := [b0]) hd hk hs ho hci rfl hR hcat rfl hC (fun r τ h => by obtain ⟨v, rfl, hp⟩ := h; exact e ▸ kk v τ hp)
theorem V.csi1 {b0 : Value} {pi : Int32 → Sg → Prop} (hd : decode cc pc = .ok (.invokestatic idx, 3)) (e : pc + 3 = q) (hk : LkS own idx y c2 n2 ret 1) (hR : Rm x d) (hcat : ((rest.map (abv (xG x).2.2.2)).map fun v => v.category).sum ≤ 8) (hC : Con d y c2 n2 ret [b0] σ (PI pi)) (kk : ∀ (v : Int32) (τ : Sg), pi v τ → V x own cc nL q L (.int v :: rest) τ) : V x own cc nL pc L (b0 :: rest) σ := V.callS (As := [b0]) hd hk rfl hR hcat rfl hC (fun r τ h => by obtain ⟨v, rfl, hp⟩ := h; exact e ▸ kk v τ hp)
theorem V.cvv1 {b0 : Value} {pv : Sg → Prop} {o ci : Nat} {ks : List (Option Nat)} {T : u_T} {N : Nat} (hd : decode cc pc = .ok (.invokevirtual idx, 3)) (e : pc + 3 = q) (hk : LkV own idx y c2 n2 ret 1) (hs : shp o = .inr (ci, ks)) (ho : o < NO) (hci : vwCl[ci]? = some (y.cls, T, N)) (hR : Rm x d) (hcat : ((rest.map (abv (xG x).2.2.2)).map fun v => v.category).sum ≤ 8) (hC : Con d y c2 n2 ret (.ref o :: [b0]) σ (PV pv)) (kk : ∀ (τ : Sg), pv τ → V x own cc nL q L rest τ) : V x own cc nL pc L (b0 :: .ref o :: rest) σ := V.callV (As := [b0]) hd hk hs ho hci rfl hR hcat rfl hC (fun r τ h => by obtain ⟨rfl, hp⟩ := h; exact e ▸ kk τ hp)
theorem V.csv1 {b0 : Value} {pv : Sg → Prop} (hd : decode cc pc = .ok (.invokestatic idx, 3)) (e : pc + 3 = q) (hk : LkS own idx y c2 n2 ret 1) (hR : Rm x d) (hcat : ((rest.map (abv (xG x).2.2.2)).map fun v => v.category).sum ≤ 8) (hC : Con d y c2 n2 ret [b0] σ (PV pv)) (kk : ∀ (τ : Sg), pv τ → V x own cc nL q L rest τ) : V x own cc nL pc L (b0 :: rest) σ := V.callS (As := [b0]) hd hk rfl hR hcat rfl hC (fun r τ h => by obtain ⟨rfl, hp⟩ := h; exact e ▸ kk τ hp)
theorem V.cvi2 {b0 b1 : Value} {pi : Int32 → Sg → Prop} {o ci : Nat} {ks : List (Option Nat)} {T : u_T} {N : Nat} (hd : decode cc pc = .ok (.invokevirtual idx, 3)) (e : pc + 3 = q) (hk : LkV own idx y c2 n2 ret 2) (hs : shp o = .inr (ci, ks)) (ho : o < NO) (hci : vwCl[ci]? = some (y.cls, T, N)) (hR : Rm x d) (hcat : ((rest.map (abv (xG x).2.2.2)).map fun v => v.category).sum ≤ 8) (hC : Con d y c2 n2 ret (.ref o :: [b0, b1]) σ (PI pi)) (kk : ∀ (v : Int32) (τ : Sg), pi v τ → V x own cc nL q L (.int v :: rest) τ) : V x own cc nL pc L (b1 :: b0 :: .ref o :: rest) σ := V.callV (As := [b0, b1]) hd hk hs ho hci rfl hR hcat rfl hC (fun r τ h => by obtain ⟨v, rfl, hp⟩ := h; exact e ▸ kk v τ hp)
theorem V.csi2 {b0 b1 : Value} {pi : Int32 → Sg → Prop} (hd : decode cc pc = .ok (.invokestatic idx, 3)) (e : pc + 3 = q) (hk : LkS own idx y c2 n2 ret 2) (hR : Rm x d) (hcat : ((rest.map (abv (xG x).2.2.2)).map fun v => v.category).sum ≤ 8) (hC : Con d y c2 n2 ret [b0, b1] σ (PI pi)) (kk : ∀ (v : Int32) (τ : Sg), pi v τ → V x own cc nL q L (.int v :: rest) τ) : V x own cc nL pc L (b1 :: b0 :: rest) σ := V.callS (As := [b0, b1]) hd hk rfl hR hcat rfl hC (fun r τ h => by obtain ⟨v, rfl, hp⟩ := h; exact e ▸ kk v τ hp)
theorem V.cvv2 {b0 b1 : Value} {pv : Sg → Prop} {o ci : Nat} {ks : List (Option Nat)} {T : u_T} {N : Nat} (hd : decode cc pc = .ok (.invokevirtual idx, 3)) (e : pc + 3 = q) (hk : LkV own idx y c2 n2 ret 2) (hs : shp o = .inr (ci, ks)) (ho : o < NO) (hci : vwCl[ci]? = some (y.cls, T, N)) (hR : Rm x d) (hcat : ((rest.map (abv (xG x).2.2.2)).map fun v => v.category).sum ≤ 8) (hC : Con d y c2 n2 ret (.ref o :: [b0, b1]) σ (PV pv)) (kk : ∀ (τ : Sg), pv τ → V x own cc nL q L rest τ) : V x own cc nL pc L (b1 :: b0 :: .ref o :: rest) σ := V.callV (As := [b0, b1]) hd hk hs ho hci rfl hR hcat rfl hC (fun r τ h => by obtain ⟨rfl, hp⟩ := h; exact e ▸ kk τ hp)
theorem V.csv2 {b0 b1 : Value} {pv : Sg → Prop} (hd : decode cc pc = .ok (.invokestatic idx, 3)) (e : pc + 3 = q) (hk : LkS own idx y c2 n2 ret 2) (hR : Rm x d) (hcat : ((rest.map (abv (xG x).2.2.2)).map fun v => v.category).sum ≤ 8) (hC : Con d y c2 n2 ret [b0, b1] σ (PV pv)) (kk : ∀ (τ : Sg), pv τ → V x own cc nL q L rest τ) : V x own cc nL pc L (b1 :: b0 :: rest) σ := V.callS (As := [b0, b1]) hd hk rfl hR hcat rfl hC (fun r τ h => by obtain ⟨rfl, hp⟩ := h; exact e ▸ kk τ hp)
theorem V.cvi3 {b0 b1 b2 : Value} {pi : Int32 → Sg → Prop} {o ci : Nat} {ks : List (Option Nat)} {T : u_T} {N : Nat} (hd : decode cc pc = .ok (.invokevirtual idx, 3)) (e : pc + 3 = q) (hk : LkV own idx y c2 n2 ret 3) (hs : shp o = .inr (ci, ks)) (ho : o < NO) (hci : vwCl[ci]? = some (y.cls, T, N)) (hR : Rm x d) (hcat : ((rest.map (abv (xG x).2.2.2)).map fun v => v.category).sum ≤ 8) (hC : Con d y c2 n2 ret (.ref o :: [b0, b1, b2]) σ (PI pi)) (kk : ∀ (v : Int32) (τ : Sg), pi v τ → V x own cc nL q L (.int v :: rest) τ) : V x own cc nL pc L (b2 :: b1 :: b0 :: .ref o :: rest) σ := V.callV (As := [b0, b1, b2]) hd hk hs ho hci rfl hR hcat rfl hC (fun r τ h => by obtain ⟨v, rfl, hp⟩ := h; exact e ▸ kk v τ hp)
theorem V.csi3 {b0 b1 b2 : Value} {pi : Int32 → Sg → Prop} (hd : decode cc pc = .ok (.invokestatic idx, 3)) (e : pc + 3 = q) (hk : LkS own idx y c2 n2 ret 3) (hR : Rm x d) (hcat : ((rest.map (abv (xG x).2.2.2)).map fun v => v.category).sum ≤ 8) (hC : Con d y c2 n2 ret [b0, b1, b2] σ (PI pi)) (kk : ∀ (v : Int32) (τ : Sg), pi v τ → V x own cc nL q L (.int v :: rest) τ) : V x own cc nL pc L (b2 :: b1 :: b0 :: rest) σ := V.callS (As := [b0, b1, b2]) hd hk rfl hR hcat rfl hC (fun r τ h => by obtain ⟨v, rfl, hp⟩ := h; exact e ▸ kk v τ hp)
theorem V.cvv3 {b0 b1 b2 : Value} {pv : Sg → Prop} {o ci : Nat} {ks : List (Option Nat)} {T : u_T} {N : Nat} (hd : decode cc pc = .ok (.invokevirtual idx, 3)) (e : pc + 3 = q) (hk : LkV own idx y c2 n2 ret 3) (hs : shp o = .inr (ci, ks)) (ho : o < NO) (hci : vwCl[ci]? = some (y.cls, T, N)) (hR : Rm x d) (hcat : ((rest.map (abv (xG x).2.2.2)).map fun v => v.category).sum ≤ 8) (hC : Con d y c2 n2 ret (.ref o :: [b0, b1, b2]) σ (PV pv)) (kk : ∀ (τ : Sg), pv τ → V x own cc nL q L rest τ) : V x own cc nL pc L (b2 :: b1 :: b0 :: .ref o :: rest) σ := V.callV (As := [b0, b1, b2]) hd hk hs ho hci rfl hR hcat rfl hC (fun r τ h => by obtain ⟨rfl, hp⟩ := h; exact e ▸ kk τ hp)
theorem V.csv3 {b0 b1 b2 : Value} {pv : Sg → Prop} (hd : decode cc pc = .ok (.invokestatic idx, 3)) (e : pc + 3 = q) (hk : LkS own idx y c2 n2 ret 3) (hR : Rm x d) (hcat : ((rest.map (abv (xG x).2.2.2)).map fun v => v.category).sum ≤ 8) (hC : Con d y c2 n2 ret [b0, b1, b2] σ (PV pv)) (kk : ∀ (τ : Sg), pv τ → V x own cc nL q L rest τ) : V x own cc nL pc L (b2 :: b1 :: b0 :: rest) σ := V.callS (As := [b0, b1, b2]) hd hk rfl hR hcat rfl hC (fun r τ h => by obtain ⟨rfl, hp⟩ := h; exact e ▸ kk τ hp)
theorem V.cvi4 {b0 b1 b2 b3 : Value} {pi : Int32 → Sg → Prop} {o ci : Nat} {ks : List (Option Nat)} {T : u_T} {N : Nat} (hd : decode cc pc = .ok (.invokevirtual idx, 3)) (e : pc + 3 = q) (hk : LkV own idx y c2 n2 ret 4) (hs : shp o = .inr (ci, ks)) (ho : o < NO) (hci : vwCl[ci]? = some (y.cls, T, N)) (hR : Rm x d) (hcat : ((rest.map (abv (xG x).2.2.2)).map fun v => v.category).sum ≤ 8) (hC : Con d y c2 n2 ret (.ref o :: [b0, b1, b2, b3]) σ (PI pi)) (kk : ∀ (v : Int32) (τ : Sg), pi v τ → V x own cc nL q L (.int v :: rest) τ) : V x own cc nL pc L (b3 :: b2 :: b1 :: b0 :: .ref o :: rest) σ := V.callV (As := [b0, b1, b2, b3]) hd hk hs ho hci rfl hR hcat rfl hC (fun r τ h => by obtain ⟨v, rfl, hp⟩ := h; exact e ▸ kk v τ hp)
theorem V.csi4 {b0 b1 b2 b3 : Value} {pi : Int32 → Sg → Prop} (hd : decode cc pc = .ok (.invokestatic idx, 3)) (e : pc + 3 = q) (hk : LkS own idx y c2 n2 ret 4) (hR : Rm x d) (hcat : ((rest.map (abv (xG x).2.2.2)).map fun v => v.category).sum ≤ 8) (hC : Con d y c2 n2 ret [b0, b1, b2, b3] σ (PI pi)) (kk : ∀ (v : Int32) (τ : Sg), pi v τ → V x own cc nL q L (.int v :: rest) τ) : V x own cc nL pc L (b3 :: b2 :: b1 :: b0 :: rest) σ := V.callS (As := [b0, b1, b2, b3]) hd hk rfl hR hcat rfl hC (fun r τ h => by obtain ⟨v, rfl, hp⟩ := h; exact e ▸ kk v τ hp)
theorem V.cvv4 {b0 b1 b2 b3 : Value} {pv : Sg → Prop} {o ci : Nat} {ks : List (Option Nat)} {T : u_T} {N : Nat} (hd : decode cc pc = .ok (.invokevirtual idx, 3)) (e : pc + 3 = q) (hk : LkV own idx y c2 n2 ret 4) (hs : shp o = .inr (ci, ks)) (ho : o < NO) (hci : vwCl[ci]? = some (y.cls, T, N)) (hR : Rm x d) (hcat : ((rest.map (abv (xG x).2.2.2)).map fun v => v.category).sum ≤ 8) (hC : Con d y c2 n2 ret (.ref o :: [b0, b1, b2, b3]) σ (PV pv)) (kk : ∀ (τ : Sg), pv τ → V x own cc nL q L rest τ) : V x own cc nL pc L (b3 :: b2 :: b1 :: b0 :: .ref o :: rest) σ := V.callV (As := [b0, b1, b2, b3]) hd hk hs ho hci rfl hR hcat rfl hC (fun r τ h => by obtain ⟨rfl, hp⟩ := h; exact e ▸ kk τ hp)
theorem V.csv4 {b0 b1 b2 b3 : Value} {pv : Sg → Prop} (hd : decode cc pc = .ok (.invokestatic idx, 3)) (e : pc + 3 = q) (hk : LkS own idx y c2 n2 ret 4) (hR : Rm x d) (hcat : ((rest.map (abv (xG x).2.2.2)).map fun v => v.category).sum ≤ 8) (hC : Con d y c2 n2 ret [b0, b1, b2, b3] σ (PV pv)) (kk : ∀ (τ : Sg), pv τ → V x own cc nL q L rest τ) : V x own cc nL pc L (b3 :: b2 :: b1 :: b0 :: rest) σ := V.callS (As := [b0, b1, b2, b3]) hd hk rfl hR hcat rfl hC (fun r τ h => by obtain ⟨rfl, hp⟩ := h; exact e ▸ kk τ hp)
end VC
end
section
/-! WHAT A TOWN IS: its cells t .. t+8 hold n streets, the year y, who lazes z and who left l (6 or more: nobody), and τ: 0 kind, 1 mud, 2 wear, 3 hands, 4 pence, 5 mends, 6 mended -/
def isT (t : Nat) : Prop := t = 1 ∨ t = 10 ∨ t = 19 ∨ t = 28
theorem shT {t : Nat} (h : isT t) : shp t = .inr (1, twF t) := by rcases h with rfl | rfl | rfl | rfl <;> rfl
theorem loT {t : Nat} (h : isT t) : t < NO := by rcases h with rfl | rfl | rfl | rfl <;> decide
theorem shTa {t : Nat} (h : isT t) (k : Nat) (h1 : 1 ≤ k) (h8 : k ≤ 8) : shp (t + k) = .inl (false, 6) := by
  have hk : k = 1 ∨ k = 2 ∨ k = 3 ∨ k = 4 ∨ k = 5 ∨ k = 6 ∨ k = 7 ∨ k = 8 := by omega
  rcases h with rfl | rfl | rfl | rfl <;> rcases hk with rfl | rfl | rfl | rfl | rfl | rfl | rfl | rfl <;> rfl
theorem loTa {t : Nat} (h : isT t) (k : Nat) (h8 : k ≤ 8) : t + k < NO := by
  unfold NO; rcases h with rfl | rfl | rfl | rfl <;> omega
theorem inc1 (i : Nat) : nI i + Int32.ofInt 1 = nI (i + 1) := by
  show nI i + 1 = _
  exact nI_1 i
theorem minN {a b : Nat} (ha : a < 2 ^ 31) (hb : b < 2 ^ 31) : (if nI b < nI a then nI b else nI a) = nI (min a b) := by
  by_cases h : b < a
  · rw [if_pos (nI_lt h ha), Nat.min_eq_right (by omega)]
  · rw [if_neg (nI_nlt (by omega) (by omega)), Nat.min_eq_left (by omega)]
theorem maxN {a b : Nat} (ha : a < 2 ^ 31) (hb : b < 2 ^ 31) : (if nI a < nI b then nI b else nI a) = nI (max a b) := by
  by_cases h : a < b
  · rw [if_pos (nI_lt h hb), Nat.max_eq_right (by omega)]
  · rw [if_neg (nI_nlt (by omega) (by omega)), Nat.max_eq_left (by omega)]
def sN (v : Int32) (n : Nat) : Prop := ∃ k : Nat, k < n ∧ v = nI k
theorem sN_neg {v : Int32} {n : Nat} (hn : n ≤ 6) (h : v < 0) : ¬ sN v n := by
  rintro ⟨k, hk, rfl⟩
  exact nI_pos (by omega) h
theorem sN_ge {v : Int32} {n : Nat} (hn : n ≤ 6) (h : nI n ≤ v) : ¬ sN v n := by
  rintro ⟨k, hk, rfl⟩
  exact nI_ge hk (by omega) h
theorem sN_of {v : Int32} {n : Nat} (hn : n ≤ 6) (h0 : ¬ v < 0) (h : ¬ nI n ≤ v) : sN v n := by
  obtain ⟨j, hj, rfl⟩ := nI_of h0
  refine ⟨j, ?_, rfl⟩
  rcases Nat.lt_or_ge j n with z | z
  · exact z
  · exact absurd (nI_le z hj) h
theorem sN_nI {k n : Nat} (hn : n ≤ 6) (hk : k < 2 ^ 31) : sN (nI k) n ↔ k < n := by
  constructor
  · rintro ⟨j, hj, e⟩
    have := (nI_eq hk (by omega)).mp e
    omega
  · intro h; exact ⟨k, h, rfl⟩
def nz (z : Nat) : Int32 := if z < 6 then nI z else -1
theorem nz_eq {i z : Nat} (hi : i < 6) : nI i = nz z ↔ i = z := by
  unfold nz
  by_cases hz : z < 6
  · rw [if_pos hz]; exact nI_eq (by omega) (by omega)
  · rw [if_neg hz]
    constructor
    · intro e
      exact absurd (show nI i < 0 by rw [e]; decide) (nI_pos (by omega))
    · intro e; omega
def WFt (n : Nat) (τ : Nat → Nat → Nat) : Prop := ∀ i, i < n → τ 0 i ≤ 5 ∧ τ 1 i ≤ 9 ∧ τ 2 i ≤ 3 ∧ τ 3 i ≤ 4 ∧ τ 4 i ≤ 99 ∧ τ 5 i < n ∧ τ 6 i ≤ 60
def TA (σ : Sg) (t n y z l : Nat) (τ : Nat → Nat → Nat) : Prop :=
  n ≤ 6 ∧ y < 2 ^ 30 ∧ σ t 8 = nI n ∧ σ t 9 = nI y ∧ σ t 10 = nz z ∧ σ t 11 = nz l ∧ (∀ f, f < 7 → ∀ i, i < n → σ (t + (f + 1)) i = nI (τ f i)) ∧ WFt n τ
section TAs
variable {σ : Sg} {t n y z l : Nat} {τ : Nat → Nat → Nat}
theorem TA.n6 (h : TA σ t n y z l τ) : n ≤ 6 := h.1
theorem TA.yb (h : TA σ t n y z l τ) : y < 2 ^ 30 := h.2.1
theorem TA.n8 (h : TA σ t n y z l τ) : σ t 8 = nI n := h.2.2.1
theorem TA.n9 (h : TA σ t n y z l τ) : σ t 9 = nI y := h.2.2.2.1
theorem TA.n10 (h : TA σ t n y z l τ) : σ t 10 = nz z := h.2.2.2.2.1
theorem TA.n11 (h : TA σ t n y z l τ) : σ t 11 = nz l := h.2.2.2.2.2.1
theorem TA.a (h : TA σ t n y z l τ) (f : Nat) (hf : f < 7) {i : Nat} (hi : i < n) : σ (t + (f + 1)) i = nI (τ f i) := h.2.2.2.2.2.2.1 f hf i hi
theorem TA.w (h : TA σ t n y z l τ) : WFt n τ := h.2.2.2.2.2.2.2
end TAs
/-- downwards to a bound -/
theorem down {P : Nat → Prop} (n : Nat) (h : ∀ j, j ≤ n → (j < n → P (j + 1)) → P j) : ∀ j, j ≤ n → P j := by
  have key : ∀ k j, j + k = n → P j := by
    intro k
    induction k with
    | zero => intro j hj; exact h j (by omega) (fun z => absurd z (by omega))
    | succ k ih => intro j hj; exact h j (by omega) (fun _ => ih (j + 1) (by omega))
  intro j hj
  exact key (n - j) j (by omega)
/-! the plain words of the document, over τ -/
def fedK (me : Nat → Nat) (i : Nat) : Nat → Nat
  | 0 => 0
  | j + 1 => if me j = i then fedK me i j + 1 else fedK me i j
def sumK (g : Nat → Nat) : Nat → Nat
  | 0 => 0
  | j + 1 => sumK g j + g j
theorem fedK_le (me : Nat → Nat) (i : Nat) : ∀ j, fedK me i j ≤ j
  | 0 => Nat.le_refl 0
  | j + 1 => by
    have := fedK_le me i j
    unfold fedK; split <;> omega
theorem sumK_le {g : Nat → Nat} {b n : Nat} (h : ∀ i, i < n → g i ≤ b) : ∀ j, j ≤ n → sumK g j ≤ b * j
  | 0, _ => Nat.le_refl 0
  | j + 1, hj => by
    have h1 := sumK_le h j (by omega)
    have h2 := h j (by omega)
    show sumK g j + g j ≤ b * (j + 1)
    rw [Nat.mul_succ]; omega
def trustM (τ : Nat → Nat → Nat) (i : Nat) : Nat := min (τ 3 i) (τ 6 i + 1)
def workM (y z l : Nat) (τ : Nat → Nat → Nat) (i mt : Nat) : Nat :=
  if i = z ∨ i = l then 0
  else if τ 0 i = 1 then (if y % 2 = 0 then τ 3 i else 0)
  else if τ 0 i = 2 then trustM τ i
  else if τ 0 i = 3 then (if 0 < τ 4 i then τ 3 i + 1 else 0)
  else if τ 0 i = 4 then 2 * τ 3 i
  else if τ 0 i = 5 then (if 6 ≤ mt then τ 3 i else trustM τ i)
  else τ 3 i
theorem workM_le {y z l n : Nat} {τ : Nat → Nat → Nat} {i mt : Nat} (h : WFt n τ) (hi : i < n) : workM y z l τ i mt ≤ 8 := by
  obtain ⟨-, -, -, h3, -, -, -⟩ := h i hi
  unfold workM trustM
  repeat' split
  all_goals omega
def itr (me : Nat → Nat) : Nat → Nat → Nat
  | 0, i => i
  | k + 1, i => me (itr me k i)
theorem itr_lt {me : Nat → Nat} {n : Nat} (h : ∀ i, i < n → me i < n) {i : Nat} (hi : i < n) : ∀ k, itr me k i < n
  | 0 => hi
  | k + 1 => h _ (itr_lt h hi k)
def onR (n : Nat) (me : Nat → Nat) (i : Nat) : Prop := ∃ k, k < n ∧ itr me (k + 1) i = i
def lwK (me : Nat → Nat) (i : Nat) : Nat → Nat
  | 0 => i
  | k + 1 => min (lwK me i k) (itr me (k + 1) i)
def mxK (g : Nat → Nat) : Nat → Nat
  | 0 => 0
  | j + 1 => if g (mxK g j) < g j then j else mxK g j
theorem mxK_lt {g : Nat → Nat} : ∀ {j : Nat}, 0 < j → mxK g j < j
  | 1, _ => by unfold mxK; split <;> simp [mxK]
  | j + 2, _ => by
    have := @mxK_lt g (j + 1) (by omega)
    unfold mxK; split <;> omega
def alike (n : Nat) (τ υ : Nat → Nat → Nat) : Prop := ∀ i, i < n → τ 1 i = υ 1 i ∧ τ 6 i = υ 6 i
theorem nI_m1 {k : Nat} (hk : k < 2 ^ 31) : ¬ nI k = -1 := by
  intro e
  exact nI_pos hk (by rw [e]; decide)
end
section
-- isStreet(v): 1 if v is a street
set_option maxHeartbeats 4000000 in
set_option maxRecDepth 100000 in
theorem c_isStreet0 {σ : Sg} {t n : Nat} (ht : isT t) (hn6 : n ≤ 6) (h8 : σ t 8 = nI n) (v : Int32) : Con 1 yX1_isStreet cX1_isStreet 2 (some .boolean) [.ref t, .int v] σ (PI (fun r σ1 => σ1 = σ ∧ ((r = nI 1 ∧ sN v n) ∨ (r = nI 0 ∧ ¬ sN v n)))) := by
  refine Con.of (by decide) (by simp [Value.category]) (Nat.le_of_ble_eq_true rfl) (fun x hB => ?_)
  show V x RX1 cX1_isStreet 2 0 [some (.ref t), some (.int v)] [] _
  refine V.iload_n (q := 1) dX1_isStreet_0 rfl rfl ?_
  refine V.if_lt (t := 16) (q := 4) dX1_isStreet_1 (by decide) rfl  (fun c1 => ?_) (fun c1 => ?_)
  · refine V.iconst (q := 17) (v := nI 0) dX1_isStreet_16 rfl (by decide +kernel) ?_
    exact V.ret_int hB dX1_isStreet_17 (by decide +kernel) ⟨_, rfl, ⟨rfl, Or.inr ⟨rfl, sN_neg hn6 c1⟩⟩⟩
  · refine V.iload_n (q := 5) dX1_isStreet_4 rfl rfl ?_
    refine V.aload_n (q := 6) dX1_isStreet_5 rfl rfl ?_
    refine V.getI (q := 9) dX1_isStreet_6 rfl kf_X1_49 (shT ht) (loT ht) rfl h8 ?_
    refine V.icmp_ge (t := 16) (q := 12) dX1_isStreet_9 (by decide) rfl  (fun c9 => ?_) (fun c9 => ?_)
    · refine V.iconst (q := 17) (v := nI 0) dX1_isStreet_16 rfl (by decide +kernel) ?_
      exact V.ret_int hB dX1_isStreet_17 (by decide +kernel) ⟨_, rfl, ⟨rfl, Or.inr ⟨rfl, sN_ge hn6 c9⟩⟩⟩
    · refine V.iconst (q := 13) (v := nI 1) dX1_isStreet_12 rfl (by decide +kernel) ?_
      refine V.goto (q := 17) dX1_isStreet_13 (by decide) ?_
      exact V.ret_int hB dX1_isStreet_17 (by decide +kernel) ⟨_, rfl, ⟨rfl, Or.inl ⟨rfl, sN_of hn6 c1 c9⟩⟩⟩

theorem c_isStreet {σ : Sg} {t n y z l : Nat} {τ : Nat → Nat → Nat} (ht : isT t) (hT : TA σ t n y z l τ) (v : Int32) : Con 1 yX1_isStreet cX1_isStreet 2 (some .boolean) [.ref t, .int v] σ (PI (fun r σ1 => σ1 = σ ∧ ((r = nI 1 ∧ sN v n) ∨ (r = nI 0 ∧ ¬ sN v n)))) := c_isStreet0 ht hT.n6 hT.n8 v
theorem c_isS0 {σ : Sg} {t n : Nat} (ht : isT t) (hn6 : n ≤ 6) (h8 : σ t 8 = nI n) {v : Int32} (hv : ¬ sN v n) : Con 1 yX1_isStreet cX1_isStreet 2 (some .boolean) [.ref t, .int v] σ (PI (fun r σ1 => r = nI 0 ∧ σ1 = σ)) :=
  (c_isStreet0 ht hn6 h8 v).weaken (fun r σ1 h => by
    obtain ⟨v1, e1, e2, h3⟩ := h
    rcases h3 with ⟨e3, h4⟩ | ⟨e3, h4⟩
    · exact absurd h4 hv
    · exact ⟨v1, e1, e3, e2⟩)
theorem c_isS1 {σ : Sg} {t n y z l : Nat} {τ : Nat → Nat → Nat} (ht : isT t) (hT : TA σ t n y z l τ) {k : Nat} (hk : k < n) : Con 1 yX1_isStreet cX1_isStreet 2 (some .boolean) [.ref t, .int (nI k)] σ (PI (fun r σ1 => r = nI 1 ∧ σ1 = σ)) :=
  (c_isStreet ht hT (nI k)).weaken (fun r σ1 h => by
    obtain ⟨v, e1, e2, h3⟩ := h
    rcases h3 with ⟨e3, h4⟩ | ⟨e3, h4⟩
    · exact ⟨v, e1, e3, e2⟩
    · exact absurd ⟨k, hk, rfl⟩ h4)
-- isFull(): 1 if there are six
set_option maxHeartbeats 4000000 in
set_option maxRecDepth 100000 in
theorem c_isFull0 {σ : Sg} {t n : Nat} (ht : isT t) (hn6 : n ≤ 6) (h8 : σ t 8 = nI n) : Con 1 yX1_isFull cX1_isFull 1 (some .boolean) [.ref t] σ (PI (fun r σ1 => σ1 = σ ∧ ((r = nI 1 ∧ n = 6) ∨ (r = nI 0 ∧ n < 6)))) := by
  refine Con.of (by decide) (by simp [Value.category]) (Nat.le_of_ble_eq_true rfl) (fun x hB => ?_)
  show V x RX1 cX1_isFull 1 0 [some (.ref t)] [] _
  refine V.aload_n (q := 1) dX1_isFull_0 rfl rfl ?_
  refine V.getI (q := 4) dX1_isFull_1 rfl kf_X1_49 (shT ht) (loT ht) rfl h8 ?_
  refine V.bipush (q := 6) (v := nI 6) dX1_isFull_4 rfl (by decide +kernel) ?_
  refine V.icmpN_lt (t := 13) (q := 9) dX1_isFull_6 (by decide) rfl (by omega) (by omega) (fun c6 => ?_) (fun c6 => ?_)
  · refine V.iconst (q := 14) (v := nI 0) dX1_isFull_13 rfl (by decide +kernel) ?_
    exact V.ret_int hB dX1_isFull_14 (by decide +kernel) ⟨_, rfl, ⟨rfl, Or.inr ⟨rfl, by omega⟩⟩⟩
  · refine V.iconst (q := 10) (v := nI 1) dX1_isFull_9 rfl (by decide +kernel) ?_
    refine V.goto (q := 14) dX1_isFull_10 (by decide) ?_
    exact V.ret_int hB dX1_isFull_14 (by decide +kernel) ⟨_, rfl, ⟨rfl, Or.inl ⟨rfl, by omega⟩⟩⟩

theorem c_isF0 {σ : Sg} {t n : Nat} (ht : isT t) (hn6 : n ≤ 6) (h8 : σ t 8 = nI n) (hn : n < 6) : Con 1 yX1_isFull cX1_isFull 1 (some .boolean) [.ref t] σ (PI (fun r σ1 => r = nI 0 ∧ σ1 = σ)) :=
  (c_isFull0 ht hn6 h8).weaken (fun r σ1 h => by
    obtain ⟨v1, e1, e2, h3⟩ := h
    rcases h3 with ⟨e3, h4⟩ | ⟨e3, h4⟩
    · omega
    · exact ⟨v1, e1, e3, e2⟩)
-- fed(i): how many mend it
set_option maxHeartbeats 4000000 in
set_option maxRecDepth 100000 in
theorem c_fed {σ : Sg} {t n y z l : Nat} {τ : Nat → Nat → Nat} (ht : isT t) (hT : TA σ t n y z l τ) {i : Nat} (hi : i < 2 ^ 31) : Con 1 yX1_fed cX1_fed 4 (some .int) [.ref t, .int (nI i)] σ (PI (fun r σ1 => r = nI (fedK (τ 5) i n) ∧ σ1 = σ)) := by
  refine Con.of (by decide) (by simp [Value.category]) (Nat.le_of_ble_eq_true rfl) (fun x hB => ?_)
  show V x RX1 cX1_fed 4 0 [some (.ref t), some (.int (nI i)), none, none] [] _
  have hn6 := hT.n6
  have hyb := hT.yb
  refine V.iconst (q := 1) (v := nI 0) dX1_fed_0 rfl (by decide +kernel) ?_
  refine V.ist2 (q := 2) dX1_fed_1 rfl ?_
  refine V.iconst (q := 3) (v := nI 0) dX1_fed_2 rfl (by decide +kernel) ?_
  refine V.ist3 (q := 4) dX1_fed_3 rfl ?_
  have loop : ∀ j, j ≤ n → ∀ a, a = fedK (τ 5) i j → V x RX1 cX1_fed 4 4 [some (.ref t), some (.int (nI i)), some (.int (nI a)), some (.int (nI j))] [] σ := by
    refine down n (fun j hj ih a ea => ?_)
    refine V.iload_n (q := 5) dX1_fed_4 rfl rfl ?_
    refine V.aload_n (q := 6) dX1_fed_5 rfl rfl ?_
    refine V.getI (q := 9) dX1_fed_6 rfl kf_X1_49 (shT ht) (loT ht) rfl (TA.n8 hT) ?_
    refine V.icmpN_ge (t := 31) (q := 12) dX1_fed_9 (by decide) rfl (by omega) (by omega) (fun c9 => ?_) (fun c9 => ?_)
    · have ej : j = n := by omega
      subst ej
      refine V.iload_n (q := 32) dX1_fed_31 rfl rfl ?_
      exact V.ret_int hB dX1_fed_32 rfl ⟨_, rfl, ⟨by rw [ea], rfl⟩⟩
    · refine V.aload_n (q := 13) dX1_fed_12 rfl rfl ?_
      refine V.getR (q := 16) dX1_fed_13 rfl kf_X1_27 (shT ht) (loT ht) rfl ?_
      refine V.iload_n (q := 17) dX1_fed_16 rfl rfl ?_
      refine V.ialdN (q := 18) dX1_fed_17 rfl (shTa ht 6 (by decide) (by decide)) (loTa ht 6 (by decide)) (by omega) (by decide) (TA.a hT 5 (by decide) (by omega)) ?_
      refine V.iload_n (q := 19) dX1_fed_18 rfl rfl ?_
      refine V.icmpN_ne (t := 25) (q := 22) dX1_fed_19 (by decide) rfl (by have := (hT.w j c9).2.2.2.2.2.1; omega) hi (fun c19 => ?_) (fun c19 => ?_)
      · refine V.inc3 (q := 28) dX1_fed_25 rfl (inc1 _) ?_
        refine V.goto (q := 4) dX1_fed_28 (by decide) ?_
        exact ih c9 _ (by rw [ea]; simp [fedK, c19])
      · refine V.inc2 (q := 25) dX1_fed_22 rfl (inc1 _) ?_
        refine V.inc3 (q := 28) dX1_fed_25 rfl (inc1 _) ?_
        refine V.goto (q := 4) dX1_fed_28 (by decide) ?_
        exact ih c9 _ (by rw [ea]; simp [fedK, c19])
  exact loop 0 (Nat.zero_le _) 0 rfl

-- mudOf(k), stepFrom(k): of a street
set_option maxHeartbeats 4000000 in
set_option maxRecDepth 100000 in
theorem c_mudOf {σ : Sg} {t n y z l : Nat} {τ : Nat → Nat → Nat} (ht : isT t) (hT : TA σ t n y z l τ) {k : Nat} (hk : k < n) : Con 2 yX1_mudOf cX1_mudOf 2 (some .int) [.ref t, .int (nI k)] σ (PI (fun r σ1 => r = nI (τ 1 k) ∧ σ1 = σ)) := by
  refine Con.of (by decide) (by simp [Value.category]) (Nat.le_of_ble_eq_true rfl) (fun x hB => ?_)
  show V x RX1 cX1_mudOf 2 0 [some (.ref t), some (.int (nI k))] [] _
  have hn6 := hT.n6
  have hyb := hT.yb
  refine V.aload_n (q := 1) dX1_mudOf_0 rfl rfl ?_
  refine V.iload_n (q := 2) dX1_mudOf_1 rfl rfl ?_
  refine V.cvi1 (q := 5) dX1_mudOf_2 rfl kc_X1_59 (shT ht) (loT ht) rfl (hB.rm (by decide)) (Nat.le_of_ble_eq_true rfl) (c_isS1 ht hT hk) (fun r2 τ2 hp2 => ?_)
  obtain ⟨rfl, hz⟩ := hp2
  rw [hz]
  refine V.ifN_eq (t := 17) (q := 8) dX1_mudOf_5 (by decide) rfl (by omega) (fun c5 => absurd c5 (by decide +kernel)) (fun c5 => ?_)
  refine V.aload_n (q := 9) dX1_mudOf_8 rfl rfl ?_
  refine V.getR (q := 12) dX1_mudOf_9 rfl kf_X1_15 (shT ht) (loT ht) rfl ?_
  refine V.iload_n (q := 13) dX1_mudOf_12 rfl rfl ?_
  refine V.ialdN (q := 14) dX1_mudOf_13 rfl (shTa ht 2 (by decide) (by decide)) (loTa ht 2 (by decide)) (by omega) (by decide) (TA.a hT 1 (by decide) (by omega)) ?_
  refine V.goto (q := 18) dX1_mudOf_14 (by decide) ?_
  exact V.ret_int hB dX1_mudOf_18 rfl ⟨_, rfl, ⟨rfl, rfl⟩⟩

set_option maxHeartbeats 4000000 in
set_option maxRecDepth 100000 in
theorem c_stepFrom {σ : Sg} {t n y z l : Nat} {τ : Nat → Nat → Nat} (ht : isT t) (hT : TA σ t n y z l τ) {k : Nat} (hk : k < n) : Con 2 yX1_stepFrom cX1_stepFrom 2 (some .int) [.ref t, .int (nI k)] σ (PI (fun r σ1 => r = nI (τ 5 k) ∧ σ1 = σ)) := by
  refine Con.of (by decide) (by simp [Value.category]) (Nat.le_of_ble_eq_true rfl) (fun x hB => ?_)
  show V x RX1 cX1_stepFrom 2 0 [some (.ref t), some (.int (nI k))] [] _
  have hn6 := hT.n6
  have hyb := hT.yb
  refine V.aload_n (q := 1) dX1_stepFrom_0 rfl rfl ?_
  refine V.iload_n (q := 2) dX1_stepFrom_1 rfl rfl ?_
  refine V.cvi1 (q := 5) dX1_stepFrom_2 rfl kc_X1_59 (shT ht) (loT ht) rfl (hB.rm (by decide)) (Nat.le_of_ble_eq_true rfl) (c_isS1 ht hT hk) (fun r2 τ2 hp2 => ?_)
  obtain ⟨rfl, hz⟩ := hp2
  rw [hz]
  refine V.ifN_eq (t := 17) (q := 8) dX1_stepFrom_5 (by decide) rfl (by omega) (fun c5 => absurd c5 (by decide +kernel)) (fun c5 => ?_)
  refine V.aload_n (q := 9) dX1_stepFrom_8 rfl rfl ?_
  refine V.getR (q := 12) dX1_stepFrom_9 rfl kf_X1_27 (shT ht) (loT ht) rfl ?_
  refine V.iload_n (q := 13) dX1_stepFrom_12 rfl rfl ?_
  refine V.ialdN (q := 14) dX1_stepFrom_13 rfl (shTa ht 6 (by decide) (by decide)) (loTa ht 6 (by decide)) (by omega) (by decide) (TA.a hT 5 (by decide) (by omega)) ?_
  refine V.goto (q := 18) dX1_stepFrom_14 (by decide) ?_
  exact V.ret_int hB dX1_stepFrom_18 rfl ⟨_, rfl, ⟨rfl, rfl⟩⟩

-- mudOfAll()
set_option maxHeartbeats 4000000 in
set_option maxRecDepth 100000 in
theorem c_mudOfAll {σ : Sg} {t n y z l : Nat} {τ : Nat → Nat → Nat} (ht : isT t) (hT : TA σ t n y z l τ) : Con 1 yX1_mudOfAll cX1_mudOfAll 3 (some .int) [.ref t] σ (PI (fun r σ1 => r = nI (sumK (τ 1) n) ∧ σ1 = σ)) := by
  refine Con.of (by decide) (by simp [Value.category]) (Nat.le_of_ble_eq_true rfl) (fun x hB => ?_)
  show V x RX1 cX1_mudOfAll 3 0 [some (.ref t), none, none] [] _
  have hn6 := hT.n6
  have hyb := hT.yb
  refine V.iconst (q := 1) (v := nI 0) dX1_mudOfAll_0 rfl (by decide +kernel) ?_
  refine V.ist1 (q := 2) dX1_mudOfAll_1 rfl ?_
  refine V.iconst (q := 3) (v := nI 0) dX1_mudOfAll_2 rfl (by decide +kernel) ?_
  refine V.ist2 (q := 4) dX1_mudOfAll_3 rfl ?_
  have loop : ∀ j, j ≤ n → ∀ a, a = sumK (τ 1) j → V x RX1 cX1_mudOfAll 3 4 [some (.ref t), some (.int (nI a)), some (.int (nI j))] [] σ := by
    refine down n (fun j hj ih a ea => ?_)
    refine V.iload_n (q := 5) dX1_mudOfAll_4 rfl rfl ?_
    refine V.aload_n (q := 6) dX1_mudOfAll_5 rfl rfl ?_
    refine V.getI (q := 9) dX1_mudOfAll_6 rfl kf_X1_49 (shT ht) (loT ht) rfl (TA.n8 hT) ?_
    refine V.icmpN_ge (t := 27) (q := 12) dX1_mudOfAll_9 (by decide) rfl (by omega) (by omega) (fun c9 => ?_) (fun c9 => ?_)
    · have ej : j = n := by omega
      subst ej
      refine V.iload_n (q := 28) dX1_mudOfAll_27 rfl rfl ?_
      exact V.ret_int hB dX1_mudOfAll_28 rfl ⟨_, rfl, ⟨by rw [ea], rfl⟩⟩
    · refine V.iload_n (q := 13) dX1_mudOfAll_12 rfl rfl ?_
      refine V.aload_n (q := 14) dX1_mudOfAll_13 rfl rfl ?_
      refine V.getR (q := 17) dX1_mudOfAll_14 rfl kf_X1_15 (shT ht) (loT ht) rfl ?_
      refine V.iload_n (q := 18) dX1_mudOfAll_17 rfl rfl ?_
      refine V.ialdN (q := 19) dX1_mudOfAll_18 rfl (shTa ht 2 (by decide) (by decide)) (loTa ht 2 (by decide)) (by omega) (by decide) (TA.a hT 1 (by decide) (by omega)) ?_
      refine V.iaddN (q := 20) dX1_mudOfAll_19 rfl ?_
      refine V.ist1 (q := 21) dX1_mudOfAll_20 rfl ?_
      refine V.inc2 (q := 24) dX1_mudOfAll_21 rfl (inc1 _) ?_
      refine V.goto (q := 4) dX1_mudOfAll_24 (by decide) ?_
      exact ih c9 _ (by rw [ea]; rfl)
  exact loop 0 (Nat.zero_le _) 0 rfl

-- penceOfAll()
set_option maxHeartbeats 4000000 in
set_option maxRecDepth 100000 in
theorem c_penceOfAll {σ : Sg} {t n y z l : Nat} {τ : Nat → Nat → Nat} (ht : isT t) (hT : TA σ t n y z l τ) : Con 1 yX1_penceOfAll cX1_penceOfAll 3 (some .int) [.ref t] σ (PI (fun r σ1 => r = nI (sumK (τ 4) n) ∧ σ1 = σ)) := by
  refine Con.of (by decide) (by simp [Value.category]) (Nat.le_of_ble_eq_true rfl) (fun x hB => ?_)
  show V x RX1 cX1_penceOfAll 3 0 [some (.ref t), none, none] [] _
  have hn6 := hT.n6
  have hyb := hT.yb
  refine V.iconst (q := 1) (v := nI 0) dX1_penceOfAll_0 rfl (by decide +kernel) ?_
  refine V.ist1 (q := 2) dX1_penceOfAll_1 rfl ?_
  refine V.iconst (q := 3) (v := nI 0) dX1_penceOfAll_2 rfl (by decide +kernel) ?_
  refine V.ist2 (q := 4) dX1_penceOfAll_3 rfl ?_
  have loop : ∀ j, j ≤ n → ∀ a, a = sumK (τ 4) j → V x RX1 cX1_penceOfAll 3 4 [some (.ref t), some (.int (nI a)), some (.int (nI j))] [] σ := by
    refine down n (fun j hj ih a ea => ?_)
    refine V.iload_n (q := 5) dX1_penceOfAll_4 rfl rfl ?_
    refine V.aload_n (q := 6) dX1_penceOfAll_5 rfl rfl ?_
    refine V.getI (q := 9) dX1_penceOfAll_6 rfl kf_X1_49 (shT ht) (loT ht) rfl (TA.n8 hT) ?_
    refine V.icmpN_ge (t := 27) (q := 12) dX1_penceOfAll_9 (by decide) rfl (by omega) (by omega) (fun c9 => ?_) (fun c9 => ?_)
    · have ej : j = n := by omega
      subst ej
      refine V.iload_n (q := 28) dX1_penceOfAll_27 rfl rfl ?_
      exact V.ret_int hB dX1_penceOfAll_28 rfl ⟨_, rfl, ⟨by rw [ea], rfl⟩⟩
    · refine V.iload_n (q := 13) dX1_penceOfAll_12 rfl rfl ?_
      refine V.aload_n (q := 14) dX1_penceOfAll_13 rfl rfl ?_
      refine V.getR (q := 17) dX1_penceOfAll_14 rfl kf_X1_24 (shT ht) (loT ht) rfl ?_
      refine V.iload_n (q := 18) dX1_penceOfAll_17 rfl rfl ?_
      refine V.ialdN (q := 19) dX1_penceOfAll_18 rfl (shTa ht 5 (by decide) (by decide)) (loTa ht 5 (by decide)) (by omega) (by decide) (TA.a hT 4 (by decide) (by omega)) ?_
      refine V.iaddN (q := 20) dX1_penceOfAll_19 rfl ?_
      refine V.ist1 (q := 21) dX1_penceOfAll_20 rfl ?_
      refine V.inc2 (q := 24) dX1_penceOfAll_21 rfl (inc1 _) ?_
      refine V.goto (q := 4) dX1_penceOfAll_24 (by decide) ?_
      exact ih c9 _ (by rw [ea]; rfl)
  exact loop 0 (Nat.zero_le _) 0 rfl

-- isOnRing(i)
set_option maxHeartbeats 4000000 in
set_option maxRecDepth 100000 in
theorem c_isOnRing {σ : Sg} {t n y z l : Nat} {τ : Nat → Nat → Nat} (ht : isT t) (hT : TA σ t n y z l τ) {i : Nat} (hi : i < n) : Con 3 yX1_isOnRing cX1_isOnRing 4 (some .boolean) [.ref t, .int (nI i)] σ (PI (fun r σ1 => σ1 = σ ∧ ((r = nI 1 ∧ onR n (τ 5) i) ∨ (r = nI 0 ∧ ¬ onR n (τ 5) i)))) := by
  refine Con.of (by decide) (by simp [Value.category]) (Nat.le_of_ble_eq_true rfl) (fun x hB => ?_)
  show V x RX1 cX1_isOnRing 4 0 [some (.ref t), some (.int (nI i)), none, none] [] _
  have hn6 := hT.n6
  have hyb := hT.yb
  refine V.iload_n (q := 1) dX1_isOnRing_0 rfl rfl ?_
  refine V.ist2 (q := 2) dX1_isOnRing_1 rfl ?_
  refine V.iconst (q := 3) (v := nI 0) dX1_isOnRing_2 rfl (by decide +kernel) ?_
  refine V.ist3 (q := 4) dX1_isOnRing_3 rfl ?_
  have hme : ∀ a, a < n → τ 5 a < n := fun a h9 => (hT.w a h9).2.2.2.2.2.1
  have loop : ∀ j, j ≤ n → ∀ a, a = itr (τ 5) j i → (∀ k, k < j → ¬ itr (τ 5) (k + 1) i = i) → V x RX1 cX1_isOnRing 4 4 [some (.ref t), some (.int (nI i)), some (.int (nI a)), some (.int (nI j))] [] σ := by
    refine down n (fun j hj ih a ea hno => ?_)
    have ha : a < n := by rw [ea]; exact itr_lt hme hi j
    have ha2 := hme a ha
    refine V.iload_n (q := 5) dX1_isOnRing_4 rfl rfl ?_
    refine V.aload_n (q := 6) dX1_isOnRing_5 rfl rfl ?_
    refine V.getI (q := 9) dX1_isOnRing_6 rfl kf_X1_49 (shT ht) (loT ht) rfl (TA.n8 hT) ?_
    refine V.icmpN_ge (t := 31) (q := 12) dX1_isOnRing_9 (by decide) rfl (by omega) (by omega) (fun c9 => ?_) (fun c9 => ?_)
    · have ej : j = n := by omega
      subst ej
      refine V.iconst (q := 32) (v := nI 0) dX1_isOnRing_31 rfl (by decide +kernel) ?_
      exact V.ret_int hB dX1_isOnRing_32 (by decide +kernel) ⟨_, rfl, ⟨rfl, Or.inr ⟨rfl, fun ⟨k, h1, h2⟩ => hno k h1 h2⟩⟩⟩
    · refine V.aload_n (q := 13) dX1_isOnRing_12 rfl rfl ?_
      refine V.iload_n (q := 14) dX1_isOnRing_13 rfl rfl ?_
      refine V.cvi1 (q := 17) dX1_isOnRing_14 rfl kc_X1_67 (shT ht) (loT ht) rfl (hB.rm (by decide)) (Nat.le_of_ble_eq_true rfl) (c_stepFrom ht hT ha) (fun r14 τ14 hp14 => ?_)
      obtain ⟨rfl, hz⟩ := hp14
      rw [hz]
      refine V.ist2 (q := 18) dX1_isOnRing_17 rfl ?_
      refine V.iload_n (q := 19) dX1_isOnRing_18 rfl rfl ?_
      refine V.iload_n (q := 20) dX1_isOnRing_19 rfl rfl ?_
      refine V.icmpN_ne (t := 25) (q := 23) dX1_isOnRing_20 (by decide) rfl (by omega) (by omega) (fun c20 => ?_) (fun c20 => ?_)
      · refine V.inc3 (q := 28) dX1_isOnRing_25 rfl (inc1 _) ?_
        refine V.goto (q := 4) dX1_isOnRing_28 (by decide) ?_
        refine ih c9 _ (by rw [ea]; rfl) (fun k h9 => ?_)
        rcases Nat.lt_or_ge k j with h8 | h8
        · exact hno k h8
        · have : k = j := by omega
          subst this
          show ¬ τ 5 (itr (τ 5) k i) = i
          rw [← ea]; exact c20
      · refine V.iconst (q := 24) (v := nI 1) dX1_isOnRing_23 rfl (by decide +kernel) ?_
        exact V.ret_int hB dX1_isOnRing_24 (by decide +kernel) ⟨_, rfl, ⟨rfl, Or.inl ⟨rfl, j, c9, by show τ 5 (itr (τ 5) j i) = i; rw [← ea]; exact c20⟩⟩⟩
  exact loop 0 (Nat.zero_le _) i rfl (fun k h9 => absurd h9 (by omega))

-- leastOnTheWayFrom(i)
set_option maxHeartbeats 4000000 in
set_option maxRecDepth 100000 in
theorem c_least {σ : Sg} {t n y z l : Nat} {τ : Nat → Nat → Nat} (ht : isT t) (hT : TA σ t n y z l τ) {i : Nat} (hi : i < n) : Con 3 yX1_leastOnTheWayFrom cX1_leastOnTheWayFrom 5 (some .int) [.ref t, .int (nI i)] σ (PI (fun r σ1 => r = nI (lwK (τ 5) i n) ∧ σ1 = σ)) := by
  refine Con.of (by decide) (by simp [Value.category]) (Nat.le_of_ble_eq_true rfl) (fun x hB => ?_)
  show V x RX1 cX1_leastOnTheWayFrom 5 0 [some (.ref t), some (.int (nI i)), none, none, none] [] _
  have hn6 := hT.n6
  have hyb := hT.yb
  refine V.iload_n (q := 1) dX1_leastOnTheWayFrom_0 rfl rfl ?_
  refine V.ist2 (q := 2) dX1_leastOnTheWayFrom_1 rfl ?_
  refine V.iload_n (q := 3) dX1_leastOnTheWayFrom_2 rfl rfl ?_
  refine V.ist3 (q := 4) dX1_leastOnTheWayFrom_3 rfl ?_
  refine V.iconst (q := 5) (v := nI 0) dX1_leastOnTheWayFrom_4 rfl (by decide +kernel) ?_
  refine V.ist4 (q := 7) dX1_leastOnTheWayFrom_5 rfl ?_
  have hme : ∀ a, a < n → τ 5 a < n := fun a h9 => (hT.w a h9).2.2.2.2.2.1
  have loop : ∀ j, j ≤ n → ∀ a b, a = itr (τ 5) j i → b = lwK (τ 5) i j → b < n → V x RX1 cX1_leastOnTheWayFrom 5 7 [some (.ref t), some (.int (nI i)), some (.int (nI b)), some (.int (nI a)), some (.int (nI j))] [] σ := by
    refine down n (fun j hj ih a b ea eb hb => ?_)
    have ha : a < n := by rw [ea]; exact itr_lt hme hi j
    have ha2 := hme a ha
    refine V.iload (q := 9) dX1_leastOnTheWayFrom_7 rfl rfl ?_
    refine V.aload_n (q := 10) dX1_leastOnTheWayFrom_9 rfl rfl ?_
    refine V.getI (q := 13) dX1_leastOnTheWayFrom_10 rfl kf_X1_49 (shT ht) (loT ht) rfl (TA.n8 hT) ?_
    refine V.icmpN_ge (t := 34) (q := 16) dX1_leastOnTheWayFrom_13 (by decide) rfl (by omega) (by omega) (fun c13 => ?_) (fun c13 => ?_)
    · have ej : j = n := by omega
      subst ej
      refine V.iload_n (q := 35) dX1_leastOnTheWayFrom_34 rfl rfl ?_
      exact V.ret_int hB dX1_leastOnTheWayFrom_35 rfl ⟨_, rfl, ⟨by rw [eb], rfl⟩⟩
    · refine V.aload_n (q := 17) dX1_leastOnTheWayFrom_16 rfl rfl ?_
      refine V.iload_n (q := 18) dX1_leastOnTheWayFrom_17 rfl rfl ?_
      refine V.cvi1 (q := 21) dX1_leastOnTheWayFrom_18 rfl kc_X1_67 (shT ht) (loT ht) rfl (hB.rm (by decide)) (Nat.le_of_ble_eq_true rfl) (c_stepFrom ht hT ha) (fun r18 τ18 hp18 => ?_)
      obtain ⟨rfl, hz⟩ := hp18
      rw [hz]
      refine V.ist3 (q := 22) dX1_leastOnTheWayFrom_21 rfl ?_
      refine V.iload_n (q := 23) dX1_leastOnTheWayFrom_22 rfl rfl ?_
      refine V.iload_n (q := 24) dX1_leastOnTheWayFrom_23 rfl rfl ?_
      refine V.min (q := 27) dX1_leastOnTheWayFrom_24 rfl kc_X1_78 (hB.rm (by decide)) (Nat.le_of_ble_eq_true rfl) (minN (by omega) (by omega)) ?_
      refine V.ist2 (q := 28) dX1_leastOnTheWayFrom_27 rfl ?_
      refine V.inc4 (q := 31) dX1_leastOnTheWayFrom_28 rfl (inc1 _) ?_
      refine V.goto (q := 7) dX1_leastOnTheWayFrom_31 (by decide) ?_
      exact ih c13 _ _ (by rw [ea]; rfl) (by rw [eb, ea]; rfl) (by omega)
  exact loop 0 (Nat.zero_le _) i i rfl rfl hi

-- muddiest()
set_option maxHeartbeats 4000000 in
set_option maxRecDepth 100000 in
theorem c_muddiest {σ : Sg} {t n y z l : Nat} {τ : Nat → Nat → Nat} (ht : isT t) (hT : TA σ t n y z l τ) : Con 3 yX1_muddiest cX1_muddiest 3 (some .int) [.ref t] σ (PI (fun r σ1 => σ1 = σ ∧ ((n = 0 ∧ r = -1) ∨ (0 < n ∧ r = nI (mxK (τ 1) n))))) := by
  refine Con.of (by decide) (by simp [Value.category]) (Nat.le_of_ble_eq_true rfl) (fun x hB => ?_)
  show V x RX1 cX1_muddiest 3 0 [some (.ref t), none, none] [] _
  have hn6 := hT.n6
  have hyb := hT.yb
  refine V.iconst (q := 1) (v := -1) dX1_muddiest_0 rfl (by decide +kernel) ?_
  refine V.ist1 (q := 2) dX1_muddiest_1 rfl ?_
  refine V.iconst (q := 3) (v := nI 0) dX1_muddiest_2 rfl (by decide +kernel) ?_
  refine V.ist2 (q := 4) dX1_muddiest_3 rfl ?_
  have loop : ∀ j, j ≤ n → ∀ v : Int32, ((j = 0 ∧ v = -1) ∨ (0 < j ∧ v = nI (mxK (τ 1) j))) → V x RX1 cX1_muddiest 3 4 [some (.ref t), some (.int v), some (.int (nI j))] [] σ := by
    refine down n (fun j hj ih v hv => ?_)
    refine V.iload_n (q := 5) dX1_muddiest_4 rfl rfl ?_
    refine V.aload_n (q := 6) dX1_muddiest_5 rfl rfl ?_
    refine V.getI (q := 9) dX1_muddiest_6 rfl kf_X1_49 (shT ht) (loT ht) rfl (TA.n8 hT) ?_
    refine V.icmpN_ge (t := 39) (q := 12) dX1_muddiest_9 (by decide) rfl (by omega) (by omega) (fun c9 => ?_) (fun c9 => ?_)
    · have ej : j = n := by omega
      subst ej
      refine V.iload_n (q := 40) dX1_muddiest_39 rfl rfl ?_
      exact V.ret_int hB dX1_muddiest_40 rfl ⟨_, rfl, ⟨rfl, hv⟩⟩
    · rcases hv with ⟨ej, ev⟩ | ⟨ej, ev⟩ <;> subst ev
      · skip
        refine V.iload_n (q := 13) dX1_muddiest_12 rfl rfl ?_
        refine V.iconst (q := 14) (v := (-1)) dX1_muddiest_13 rfl (by decide +kernel) ?_
        refine V.icmp_eq (t := 31) (q := 17) dX1_muddiest_14 (by decide) rfl  (fun c14 => ?_) (fun c14 => absurd c14 (fun h9 => h9 rfl))
        refine V.iload_n (q := 32) dX1_muddiest_31 rfl rfl ?_
        refine V.ist1 (q := 33) dX1_muddiest_32 rfl ?_
        refine V.inc2 (q := 36) dX1_muddiest_33 rfl (inc1 _) ?_
        refine V.goto (q := 4) dX1_muddiest_36 (by decide) ?_
        exact ih c9 _ (Or.inr ⟨by omega, by subst ej; simp [mxK]⟩)
      · have hm := mxK_lt (g := τ 1) ej
        have hm1 := (hT.w _ (Nat.lt_trans hm c9)).2.1
        have hm2 := (hT.w j c9).2.1
        refine V.iload_n (q := 13) dX1_muddiest_12 rfl rfl ?_
        refine V.iconst (q := 14) (v := (-1)) dX1_muddiest_13 rfl (by decide +kernel) ?_
        refine V.icmp_eq (t := 31) (q := 17) dX1_muddiest_14 (by decide) rfl  (fun c14 => absurd c14 (nI_m1 (by omega))) (fun c14 => ?_)
        refine V.aload_n (q := 18) dX1_muddiest_17 rfl rfl ?_
        refine V.getR (q := 21) dX1_muddiest_18 rfl kf_X1_15 (shT ht) (loT ht) rfl ?_
        refine V.iload_n (q := 22) dX1_muddiest_21 rfl rfl ?_
        refine V.ialdN (q := 23) dX1_muddiest_22 rfl (shTa ht 2 (by decide) (by decide)) (loTa ht 2 (by decide)) (by omega) (by decide) (TA.a hT 1 (by decide) (by omega)) ?_
        refine V.aload_n (q := 24) dX1_muddiest_23 rfl rfl ?_
        refine V.iload_n (q := 25) dX1_muddiest_24 rfl rfl ?_
        refine V.cvi1 (q := 28) dX1_muddiest_25 rfl kc_X1_100 (shT ht) (loT ht) rfl (hB.rm (by decide)) (Nat.le_of_ble_eq_true rfl) (c_mudOf ht hT (Nat.lt_trans hm c9)) (fun r25 τ25 hp25 => ?_)
        obtain ⟨rfl, hz⟩ := hp25
        rw [hz]
        refine V.icmpN_le (t := 33) (q := 31) dX1_muddiest_28 (by decide) rfl (by omega) (by omega) (fun c28 => ?_) (fun c28 => ?_)
        · refine V.inc2 (q := 36) dX1_muddiest_33 rfl (inc1 _) ?_
          refine V.goto (q := 4) dX1_muddiest_36 (by decide) ?_
          exact ih c9 _ (Or.inr ⟨by omega, by simp [mxK, Nat.not_lt.mpr c28]⟩)
        · refine V.iload_n (q := 32) dX1_muddiest_31 rfl rfl ?_
          refine V.ist1 (q := 33) dX1_muddiest_32 rfl ?_
          refine V.inc2 (q := 36) dX1_muddiest_33 rfl (inc1 _) ?_
          refine V.goto (q := 4) dX1_muddiest_36 (by decide) ?_
          exact ih c9 _ (Or.inr ⟨by omega, by simp [mxK, c28]⟩)
  exact loop 0 (Nat.zero_le _) _ (Or.inl ⟨rfl, rfl⟩)

-- liesLike(u)
set_option maxHeartbeats 4000000 in
set_option maxRecDepth 100000 in
theorem c_liesLike {σ : Sg} {t n y z l : Nat} {τ : Nat → Nat → Nat} (ht : isT t) (hT : TA σ t n y z l τ) {u y2 z2 l2 : Nat} {υ : Nat → Nat → Nat} (hu : isT u) (hU : TA σ u n y2 z2 l2 υ) : Con 1 yX1_liesLike cX1_liesLike 3 (some .boolean) [.ref t, .ref u] σ (PI (fun r σ1 => σ1 = σ ∧ ((r = nI 1 ∧ alike n τ υ) ∨ (r = nI 0 ∧ ¬ alike n τ υ)))) := by
  refine Con.of (by decide) (by simp [Value.category]) (Nat.le_of_ble_eq_true rfl) (fun x hB => ?_)
  show V x RX1 cX1_liesLike 3 0 [some (.ref t), some (.ref u), none] [] _
  have hn6 := hT.n6
  have hyb := hT.yb
  refine V.iconst (q := 1) (v := nI 0) dX1_liesLike_0 rfl (by decide +kernel) ?_
  refine V.ist2 (q := 2) dX1_liesLike_1 rfl ?_
  have loop : ∀ j, j ≤ n → (∀ i, i < j → τ 1 i = υ 1 i ∧ τ 6 i = υ 6 i) → V x RX1 cX1_liesLike 3 2 [some (.ref t), some (.ref u), some (.int (nI j))] [] σ := by
    refine down n (fun j hj ih hall => ?_)
    refine V.iload_n (q := 3) dX1_liesLike_2 rfl rfl ?_
    refine V.aload_n (q := 4) dX1_liesLike_3 rfl rfl ?_
    refine V.getI (q := 7) dX1_liesLike_4 rfl kf_X1_49 (shT ht) (loT ht) rfl (TA.n8 hT) ?_
    refine V.icmpN_ge (t := 48) (q := 10) dX1_liesLike_7 (by decide) rfl (by omega) (by omega) (fun c7 => ?_) (fun c7 => ?_)
    · have ej : j = n := by omega
      subst ej
      refine V.iconst (q := 49) (v := nI 1) dX1_liesLike_48 rfl (by decide +kernel) ?_
      exact V.ret_int hB dX1_liesLike_49 (by decide +kernel) ⟨_, rfl, ⟨rfl, Or.inl ⟨rfl, hall⟩⟩⟩
    · have h1 := hT.w j c7
      have h2 := hU.w j c7
      refine V.aload_n (q := 11) dX1_liesLike_10 rfl rfl ?_
      refine V.getR (q := 14) dX1_liesLike_11 rfl kf_X1_15 (shT ht) (loT ht) rfl ?_
      refine V.iload_n (q := 15) dX1_liesLike_14 rfl rfl ?_
      refine V.ialdN (q := 16) dX1_liesLike_15 rfl (shTa ht 2 (by decide) (by decide)) (loTa ht 2 (by decide)) (by omega) (by decide) (TA.a hT 1 (by decide) (by omega)) ?_
      refine V.aload_n (q := 17) dX1_liesLike_16 rfl rfl ?_
      refine V.getR (q := 20) dX1_liesLike_17 rfl kf_X1_15 (shT hu) (loT hu) rfl ?_
      refine V.iload_n (q := 21) dX1_liesLike_20 rfl rfl ?_
      refine V.ialdN (q := 22) dX1_liesLike_21 rfl (shTa hu 2 (by decide) (by decide)) (loTa hu 2 (by decide)) (by omega) (by decide) (TA.a hU 1 (by decide) (by omega)) ?_
      refine V.icmpN_ne (t := 40) (q := 25) dX1_liesLike_22 (by decide) rfl (by omega) (by omega) (fun c22 => ?_) (fun c22 => ?_)
      · refine V.iconst (q := 41) (v := nI 0) dX1_liesLike_40 rfl (by decide +kernel) ?_
        exact V.ret_int hB dX1_liesLike_41 (by decide +kernel) ⟨_, rfl, ⟨rfl, Or.inr ⟨rfl, fun h9 => c22 (h9 j c7).1⟩⟩⟩
      · refine V.aload_n (q := 26) dX1_liesLike_25 rfl rfl ?_
        refine V.getR (q := 29) dX1_liesLike_26 rfl kf_X1_30 (shT ht) (loT ht) rfl ?_
        refine V.iload_n (q := 30) dX1_liesLike_29 rfl rfl ?_
        refine V.ialdN (q := 31) dX1_liesLike_30 rfl (shTa ht 7 (by decide) (by decide)) (loTa ht 7 (by decide)) (by omega) (by decide) (TA.a hT 6 (by decide) (by omega)) ?_
        refine V.aload_n (q := 32) dX1_liesLike_31 rfl rfl ?_
        refine V.getR (q := 35) dX1_liesLike_32 rfl kf_X1_30 (shT hu) (loT hu) rfl ?_
        refine V.iload_n (q := 36) dX1_liesLike_35 rfl rfl ?_
        refine V.ialdN (q := 37) dX1_liesLike_36 rfl (shTa hu 7 (by decide) (by decide)) (loTa hu 7 (by decide)) (by omega) (by decide) (TA.a hU 6 (by decide) (by omega)) ?_
        refine V.icmpN_eq (t := 42) (q := 40) dX1_liesLike_37 (by decide) rfl (by omega) (by omega) (fun c37 => ?_) (fun c37 => ?_)
        · refine V.inc2 (q := 45) dX1_liesLike_42 rfl (inc1 _) ?_
          refine V.goto (q := 2) dX1_liesLike_45 (by decide) ?_
          refine ih c7 (fun k h9 => ?_)
          rcases Nat.lt_or_ge k j with h8 | h8
          · exact hall k h8
          · have : k = j := by omega
            subst this
            exact ⟨c22, c37⟩
        · refine V.iconst (q := 41) (v := nI 0) dX1_liesLike_40 rfl (by decide +kernel) ?_
          exact V.ret_int hB dX1_liesLike_41 (by decide +kernel) ⟨_, rfl, ⟨rfl, Or.inr ⟨rfl, fun h9 => c37 (h9 j c7).2⟩⟩⟩
  exact loop 0 (Nat.zero_le _) (fun i h9 => absurd h9 (by omega))

-- trustOf(k), workOf(k, mt)
set_option maxHeartbeats 4000000 in
set_option maxRecDepth 100000 in
theorem c_trustOf {σ : Sg} {t n y z l : Nat} {τ : Nat → Nat → Nat} (ht : isT t) (hT : TA σ t n y z l τ) {k : Nat} (hk : k < n) : Con 1 yX1_trustOf cX1_trustOf 2 (some .int) [.ref t, .int (nI k)] σ (PI (fun r σ1 => r = nI (trustM τ k) ∧ σ1 = σ)) := by
  refine Con.of (by decide) (by simp [Value.category]) (Nat.le_of_ble_eq_true rfl) (fun x hB => ?_)
  show V x RX1 cX1_trustOf 2 0 [some (.ref t), some (.int (nI k))] [] _
  have hn6 := hT.n6
  have hyb := hT.yb
  have hw := hT.w k hk
  refine V.aload_n (q := 1) dX1_trustOf_0 rfl rfl ?_
  refine V.getR (q := 4) dX1_trustOf_1 rfl kf_X1_21 (shT ht) (loT ht) rfl ?_
  refine V.iload_n (q := 5) dX1_trustOf_4 rfl rfl ?_
  refine V.ialdN (q := 6) dX1_trustOf_5 rfl (shTa ht 4 (by decide) (by decide)) (loTa ht 4 (by decide)) (by omega) (by decide) (TA.a hT 3 (by decide) (by omega)) ?_
  refine V.aload_n (q := 7) dX1_trustOf_6 rfl rfl ?_
  refine V.getR (q := 10) dX1_trustOf_7 rfl kf_X1_30 (shT ht) (loT ht) rfl ?_
  refine V.iload_n (q := 11) dX1_trustOf_10 rfl rfl ?_
  refine V.ialdN (q := 12) dX1_trustOf_11 rfl (shTa ht 7 (by decide) (by decide)) (loTa ht 7 (by decide)) (by omega) (by decide) (TA.a hT 6 (by decide) (by omega)) ?_
  refine V.iconst (q := 13) (v := nI 1) dX1_trustOf_12 rfl (by decide +kernel) ?_
  refine V.iaddN (q := 14) dX1_trustOf_13 rfl ?_
  refine V.min (q := 17) dX1_trustOf_14 rfl kc_X1_78 (hB.rm (by decide)) (Nat.le_of_ble_eq_true rfl) (minN (by omega) (by omega)) ?_
  exact V.ret_int hB dX1_trustOf_17 rfl ⟨_, rfl, ⟨rfl, rfl⟩⟩

set_option maxHeartbeats 4000000 in
set_option maxRecDepth 100000 in
theorem c_workOf {σ : Sg} {t n y z l : Nat} {τ : Nat → Nat → Nat} (ht : isT t) (hT : TA σ t n y z l τ) {k mt : Nat} (hk : k < n) (hmt : mt < 2 ^ 31) : Con 2 yX1_workOf cX1_workOf 4 (some .int) [.ref t, .int (nI k), .int (nI mt)] σ (PI (fun r σ1 => r = nI (workM y z l τ k mt) ∧ σ1 = σ)) := by
  refine Con.of (by decide) (by simp [Value.category]) (Nat.le_of_ble_eq_true rfl) (fun x hB => ?_)
  show V x RX1 cX1_workOf 4 0 [some (.ref t), some (.int (nI k)), some (.int (nI mt)), none] [] _
  have hn6 := hT.n6
  have hyb := hT.yb
  have hw := hT.w k hk
  refine V.iload_n (q := 1) dX1_workOf_0 rfl rfl ?_
  refine V.aload_n (q := 2) dX1_workOf_1 rfl rfl ?_
  refine V.getI (q := 5) dX1_workOf_2 rfl kf_X1_36 (shT ht) (loT ht) rfl (TA.n10 hT) ?_
  refine V.icmp_eq (t := 16) (q := 8) dX1_workOf_5 (by decide) rfl  (fun c5 => ?_) (fun c5 => ?_)
  · refine V.iconst (q := 17) (v := nI 0) dX1_workOf_16 rfl (by decide +kernel) ?_
    exact V.ret_int hB dX1_workOf_17 rfl ⟨_, rfl, ⟨by simp [workM, (nz_eq (show k < 6 by omega)).mp c5], rfl⟩⟩
  · have hz1 : ¬ k = z := fun e9 => c5 ((nz_eq (by omega)).mpr e9)
    refine V.iload_n (q := 9) dX1_workOf_8 rfl rfl ?_
    refine V.aload_n (q := 10) dX1_workOf_9 rfl rfl ?_
    refine V.getI (q := 13) dX1_workOf_10 rfl kf_X1_40 (shT ht) (loT ht) rfl (TA.n11 hT) ?_
    refine V.icmp_ne (t := 18) (q := 16) dX1_workOf_13 (by decide) rfl  (fun c13 => ?_) (fun c13 => ?_)
    · have hz2 : ¬ k = l := fun e9 => c13 ((nz_eq (by omega)).mpr e9)
      refine V.aload_n (q := 19) dX1_workOf_18 rfl rfl ?_
      refine V.getR (q := 22) dX1_workOf_19 rfl kf_X1_21 (shT ht) (loT ht) rfl ?_
      refine V.iload_n (q := 23) dX1_workOf_22 rfl rfl ?_
      refine V.ialdN (q := 24) dX1_workOf_23 rfl (shTa ht 4 (by decide) (by decide)) (loTa ht 4 (by decide)) (by omega) (by decide) (TA.a hT 3 (by decide) (by omega)) ?_
      refine V.ist3 (q := 25) dX1_workOf_24 rfl ?_
      refine V.aload_n (q := 26) dX1_workOf_25 rfl rfl ?_
      refine V.getR (q := 29) dX1_workOf_26 rfl kf_X1_9 (shT ht) (loT ht) rfl ?_
      refine V.iload_n (q := 30) dX1_workOf_29 rfl rfl ?_
      refine V.ialdN (q := 31) dX1_workOf_30 rfl (shTa ht 1 (by decide) (by decide)) (loTa ht 1 (by decide)) (by omega) (by decide) (TA.a hT 0 (by decide) (by omega)) ?_
      rcases (show τ 0 k = 0 ∨ τ 0 k = 1 ∨ τ 0 k = 2 ∨ τ 0 k = 3 ∨ τ 0 k = 4 ∨ τ 0 k = 5 by omega) with e0 | e0 | e0 | e0 | e0 | e0
      · rw [e0]
        refine V.tableOut (q := 122) dX1_workOf_31 (by decide +kernel) (by decide) ?_
        refine V.iload_n (q := 123) dX1_workOf_122 rfl rfl ?_
        exact V.ret_int hB dX1_workOf_123 rfl ⟨_, rfl, ⟨by simp [workM, hz1, hz2, e0], rfl⟩⟩
      · rw [e0]
        refine V.tableIn (q := 64) (off := 33) dX1_workOf_31 (by decide +kernel) (by decide +kernel) rfl (by decide) ?_
        refine V.aload_n (q := 65) dX1_workOf_64 rfl rfl ?_
        refine V.getI (q := 68) dX1_workOf_65 rfl kf_X1_52 (shT ht) (loT ht) rfl (TA.n9 hT) ?_
        refine V.iconst (q := 69) (v := nI 2) dX1_workOf_68 rfl (by decide +kernel) ?_
        refine V.iremN (q := 70) dX1_workOf_69 rfl (by omega) (by decide) (by decide) ?_
        refine V.ifN_ne (t := 77) (q := 73) dX1_workOf_70 (by decide) rfl (by omega) (fun c70 => ?_) (fun c70 => ?_)
        · refine V.iconst (q := 78) (v := nI 0) dX1_workOf_77 rfl (by decide +kernel) ?_
          exact V.ret_int hB dX1_workOf_78 rfl ⟨_, rfl, ⟨by simp [workM, hz1, hz2, e0, c70], rfl⟩⟩
        · refine V.iload_n (q := 74) dX1_workOf_73 rfl rfl ?_
          refine V.goto (q := 78) dX1_workOf_74 (by decide) ?_
          exact V.ret_int hB dX1_workOf_78 rfl ⟨_, rfl, ⟨by simp [workM, hz1, hz2, e0, c70], rfl⟩⟩
      · rw [e0]
        refine V.tableIn (q := 79) (off := 48) dX1_workOf_31 (by decide +kernel) (by decide +kernel) rfl (by decide) ?_
        refine V.aload_n (q := 80) dX1_workOf_79 rfl rfl ?_
        refine V.iload_n (q := 81) dX1_workOf_80 rfl rfl ?_
        refine V.cvi1 (q := 84) dX1_workOf_81 rfl kc_X1_93 (shT ht) (loT ht) rfl (hB.rm (by decide)) (Nat.le_of_ble_eq_true rfl) (c_trustOf ht hT hk) (fun r81 τ81 hp81 => ?_)
        obtain ⟨rfl, hz⟩ := hp81
        rw [hz]
        exact V.ret_int hB dX1_workOf_84 rfl ⟨_, rfl, ⟨by simp [workM, hz1, hz2, e0], rfl⟩⟩
      · rw [e0]
        refine V.tableIn (q := 85) (off := 54) dX1_workOf_31 (by decide +kernel) (by decide +kernel) rfl (by decide) ?_
        refine V.aload_n (q := 86) dX1_workOf_85 rfl rfl ?_
        refine V.getR (q := 89) dX1_workOf_86 rfl kf_X1_24 (shT ht) (loT ht) rfl ?_
        refine V.iload_n (q := 90) dX1_workOf_89 rfl rfl ?_
        refine V.ialdN (q := 91) dX1_workOf_90 rfl (shTa ht 5 (by decide) (by decide)) (loTa ht 5 (by decide)) (by omega) (by decide) (TA.a hT 4 (by decide) (by omega)) ?_
        refine V.ifN_le (t := 100) (q := 94) dX1_workOf_91 (by decide) rfl (by omega) (fun c91 => ?_) (fun c91 => ?_)
        · refine V.iconst (q := 101) (v := nI 0) dX1_workOf_100 rfl (by decide +kernel) ?_
          exact V.ret_int hB dX1_workOf_101 rfl ⟨_, rfl, ⟨by simp [workM, hz1, hz2, e0, show τ 4 k = 0 by omega], rfl⟩⟩
        · refine V.iload_n (q := 95) dX1_workOf_94 rfl rfl ?_
          refine V.iconst (q := 96) (v := nI 1) dX1_workOf_95 rfl (by decide +kernel) ?_
          refine V.iaddN (q := 97) dX1_workOf_96 rfl ?_
          refine V.goto (q := 101) dX1_workOf_97 (by decide) ?_
          exact V.ret_int hB dX1_workOf_101 rfl ⟨_, rfl, ⟨by simp [workM, hz1, hz2, e0, c91], rfl⟩⟩
      · rw [e0]
        refine V.tableIn (q := 102) (off := 71) dX1_workOf_31 (by decide +kernel) (by decide +kernel) rfl (by decide) ?_
        refine V.iconst (q := 103) (v := nI 2) dX1_workOf_102 rfl (by decide +kernel) ?_
        refine V.iload_n (q := 104) dX1_workOf_103 rfl rfl ?_
        refine V.imulN (q := 105) dX1_workOf_104 rfl ?_
        exact V.ret_int hB dX1_workOf_105 rfl ⟨_, rfl, ⟨by simp [workM, hz1, hz2, e0], rfl⟩⟩
      · rw [e0]
        refine V.tableIn (q := 106) (off := 75) dX1_workOf_31 (by decide +kernel) (by decide +kernel) rfl (by decide) ?_
        refine V.iload_n (q := 107) dX1_workOf_106 rfl rfl ?_
        refine V.bipush (q := 109) (v := nI 6) dX1_workOf_107 rfl (by decide +kernel) ?_
        refine V.icmpN_lt (t := 116) (q := 112) dX1_workOf_109 (by decide) rfl (by omega) (by omega) (fun c109 => ?_) (fun c109 => ?_)
        · refine V.aload_n (q := 117) dX1_workOf_116 rfl rfl ?_
          refine V.iload_n (q := 118) dX1_workOf_117 rfl rfl ?_
          refine V.cvi1 (q := 121) dX1_workOf_118 rfl kc_X1_93 (shT ht) (loT ht) rfl (hB.rm (by decide)) (Nat.le_of_ble_eq_true rfl) (c_trustOf ht hT hk) (fun r118 τ118 hp118 => ?_)
          obtain ⟨rfl, hz⟩ := hp118
          rw [hz]
          exact V.ret_int hB dX1_workOf_121 rfl ⟨_, rfl, ⟨by simp [workM, hz1, hz2, e0, show ¬ 6 ≤ mt by omega], rfl⟩⟩
        · refine V.iload_n (q := 113) dX1_workOf_112 rfl rfl ?_
          refine V.goto (q := 121) dX1_workOf_113 (by decide) ?_
          exact V.ret_int hB dX1_workOf_121 rfl ⟨_, rfl, ⟨by simp [workM, hz1, hz2, e0, c109], rfl⟩⟩
    · refine V.iconst (q := 17) (v := nI 0) dX1_workOf_16 rfl (by decide +kernel) ?_
      exact V.ret_int hB dX1_workOf_17 rfl ⟨_, rfl, ⟨by simp [workM, (nz_eq (show k < 6 by omega)).mp c13], rfl⟩⟩
end
section
/-! a year, in plain words: and what a write does to a town -/
theorem w2_rd {σ : Sg} {o k o1 k1 : Nat} {x : Int32} : w2 σ o k x o1 k1 = if o1 = o ∧ k1 = k then x else σ o1 k1 := by
  unfold w2 so upd
  by_cases h : o1 = o
  · subst h; by_cases h2 : k1 = k <;> simp [h2]
  · simp [h]
def upN (g : Nat → Nat) (k v : Nat) : Nat → Nat := fun j => if j = k then v else g j
def setF (τ : Nat → Nat → Nat) (f : Nat) (g : Nat → Nat) : Nat → Nat → Nat := fun h => if h = f then g else τ h
theorem setF_at {τ : Nat → Nat → Nat} {f : Nat} {g : Nat → Nat} : setF τ f g f = g := by simp [setF]
theorem setF_ne {τ : Nat → Nat → Nat} {f h : Nat} {g : Nat → Nat} (e : h ≠ f) : setF τ f g h = τ h := by simp [setF, e]
/-- the other cells stay -/
def Fr (t : Nat) (σ σ1 : Sg) : Prop := ∀ o, (o < t ∨ t + 9 ≤ o) → σ1 o = σ o
theorem Fr.rf {t : Nat} {σ : Sg} : Fr t σ σ := fun _ _ => rfl
theorem Fr.w {t o k : Nat} {σ σ1 : Sg} {x : Int32} (h : Fr t σ σ1) (h1 : t ≤ o) (h2 : o < t + 9) : Fr t σ (w2 σ1 o k x) := fun q hq => by
  rw [w2_ne (by omega)]; exact h q hq
theorem Fr.tr {t : Nat} {σ σ1 σ2 : Sg} (h : Fr t σ σ1) (h2 : Fr t σ1 σ2) : Fr t σ σ2 := fun q hq => (h2 q hq).trans (h q hq)
def okF (n f v : Nat) : Prop := (f = 0 → v ≤ 5) ∧ (f = 1 → v ≤ 9) ∧ (f = 2 → v ≤ 3) ∧ (f = 3 → v ≤ 4) ∧ (f = 4 → v ≤ 99) ∧ (f = 5 → v < n) ∧ (f = 6 → v ≤ 60)
section TW
variable {σ : Sg} {t n y z l : Nat} {τ : Nat → Nat → Nat}
theorem WFt.ok (h : WFt n τ) {i : Nat} (hi : i < n) (f : Nat) : okF n f (τ f i) := by
  have h9 := h i hi
  refine ⟨?_, ?_, ?_, ?_, ?_, ?_, ?_⟩ <;> (rintro rfl; omega)
theorem WFt.of (h : ∀ f, f < 7 → ∀ i, i < n → okF n f (τ f i)) : WFt n τ := by
  intro i hi
  exact ⟨(h 0 (by decide) i hi).1 rfl, (h 1 (by decide) i hi).2.1 rfl, (h 2 (by decide) i hi).2.2.1 rfl, (h 3 (by decide) i hi).2.2.2.1 rfl, (h 4 (by decide) i hi).2.2.2.2.1 rfl, (h 5 (by decide) i hi).2.2.2.2.2.1 rfl, (h 6 (by decide) i hi).2.2.2.2.2.2 rfl⟩
theorem TA.cg {υ : Nat → Nat → Nat} (h : TA σ t n y z l τ) (he : ∀ f, f < 7 → ∀ i, i < n → τ f i = υ f i) : TA σ t n y z l υ := by
  refine ⟨h.1, h.2.1, h.2.2.1, h.2.2.2.1, h.2.2.2.2.1, h.2.2.2.2.2.1, fun f hf i hi => ?_, WFt.of fun f hf i hi => ?_⟩
  · rw [← he f hf i hi]; exact h.a f hf hi
  · rw [← he f hf i hi]; exact h.w.ok hi f
theorem TA.fr {σ1 : Sg} (h : TA σ t n y z l τ) (hf : ∀ o, t ≤ o → o < t + 8 → σ1 o = σ o) : TA σ1 t n y z l τ := by
  have e := hf t (by omega) (by omega)
  refine ⟨h.1, h.2.1, by rw [e]; exact h.n8, by rw [e]; exact h.n9, by rw [e]; exact h.n10, by rw [e]; exact h.n11, fun f hf7 i hi => ?_, h.w⟩
  rw [hf (t + (f + 1)) (by omega) (by omega)]
  exact h.a f hf7 hi
/-- one place of one row becomes another -/
theorem TA.wr {f k v : Nat} (h : TA σ t n y z l τ) (hf : f < 7) (hk : k < n) (hv : okF n f v) : TA (w2 σ (t + (f + 1)) k (nI v)) t n y z l (setF τ f (upN (τ f) k v)) := by
  have e : w2 σ (t + (f + 1)) k (nI v) t = σ t := w2_ne (by omega)
  refine ⟨h.1, h.2.1, by rw [e]; exact h.n8, by rw [e]; exact h.n9, by rw [e]; exact h.n10, by rw [e]; exact h.n11, fun g hg i hi => ?_, WFt.of fun g hg i hi => ?_⟩
  · rw [w2_rd]
    by_cases hgf : g = f
    · subst hgf
      rw [setF_at]; unfold upN
      by_cases hik : i = k
      · rw [if_pos ⟨rfl, hik⟩, if_pos hik]
      · rw [if_neg (fun q => hik q.2), if_neg hik]; exact h.a g hg hi
    · rw [if_neg (fun q => hgf (by omega)), setF_ne hgf]; exact h.a g hg hi
  · by_cases hgf : g = f
    · subst hgf
      rw [setF_at]; unfold upN
      by_cases hik : i = k
      · rw [if_pos hik]; exact hv
      · rw [if_neg hik]; exact h.w.ok hi g
    · rw [setF_ne hgf]; exact h.w.ok hi g
/-- a place that no street has -/
theorem TA.wo {o k : Nat} {x : Int32} (h : TA σ t n y z l τ) (ho : (t ≤ o ∧ o < t + 8) → (t < o ∧ n ≤ k)) : TA (w2 σ o k x) t n y z l τ := by
  have e : ∀ j, w2 σ o k x t j = σ t j := fun j => by
    rw [w2_rd, if_neg (fun q => by have := ho ⟨by omega, by omega⟩; omega)]
  refine ⟨h.1, h.2.1, by rw [e]; exact h.n8, by rw [e]; exact h.n9, by rw [e]; exact h.n10, by rw [e]; exact h.n11, fun g hg i hi => ?_, h.w⟩
  rw [w2_rd, if_neg (fun q => by have := ho ⟨by omega, by omega⟩; omega)]
  exact h.a g hg hi
theorem TA.wy {y2 : Nat} (h : TA σ t n y z l τ) (hy : y2 < 2 ^ 30) : TA (w2 σ t 9 (nI y2)) t n y2 z l τ := by
  refine ⟨h.1, hy, ?_, ?_, ?_, ?_, fun g hg i hi => ?_, h.w⟩
  · rw [w2_nk (by decide)]; exact h.n8
  · rw [w2_at]
  · rw [w2_nk (by decide)]; exact h.n10
  · rw [w2_nk (by decide)]; exact h.n11
  · rw [w2_ne (by omega)]; exact h.a g hg hi
theorem TA.wz {z2 : Nat} (h : TA σ t n y z l τ) : TA (w2 σ t 10 (nz z2)) t n y z2 l τ := by
  refine ⟨h.1, h.2.1, ?_, ?_, ?_, ?_, fun g hg i hi => ?_, h.w⟩
  · rw [w2_nk (by decide)]; exact h.n8
  · rw [w2_nk (by decide)]; exact h.n9
  · rw [w2_at]
  · rw [w2_nk (by decide)]; exact h.n11
  · rw [w2_ne (by omega)]; exact h.a g hg hi
theorem TA.wl {l2 : Nat} (h : TA σ t n y z l τ) : TA (w2 σ t 11 (nz l2)) t n y z l2 τ := by
  refine ⟨h.1, h.2.1, ?_, ?_, ?_, ?_, fun g hg i hi => ?_, h.w⟩
  · rw [w2_nk (by decide)]; exact h.n8
  · rw [w2_nk (by decide)]; exact h.n9
  · rw [w2_nk (by decide)]; exact h.n10
  · rw [w2_at]
  · rw [w2_ne (by omega)]; exact h.a g hg hi
end TW
theorem nz_in {k : Nat} (h : k < 6) : nz k = nI k := by unfold nz; rw [if_pos h]
/-! bits of at most six -/
def bsK (p : Nat → Bool) : Nat → Nat
  | 0 => 0
  | j + 1 => if p j = true then bsK p j + 2 ^ j else bsK p j
theorem bsK_lt (p : Nat → Bool) : ∀ j, bsK p j < 2 ^ j
  | 0 => by simp [bsK]
  | j + 1 => by
    have := bsK_lt p j
    unfold bsK; rw [Nat.pow_succ]; split <;> omega
theorem bsK_bit {p : Nat → Bool} {i : Nat} : ∀ {n : Nat}, i < n → bsK p n / 2 ^ i % 2 = if p i = true then 1 else 0
  | 0, h => absurd h (by omega)
  | n + 1, h => by
    have hlt := bsK_lt p n
    rcases Nat.lt_or_ge i n with h1 | h1
    · have ih := bsK_bit (p := p) h1
      unfold bsK
      by_cases hp : p n = true
      · rw [if_pos hp]
        obtain ⟨d, rfl⟩ : ∃ d, n = i + 1 + d := ⟨n - i - 1, by omega⟩
        have e : bsK p (i + 1 + d) + 2 ^ (i + 1 + d) = bsK p (i + 1 + d) + 2 ^ i * (2 * 2 ^ d) := by
          rw [show 2 ^ i * (2 * 2 ^ d) = 2 ^ (i + 1 + d) by rw [← Nat.pow_succ', ← Nat.pow_add]; congr 1; omega]
        rw [e, Nat.add_mul_div_left _ _ (Nat.two_pow_pos i), Nat.add_mul_mod_self_left]
        exact ih
      · rw [if_neg hp]; exact ih
    · have : i = n := by omega
      subst this
      unfold bsK
      by_cases hp : p i = true
      · rw [if_pos hp, if_pos hp]
        have e : bsK p i + 2 ^ i = bsK p i + 2 ^ i * 1 := by omega
        rw [e, Nat.add_mul_div_left _ _ (Nat.two_pow_pos i), Nat.div_eq_of_lt hlt]
      · rw [if_neg hp, if_neg hp, Nat.div_eq_of_lt hlt]
theorem bsK_cg {p q : Nat → Bool} : ∀ {n : Nat}, (∀ i, i < n → p i = q i) → bsK p n = bsK q n
  | 0, _ => rfl
  | n + 1, h => by
    unfold bsK
    rw [bsK_cg (n := n) (fun i hi => h i (by omega)), h n (by omega)]
theorem shl1 {i : Nat} (h : i < 6) : nI 1 <<< (nI i &&& 31) = nI (2 ^ i) := by
  have : i = 0 ∨ i = 1 ∨ i = 2 ∨ i = 3 ∨ i = 4 ∨ i = 5 := by omega
  rcases this with rfl | rfl | rfl | rfl | rfl | rfl <;> decide +kernel
theorem ior_all : ∀ j, j < 6 → ∀ a, a < 2 ^ j → nI a ||| nI (2 ^ j) = nI (a + 2 ^ j) := by decide +kernel
theorem shr_all : ∀ i, i < 6 → ∀ a, a < 64 → (nI a >>> (nI i &&& 31)) &&& nI 1 = nI (a / 2 ^ i % 2) := by decide +kernel
theorem ior0_all : ∀ a, a < 64 → nI a ||| nI 0 = nI a := by decide +kernel
/-- payments -/
def fstM (me : Nat → Nat) (l k : Nat) : Nat → Option Nat
  | 0 => none
  | j + 1 => match fstM me l k j with
    | some o => some o
    | none => if me j = k ∧ j ≠ l then some j else none
theorem fstM_up {me : Nat → Nat} {l k o a : Nat} (h : fstM me l k a = some o) : ∀ {b : Nat}, a ≤ b → fstM me l k b = some o
  | 0, hb => by have : a = 0 := by omega
                subst this; exact h
  | b + 1, hb => by
    rcases Nat.lt_or_ge b a with h1 | h1
    · have : a = b + 1 := by omega
      subst this; exact h
    · unfold fstM; rw [fstM_up h h1]
theorem fstM_lt {me : Nat → Nat} {l k o : Nat} : ∀ {a : Nat}, fstM me l k a = some o → o < a
  | 0, h => by cases h
  | a + 1, h => by
    unfold fstM at h
    cases h1 : fstM me l k a with
    | some q =>
      rw [h1] at h
      have h2 : q = o := by simpa using h
      subst h2
      have := fstM_lt h1
      omega
    | none =>
      rw [h1] at h
      by_cases hc : me a = k ∧ a ≠ l
      · simp [hc] at h; omega
      · simp [hc] at h
def pay1 (p : Nat → Nat) (k o : Nat) : Nat → Nat := upN (upN p k (p k - 1)) o (min 99 (upN p k (p k - 1) o + 1))
def payOne (n l : Nat) (me p : Nat → Nat) (k : Nat) : Nat → Nat := match fstM me l k n with
  | none => p
  | some o => pay1 p k o
def payK (P : Nat → Bool) (n l : Nat) (me p : Nat → Nat) : Nat → Nat → Nat
  | 0 => p
  | j + 1 => if P j = true then payOne n l me (payK P n l me p j) j else payK P n l me p j
theorem payOne_le {n l : Nat} {me p : Nat → Nat} {k : Nat} (h : ∀ i, i < n → p i ≤ 99) : ∀ i, i < n → payOne n l me p k i ≤ 99 := by
  intro i hi
  have h1 := h i hi
  unfold payOne
  cases fstM me l k n with
  | none => exact h1
  | some o =>
    show pay1 p k o i ≤ 99
    unfold pay1 upN
    by_cases e : i = o
    · rw [if_pos e]; omega
    · rw [if_neg e]
      by_cases e2 : i = k
      · subst e2; rw [if_pos rfl]; omega
      · rw [if_neg e2]; exact h1
theorem payOne_ge {n l : Nat} {me p : Nat → Nat} {k : Nat} (h : ∀ i, i < n → p i ≤ 99) : ∀ i, i < n → i ≠ k → p i ≤ payOne n l me p k i := by
  intro i hi hk
  have h1 := h i hi
  unfold payOne
  cases fstM me l k n with
  | none => exact Nat.le_refl _
  | some o =>
    show p i ≤ pay1 p k o i
    unfold pay1 upN
    by_cases e : i = o
    · subst e; rw [if_pos rfl, if_neg hk]; omega
    · rw [if_neg e, if_neg hk]; omega
theorem payK_le {P : Nat → Bool} {n l : Nat} {me p : Nat → Nat} (h : ∀ i, i < n → p i ≤ 99) : ∀ j i, i < n → payK P n l me p j i ≤ 99
  | 0, i, hi => h i hi
  | j + 1, i, hi => by
    unfold payK; split
    · exact payOne_le (payK_le h j) i hi
    · exact payK_le h j i hi
theorem payK_ge {P : Nat → Bool} {n l : Nat} {me p : Nat → Nat} (h : ∀ i, i < n → p i ≤ 99) : ∀ j i, i < n → j ≤ i → p i ≤ payK P n l me p j i
  | 0, i, hi, _ => Nat.le_refl _
  | j + 1, i, hi, hj => by
    have ih := payK_ge (P := P) (l := l) (me := me) h j i hi (by omega)
    unfold payK; split
    · exact Nat.le_trans ih (payOne_ge (payK_le h j) i hi (by omega))
    · exact ih
/-- the work of a year -/
def m1 (τ : Nat → Nat → Nat) (i : Nat) : Nat := min 9 (τ 1 i + τ 2 i)
def wkM (y z l : Nat) (τ : Nat → Nat → Nat) (j : Nat) : Nat := workM y z l τ j (m1 τ (τ 5 j))
def accW (me w : Nat → Nat) : Nat → Nat → Nat
  | 0, _ => 0
  | j + 1, i => if me j = i then accW me w j i + w j else accW me w j i
theorem accW_le {me w : Nat → Nat} {n : Nat} (h : ∀ i, i < n → w i ≤ 8) : ∀ j i, j ≤ n → accW me w j i ≤ 8 * j
  | 0, i, _ => Nat.le_refl 0
  | j + 1, i, hj => by
    have h1 := accW_le (me := me) h j i (by omega)
    have h2 := h j (by omega)
    unfold accW; split <;> omega
def pyr (l : Nat) (τ : Nat → Nat → Nat) (j : Nat) : Bool := decide (τ 0 j = 3 ∧ 0 < τ 4 j ∧ j ≠ l)
def yrM (n y z l : Nat) (τ : Nat → Nat → Nat) : Nat → Nat → Nat := fun f i =>
  if f = 1 then m1 τ i - accW (τ 5) (wkM y z l τ) n i
  else if f = 4 then payK (pyr l τ) n l (τ 5) (τ 4) n i
  else if f = 6 then accW (τ 5) (wkM y z l τ) n i
  else τ f i
def yrsM (n y z l : Nat) (τ : Nat → Nat → Nat) : Nat → Nat → Nat → Nat
  | 0 => τ
  | k + 1 => yrM n (y + k) z l (yrsM n y z l τ k)
theorem wkM_le {y z l n : Nat} {τ : Nat → Nat → Nat} {i : Nat} (h : WFt n τ) (hi : i < n) : wkM y z l τ i ≤ 8 := workM_le h hi
theorem yrM_wf {y z l n : Nat} {τ : Nat → Nat → Nat} (hn : n ≤ 6) (h : WFt n τ) : WFt n (yrM n y z l τ) := by
  intro i hi
  obtain ⟨h0, h1, h2, h3, h4, h5, h6⟩ := h i hi
  have ha := accW_le (me := τ 5) (w := wkM y z l τ) (n := n) (fun j hj => wkM_le h hj) n i (Nat.le_refl n)
  have hp := payK_le (P := pyr l τ) (l := l) (me := τ 5) (p := τ 4) (n := n) (fun j hj => (h j hj).2.2.2.2.1) n i hi
  refine ⟨h0, ?_, h2, h3, hp, h5, ?_⟩
  · show m1 τ i - _ ≤ 9
    unfold m1; omega
  · show accW _ _ n i ≤ 60
    omega
theorem max0 {a b : Nat} (ha : a < 2 ^ 29) (hb : b < 2 ^ 29) : (if nI 0 < nI a - nI b then nI a - nI b else nI 0) = nI (a - b) := by
  rcases Nat.lt_or_ge b a with h | h
  · rw [pk_sub (by omega), if_pos (nI_lt (by omega) (by omega))]
  · have e : a - b = 0 := by omega
    rw [e]
    rcases Nat.lt_or_ge a b with h2 | h2
    · rw [if_neg]
      intro h3
      have h4 := pk_sneg (a := a) (b := b) (by omega) h2
      rw [nI_0] at h3
      have h5 := Int32.lt_iff_toInt_lt.mp h3
      have h6 := Int32.lt_iff_toInt_lt.mp h4
      omega
    · have : a = b := by omega
      subst this
      rw [pk_sub (Nat.le_refl a), Nat.sub_self]
      simp
end
section
-- pay(k)
set_option maxHeartbeats 4000000 in
set_option maxRecDepth 100000 in
theorem c_pay {σ : Sg} {t n y z l : Nat} {τ : Nat → Nat → Nat} (ht : isT t) (hT : TA σ t n y z l τ) {k : Nat} (hk : k < n) (hp : 1 ≤ τ 4 k) : Con 1 yX1_pay cX1_pay 3 none [.ref t, .int (nI k)] σ (PV (fun σ1 => TA σ1 t n y z l (setF τ 4 (payOne n l (τ 5) (τ 4) k)) ∧ Fr t σ σ1)) := by
  refine Con.of (by decide) (by simp [Value.category]) (Nat.le_of_ble_eq_true rfl) (fun x hB => ?_)
  show V x RX1 cX1_pay 3 0 [some (.ref t), some (.int (nI k)), none] [] _
  have hn6 := hT.n6
  have hyb := hT.yb
  refine V.iconst (q := 1) (v := nI 0) dX1_pay_0 rfl (by decide +kernel) ?_
  refine V.ist2 (q := 2) dX1_pay_1 rfl ?_
  have loop : ∀ j, j ≤ n → fstM (τ 5) l k j = none → V x RX1 cX1_pay 3 2 [some (.ref t), some (.int (nI k)), some (.int (nI j))] [] σ := by
    refine down n (fun j hj ih hno => ?_)
    refine V.iload_n (q := 3) dX1_pay_2 rfl rfl ?_
    refine V.aload_n (q := 4) dX1_pay_3 rfl rfl ?_
    refine V.getI (q := 7) dX1_pay_4 rfl kf_X1_49 (shT ht) (loT ht) rfl (TA.n8 hT) ?_
    refine V.icmpN_ge (t := 64) (q := 10) dX1_pay_7 (by decide) rfl (by omega) (by omega) (fun c7 => ?_) (fun c7 => ?_)
    · have ej : j = n := by omega
      subst ej
      exact V.ret_v hB dX1_pay_64 ⟨rfl, ⟨hT.cg (fun f hf i hi => by
      by_cases h4 : f = 4
      · subst h4
        show τ 4 i = payOne _ l (τ 5) (τ 4) k i
        unfold payOne; rw [hno]
      · rw [setF_ne h4]), Fr.rf⟩⟩
    · have hw := hT.w j c7
      have hw2 := hT.w k hk
      refine V.aload_n (q := 11) dX1_pay_10 rfl rfl ?_
      refine V.getR (q := 14) dX1_pay_11 rfl kf_X1_27 (shT ht) (loT ht) rfl ?_
      refine V.iload_n (q := 15) dX1_pay_14 rfl rfl ?_
      refine V.ialdN (q := 16) dX1_pay_15 rfl (shTa ht 6 (by decide) (by decide)) (loTa ht 6 (by decide)) (by omega) (by decide) (TA.a hT 5 (by decide) (by omega)) ?_
      refine V.iload_n (q := 17) dX1_pay_16 rfl rfl ?_
      refine V.icmpN_ne (t := 58) (q := 20) dX1_pay_17 (by decide) rfl (by omega) (by omega) (fun c17 => ?_) (fun c17 => ?_)
      · refine V.inc2 (q := 61) dX1_pay_58 rfl (inc1 _) ?_
        refine V.goto (q := 2) dX1_pay_61 (by decide) ?_
        exact ih c7 (by unfold fstM; rw [hno]; simp [c17])
      · refine V.iload_n (q := 21) dX1_pay_20 rfl rfl ?_
        refine V.aload_n (q := 22) dX1_pay_21 rfl rfl ?_
        refine V.getI (q := 25) dX1_pay_22 rfl kf_X1_40 (shT ht) (loT ht) rfl (TA.n11 hT) ?_
        refine V.icmp_eq (t := 58) (q := 28) dX1_pay_25 (by decide) rfl  (fun c25 => ?_) (fun c25 => ?_)
        · refine V.inc2 (q := 61) dX1_pay_58 rfl (inc1 _) ?_
          refine V.goto (q := 2) dX1_pay_61 (by decide) ?_
          exact ih c7 (by unfold fstM; rw [hno]; simp [(nz_eq (show j < 6 by omega)).mp c25])
        · have hjl : j ≠ l := fun e9 => c25 ((nz_eq (by omega)).mpr e9)
          have hf1 : fstM (τ 5) l k (j + 1) = some j := by unfold fstM; rw [hno]; simp [c17, hjl]
          have hf2 := fstM_up hf1 (show j + 1 ≤ n by omega)
          refine V.aload_n (q := 29) dX1_pay_28 rfl rfl ?_
          refine V.getR (q := 32) dX1_pay_29 rfl kf_X1_24 (shT ht) (loT ht) rfl ?_
          refine V.iload_n (q := 33) dX1_pay_32 rfl rfl ?_
          refine V.dup2 (q := 34) dX1_pay_33 rfl rfl rfl ?_
          refine V.ialdN (q := 35) dX1_pay_34 rfl (shTa ht 5 (by decide) (by decide)) (loTa ht 5 (by decide)) (by omega) (by decide) (TA.a hT 4 (by decide) (by omega)) ?_
          refine V.iconst (q := 36) (v := nI 1) dX1_pay_35 rfl (by decide +kernel) ?_
          refine V.isubN (q := 37) dX1_pay_36 rfl (by omega) ?_
          refine V.iastN (q := 38) dX1_pay_37 rfl (shTa ht 5 (by decide) (by decide)) (loTa ht 5 (by decide)) (by omega) (by decide) ?_
          have hT1 := hT.wr (f := 4) (v := τ 4 k - 1) (by decide) hk (by unfold okF; omega)
          have e41 : ∀ i, setF τ 4 (upN (τ 4) k (τ 4 k - 1)) 4 i = upN (τ 4) k (τ 4 k - 1) i := fun i => rfl
          refine V.aload_n (q := 39) dX1_pay_38 rfl rfl ?_
          refine V.getR (q := 42) dX1_pay_39 rfl kf_X1_24 (shT ht) (loT ht) rfl ?_
          refine V.iload_n (q := 43) dX1_pay_42 rfl rfl ?_
          refine V.bipush (q := 45) (v := nI 99) dX1_pay_43 rfl (by decide +kernel) ?_
          refine V.aload_n (q := 46) dX1_pay_45 rfl rfl ?_
          refine V.getR (q := 49) dX1_pay_46 rfl kf_X1_24 (shT ht) (loT ht) rfl ?_
          refine V.iload_n (q := 50) dX1_pay_49 rfl rfl ?_
          refine V.ialdN (q := 51) dX1_pay_50 rfl (shTa ht 5 (by decide) (by decide)) (loTa ht 5 (by decide)) (by omega) (by decide) (TA.a hT1 4 (by decide) (by omega)) ?_
          refine V.iconst (q := 52) (v := nI 1) dX1_pay_51 rfl (by decide +kernel) ?_
          refine V.iaddN (q := 53) dX1_pay_52 rfl ?_
          refine V.min (q := 56) dX1_pay_53 rfl kc_X1_78 (hB.rm (by decide)) (Nat.le_of_ble_eq_true rfl) (minN (by omega) (by have := (hT1.w j c7).2.2.2.2.1; omega)) ?_
          refine V.iastN (q := 57) dX1_pay_56 rfl (shTa ht 5 (by decide) (by decide)) (loTa ht 5 (by decide)) (by omega) (by decide) ?_
          have hT2 := hT1.wr (f := 4) (v := min 99 (setF τ 4 (upN (τ 4) k (τ 4 k - 1)) 4 j + 1)) (by decide) c7 (by unfold okF; omega)
          exact V.ret_v hB dX1_pay_57 ⟨rfl, ⟨hT2.cg (fun f hf i hi => by
      by_cases h4 : f = 4
      · subst h4
        show upN (upN (τ 4) k (τ 4 k - 1)) j (min 99 (upN (τ 4) k (τ 4 k - 1) j + 1)) i = payOne n l (τ 5) (τ 4) k i
        unfold payOne; rw [hf2]; rfl
      · rw [setF_ne h4, setF_ne h4, setF_ne h4]), (Fr.rf.w (by omega) (by omega)).w (by omega) (by omega)⟩⟩
  exact loop 0 (Nat.zero_le _) rfl

-- payAll()
set_option maxHeartbeats 4000000 in
set_option maxRecDepth 100000 in
theorem c_payAll {σ : Sg} {t n y z l : Nat} {τ : Nat → Nat → Nat} (ht : isT t) (hT : TA σ t n y z l τ) : Con 2 yX1_payAll cX1_payAll 3 none [.ref t] σ (PV (fun σ1 => TA σ1 t n y z l (setF τ 4 (payK (pyr l τ) n l (τ 5) (τ 4) n)) ∧ Fr t σ σ1)) := by
  refine Con.of (by decide) (by simp [Value.category]) (Nat.le_of_ble_eq_true rfl) (fun x hB => ?_)
  show V x RX1 cX1_payAll 3 0 [some (.ref t), none, none] [] _
  have hn6 := hT.n6
  have hyb := hT.yb
  refine V.iconst (q := 1) (v := nI 0) dX1_payAll_0 rfl (by decide +kernel) ?_
  refine V.ist1 (q := 2) dX1_payAll_1 rfl ?_
  refine V.iconst (q := 3) (v := nI 0) dX1_payAll_2 rfl (by decide +kernel) ?_
  refine V.ist2 (q := 4) dX1_payAll_3 rfl ?_
  have loop : ∀ j, j ≤ n → ∀ a, a = bsK (pyr l τ) j → V x RX1 cX1_payAll 3 4 [some (.ref t), some (.int (nI a)), some (.int (nI j))] [] σ := by
    refine down n (fun j hj ih a ea => ?_)
    have ha := bsK_lt (pyr l τ) j
    rw [← ea] at ha
    have ha6 : 2 ^ j ≤ 2 ^ 6 := Nat.pow_le_pow_right (by decide) (by omega)
    refine V.iload_n (q := 5) dX1_payAll_4 rfl rfl ?_
    refine V.aload_n (q := 6) dX1_payAll_5 rfl rfl ?_
    refine V.getI (q := 9) dX1_payAll_6 rfl kf_X1_49 (shT ht) (loT ht) rfl (TA.n8 hT) ?_
    refine V.icmpN_ge (t := 51) (q := 12) dX1_payAll_9 (by decide) rfl (by omega) (by omega) (fun c9 => ?_) (fun c9 => ?_)
    · have ej : j = n := by omega
      subst ej
      refine V.iconst (q := 52) (v := nI 0) dX1_payAll_51 rfl (by decide +kernel) ?_
      refine V.ist2 (q := 53) dX1_payAll_52 rfl ?_
      have loop2 : ∀ i, i ≤ j → ∀ σ1, TA σ1 t j y z l (setF τ 4 (payK (pyr l τ) j l (τ 5) (τ 4) i)) → Fr t σ σ1 → V x RX1 cX1_payAll 3 53 [some (.ref t), some (.int (nI a)), some (.int (nI i))] [] σ1 := by
        refine down j (fun i hi ih2 σ1 hT1 hF1 => ?_)
        refine V.iload_n (q := 54) dX1_payAll_53 rfl rfl ?_
        refine V.aload_n (q := 55) dX1_payAll_54 rfl rfl ?_
        refine V.getI (q := 58) dX1_payAll_55 rfl kf_X1_49 (shT ht) (loT ht) rfl (TA.n8 hT1) ?_
        refine V.icmpN_ge (t := 81) (q := 61) dX1_payAll_58 (by decide) rfl (by omega) (by omega) (fun c58 => ?_) (fun c58 => ?_)
        · have ei : i = j := by omega
          subst ei
          exact V.ret_v hB dX1_payAll_81 ⟨rfl, ⟨hT1, hF1⟩⟩
        · refine V.iload_n (q := 62) dX1_payAll_61 rfl rfl ?_
          refine V.iload_n (q := 63) dX1_payAll_62 rfl rfl ?_
          refine V.ishr (q := 64) dX1_payAll_63 rfl ?_
          refine V.iconst (q := 65) (v := nI 1) dX1_payAll_64 rfl (by decide +kernel) ?_
          refine V.iand (q := 66) dX1_payAll_65 rfl ?_
          have hb9 : (nI a >>> (nI i &&& 31)) &&& nI 1 = nI (if pyr l τ i = true then 1 else 0) := by rw [shr_all i (by omega) a (by omega), ea, bsK_bit c58]
          rw [hb9]
          refine V.iconst (q := 67) (v := nI 1) dX1_payAll_66 rfl (by decide +kernel) ?_
          by_cases hpy : pyr l τ i = true
          · rw [if_pos hpy]
            refine V.icmpN_ne (t := 75) (q := 70) dX1_payAll_67 (by decide) rfl (by omega) (by omega) (fun c67 => absurd c67 (by decide +kernel)) (fun c67 => ?_)
            have hge := payK_ge (P := pyr l τ) (l := l) (me := τ 5) (p := τ 4) (n := j) (fun q hq => (hT.w q hq).2.2.2.2.1) i i c58 (Nat.le_refl i)
            have h0 : 0 < τ 4 i := by unfold pyr at hpy; simp at hpy; omega
            have hpp : 1 ≤ setF τ 4 (payK (pyr l τ) j l (τ 5) (τ 4) i) 4 i := by
              show 1 ≤ payK (pyr l τ) j l (τ 5) (τ 4) i i
              omega
            refine V.aload_n (q := 71) dX1_payAll_70 rfl rfl ?_
            refine V.iload_n (q := 72) dX1_payAll_71 rfl rfl ?_
            refine V.cvv1 (q := 75) dX1_payAll_72 rfl kc_X1_96 (shT ht) (loT ht) rfl (hB.rm (by decide)) (Nat.le_of_ble_eq_true rfl) (c_pay ht hT1 (k := i) c58 hpp) (fun τ72 hp72 => ?_)
            obtain ⟨hT2, hF2⟩ := hp72
            refine V.inc2 (q := 78) dX1_payAll_75 rfl (inc1 _) ?_
            refine V.goto (q := 53) dX1_payAll_78 (by decide) ?_
            exact ih2 c58 _ (hT2.cg (fun f hf q hq => by
              by_cases h4 : f = 4
              · subst h4
                show payOne j l (setF τ 4 (payK (pyr l τ) j l (τ 5) (τ 4) i) 5) (payK (pyr l τ) j l (τ 5) (τ 4) i) i q = payK (pyr l τ) j l (τ 5) (τ 4) (i + 1) q
                rw [setF_ne (by decide)]
                conv => rhs; unfold payK
                rw [if_pos hpy]
              · rw [setF_ne h4, setF_ne h4, setF_ne h4])) (hF1.tr hF2)
          · rw [if_neg hpy]
            refine V.icmpN_ne (t := 75) (q := 70) dX1_payAll_67 (by decide) rfl (by omega) (by omega) (fun c67 => ?_) (fun c67 => absurd c67 (by decide +kernel))
            refine V.inc2 (q := 78) dX1_payAll_75 rfl (inc1 _) ?_
            refine V.goto (q := 53) dX1_payAll_78 (by decide) ?_
            exact ih2 c58 _ (hT1.cg (fun f hf q hq => by
              by_cases h4 : f = 4
              · subst h4
                show payK (pyr l τ) j l (τ 5) (τ 4) i q = payK (pyr l τ) j l (τ 5) (τ 4) (i + 1) q
                conv => rhs; unfold payK
                rw [if_neg hpy]
              · rw [setF_ne h4, setF_ne h4])) hF1
      exact loop2 0 (Nat.zero_le _) σ (hT.cg (fun f hf i hi => by
        by_cases h4 : f = 4
        · subst h4; rfl
        · rw [setF_ne h4])) Fr.rf
    · have hw := hT.w j c9
      refine V.aload_n (q := 13) dX1_payAll_12 rfl rfl ?_
      refine V.getR (q := 16) dX1_payAll_13 rfl kf_X1_9 (shT ht) (loT ht) rfl ?_
      refine V.iload_n (q := 17) dX1_payAll_16 rfl rfl ?_
      refine V.ialdN (q := 18) dX1_payAll_17 rfl (shTa ht 1 (by decide) (by decide)) (loTa ht 1 (by decide)) (by omega) (by decide) (TA.a hT 0 (by decide) (by omega)) ?_
      refine V.iconst (q := 19) (v := nI 3) dX1_payAll_18 rfl (by decide +kernel) ?_
      refine V.icmpN_ne (t := 45) (q := 22) dX1_payAll_19 (by decide) rfl (by omega) (by omega) (fun c19 => ?_) (fun c19 => ?_)
      · refine V.inc2 (q := 48) dX1_payAll_45 rfl (inc1 _) ?_
        refine V.goto (q := 4) dX1_payAll_48 (by decide) ?_
        exact ih c9 _ (by unfold bsK; rw [if_neg (by unfold pyr; simp [c19])]; exact ea)
      · refine V.aload_n (q := 23) dX1_payAll_22 rfl rfl ?_
        refine V.getR (q := 26) dX1_payAll_23 rfl kf_X1_24 (shT ht) (loT ht) rfl ?_
        refine V.iload_n (q := 27) dX1_payAll_26 rfl rfl ?_
        refine V.ialdN (q := 28) dX1_payAll_27 rfl (shTa ht 5 (by decide) (by decide)) (loTa ht 5 (by decide)) (by omega) (by decide) (TA.a hT 4 (by decide) (by omega)) ?_
        refine V.ifN_le (t := 45) (q := 31) dX1_payAll_28 (by decide) rfl (by omega) (fun c28 => ?_) (fun c28 => ?_)
        · refine V.inc2 (q := 48) dX1_payAll_45 rfl (inc1 _) ?_
          refine V.goto (q := 4) dX1_payAll_48 (by decide) ?_
          exact ih c9 _ (by unfold bsK; rw [if_neg (by unfold pyr; simp; omega)]; exact ea)
        · refine V.iload_n (q := 32) dX1_payAll_31 rfl rfl ?_
          refine V.aload_n (q := 33) dX1_payAll_32 rfl rfl ?_
          refine V.getI (q := 36) dX1_payAll_33 rfl kf_X1_40 (shT ht) (loT ht) rfl (TA.n11 hT) ?_
          refine V.icmp_eq (t := 45) (q := 39) dX1_payAll_36 (by decide) rfl  (fun c36 => ?_) (fun c36 => ?_)
          · refine V.inc2 (q := 48) dX1_payAll_45 rfl (inc1 _) ?_
            refine V.goto (q := 4) dX1_payAll_48 (by decide) ?_
            exact ih c9 _ (by unfold bsK; rw [if_neg (by unfold pyr; simp [(nz_eq (show j < 6 by omega)).mp c36])]; exact ea)
          · have hjl : j ≠ l := fun e9 => c36 ((nz_eq (by omega)).mpr e9)
            have hpy : pyr l τ j = true := by unfold pyr; simp [c19, hjl]; omega
            refine V.iload_n (q := 40) dX1_payAll_39 rfl rfl ?_
            refine V.iconst (q := 41) (v := nI 1) dX1_payAll_40 rfl (by decide +kernel) ?_
            refine V.iload_n (q := 42) dX1_payAll_41 rfl rfl ?_
            refine V.ishl (q := 43) dX1_payAll_42 rfl ?_
            rw [shl1 (show j < 6 by omega)]
            refine V.ior (q := 44) dX1_payAll_43 rfl ?_
            rw [ior_all j (by omega) a ha]
            refine V.ist1 (q := 45) dX1_payAll_44 rfl ?_
            refine V.inc2 (q := 48) dX1_payAll_45 rfl (inc1 _) ?_
            refine V.goto (q := 4) dX1_payAll_48 (by decide) ?_
            exact ih c9 _ (by unfold bsK; rw [if_pos hpy, ea])
  exact loop 0 (Nat.zero_le _) 0 rfl
end
section
theorem cg_yr {n y z l : Nat} {τ τ3 : Nat → Nat → Nat} (h1 : ∀ i, i < n → τ3 1 i = m1 τ i - accW (τ 5) (wkM y z l τ) n i) (h6 : ∀ i, i < n → τ3 6 i = accW (τ 5) (wkM y z l τ) n i) (h : ∀ f, f ≠ 1 → f ≠ 6 → τ3 f = τ f) :
    ∀ f, f < 7 → ∀ i, i < n → setF τ3 4 (payK (pyr l τ3) n l (τ3 5) (τ3 4) n) f i = yrM n y z l τ f i := by
  have e0 := h 0 (by decide) (by decide)
  have e4 := h 4 (by decide) (by decide)
  have e5 := h 5 (by decide) (by decide)
  have ep : pyr l τ3 = pyr l τ := by funext j; unfold pyr; rw [e0, e4]
  intro f hf i hi
  by_cases f4 : f = 4
  · subst f4
    rw [setF_at, ep, e4, e5]; rfl
  · rw [setF_ne f4]
    by_cases f1 : f = 1
    · subst f1; rw [h1 i hi]; rfl
    · by_cases f6 : f = 6
      · subst f6; rw [h6 i hi]; rfl
      · rw [h f f1 f6]; unfold yrM; rw [if_neg f1, if_neg f4, if_neg f6]
-- passYear()
set_option maxHeartbeats 4000000 in
set_option maxRecDepth 100000 in
theorem c_passYear {σ : Sg} {t n y z l : Nat} {τ : Nat → Nat → Nat} (ht : isT t) (hT : TA σ t n y z l τ) (hy : y + 1 < 2 ^ 30) : Con 3 yX1_passYear cX1_passYear 3 none [.ref t] σ (PV (fun σ1 => TA σ1 t n (y + 1) z l (yrM n y z l τ) ∧ Fr t σ σ1)) := by
  refine Con.of (by decide) (by simp [Value.category]) (Nat.le_of_ble_eq_true rfl) (fun x hB => ?_)
  show V x RX1 cX1_passYear 3 0 [some (.ref t), none, none] [] _
  have hn6 := hT.n6
  have hyb := hT.yb
  refine V.iconst (q := 1) (v := nI 0) dX1_passYear_0 rfl (by decide +kernel) ?_
  refine V.ist1 (q := 2) dX1_passYear_1 rfl ?_
  have loop : ∀ j, j ≤ n → ∀ σ1 τ1, TA σ1 t n y z l τ1 → Fr t σ σ1 → (∀ i, i < n → τ1 1 i = if i < j then m1 τ i else τ 1 i) → (∀ f, f ≠ 1 → τ1 f = τ f) → (∀ i, i < j → σ1 (t + 8) i = nI 0) → V x RX1 cX1_passYear 3 2 [some (.ref t), some (.int (nI j)), none] [] σ1 := by
    refine down n (fun j hj ih σ1 τ1 hT1 hF1 e1 ef e8 => ?_)
    refine V.iload_n (q := 3) dX1_passYear_2 rfl rfl ?_
    refine V.aload_n (q := 4) dX1_passYear_3 rfl rfl ?_
    refine V.getI (q := 7) dX1_passYear_4 rfl kf_X1_49 (shT ht) (loT ht) rfl (TA.n8 hT1) ?_
    refine V.icmpN_ge (t := 47) (q := 10) dX1_passYear_7 (by decide) rfl (by omega) (by omega) (fun c7 => ?_) (fun c7 => ?_)
    · have ej : j = n := by omega
      subst ej
      refine V.iconst (q := 48) (v := nI 0) dX1_passYear_47 rfl (by decide +kernel) ?_
      refine V.ist1 (q := 49) dX1_passYear_48 rfl ?_
      have e1 : ∀ i, i < j → τ1 1 i = m1 τ i := fun i hi => by rw [e1 i hi, if_pos hi]
      have loop2 : ∀ i, i ≤ j → ∀ σ2, TA σ2 t j y z l τ1 → Fr t σ σ2 → (∀ q, q < j → σ2 (t + 8) q = nI (accW (τ 5) (wkM y z l τ) i q)) → ∀ o2, V x RX1 cX1_passYear 3 49 [some (.ref t), some (.int (nI i)), o2] [] σ2 := by
        refine down j (fun i hi ih2 σ2 hT2 hF2 e82 o2 => ?_)
        refine V.iload_n (q := 50) dX1_passYear_49 rfl rfl ?_
        refine V.aload_n (q := 51) dX1_passYear_50 rfl rfl ?_
        refine V.getI (q := 54) dX1_passYear_51 rfl kf_X1_49 (shT ht) (loT ht) rfl (TA.n8 hT2) ?_
        refine V.icmpN_ge (t := 98) (q := 57) dX1_passYear_54 (by decide) rfl (by omega) (by omega) (fun c54 => ?_) (fun c54 => ?_)
        · have ei : i = j := by omega
          subst ei
          refine V.iconst (q := 99) (v := nI 0) dX1_passYear_98 rfl (by decide +kernel) ?_
          refine V.ist1 (q := 100) dX1_passYear_99 rfl ?_
          have hacc : ∀ q, accW (τ 5) (wkM y z l τ) i q ≤ 48 := fun q => by
            have := accW_le (me := τ 5) (w := wkM y z l τ) (n := i) (fun q hq => wkM_le hT.w hq) i q (Nat.le_refl i)
            omega
          have loop3 : ∀ k, k ≤ i → ∀ σ3 τ3, TA σ3 t i y z l τ3 → Fr t σ σ3 → (∀ q, q < i → σ3 (t + 8) q = nI (accW (τ 5) (wkM y z l τ) i q)) → (∀ q, q < i → τ3 1 q = if q < k then m1 τ q - accW (τ 5) (wkM y z l τ) i q else m1 τ q) → (∀ q, q < k → τ3 6 q = accW (τ 5) (wkM y z l τ) i q) → (∀ f, f ≠ 1 → f ≠ 6 → τ3 f = τ f) → ∀ o2, V x RX1 cX1_passYear 3 100 [some (.ref t), some (.int (nI k)), o2] [] σ3 := by
            refine down i (fun k hk ih3 σ3 τ3 hT3 hF3 e83 e13 e63 ef3 o3 => ?_)
            refine V.iload_n (q := 101) dX1_passYear_100 rfl rfl ?_
            refine V.aload_n (q := 102) dX1_passYear_101 rfl rfl ?_
            refine V.getI (q := 105) dX1_passYear_102 rfl kf_X1_49 (shT ht) (loT ht) rfl (TA.n8 hT3) ?_
            refine V.icmpN_ge (t := 149) (q := 108) dX1_passYear_105 (by decide) rfl (by omega) (by omega) (fun c105 => ?_) (fun c105 => ?_)
            · have ek : k = i := by omega
              subst ek
              refine V.aload_n (q := 150) dX1_passYear_149 rfl rfl ?_
              refine V.cvv0 (q := 153) dX1_passYear_150 rfl kc_X1_90 (shT ht) (loT ht) rfl (hB.rm (by decide)) (Nat.le_of_ble_eq_true rfl) (c_payAll ht hT3) (fun τ150 hp150 => ?_)
              obtain ⟨hT6, hF6⟩ := hp150
              have hT7 := hT6.cg (cg_yr (y := y) (z := z) (τ := τ) (fun q hq => by rw [e13 q hq, if_pos hq]) e63 ef3)
              refine V.aload_n (q := 154) dX1_passYear_153 rfl rfl ?_
              refine V.dup (q := 155) dX1_passYear_154 rfl rfl ?_
              refine V.getI (q := 158) dX1_passYear_155 rfl kf_X1_52 (shT ht) (loT ht) rfl (TA.n9 hT7) ?_
              refine V.iconst (q := 159) (v := nI 1) dX1_passYear_158 rfl (by decide +kernel) ?_
              refine V.iaddN (q := 160) dX1_passYear_159 rfl ?_
              refine V.putI (q := 163) dX1_passYear_160 rfl kp_X1_52 (shT ht) (loT ht) rfl rfl rfl ?_
              exact V.ret_v hB dX1_passYear_163 ⟨rfl, ⟨hT7.wy hy, (hF3.tr hF6).w (by omega) (by omega)⟩⟩
            · have hw := hT3.w k c105
              have ha9 := hacc k
              refine V.aload_n (q := 109) dX1_passYear_108 rfl rfl ?_
              refine V.getR (q := 112) dX1_passYear_109 rfl kf_X1_30 (shT ht) (loT ht) rfl ?_
              refine V.iload_n (q := 113) dX1_passYear_112 rfl rfl ?_
              refine V.aload_n (q := 114) dX1_passYear_113 rfl rfl ?_
              refine V.getR (q := 117) dX1_passYear_114 rfl kf_X1_33 (shT ht) (loT ht) rfl ?_
              refine V.iload_n (q := 118) dX1_passYear_117 rfl rfl ?_
              refine V.ialdN (q := 119) dX1_passYear_118 rfl (shTa ht 8 (by decide) (by decide)) (loTa ht 8 (by decide)) (by omega) (by decide) (e83 _ c105) ?_
              refine V.iastN (q := 120) dX1_passYear_119 rfl (shTa ht 7 (by decide) (by decide)) (loTa ht 7 (by decide)) (by omega) (by decide) ?_
              have hT4 := hT3.wr (f := 6) (v := accW (τ 5) (wkM y z l τ) i k) (by decide) c105 (by unfold okF; omega)
              have hF4 := hF3.w (o := t + 7) (k := k) (x := nI (accW (τ 5) (wkM y z l τ) i k)) (by omega) (by omega)
              refine V.aload_n (q := 121) dX1_passYear_120 rfl rfl ?_
              refine V.getR (q := 124) dX1_passYear_121 rfl kf_X1_15 (shT ht) (loT ht) rfl ?_
              refine V.iload_n (q := 125) dX1_passYear_124 rfl rfl ?_
              refine V.iconst (q := 126) (v := nI 0) dX1_passYear_125 rfl (by decide +kernel) ?_
              refine V.aload_n (q := 127) dX1_passYear_126 rfl rfl ?_
              refine V.getR (q := 130) dX1_passYear_127 rfl kf_X1_15 (shT ht) (loT ht) rfl ?_
              refine V.iload_n (q := 131) dX1_passYear_130 rfl rfl ?_
              refine V.ialdN (q := 132) dX1_passYear_131 rfl (shTa ht 2 (by decide) (by decide)) (loTa ht 2 (by decide)) (by omega) (by decide) (show _ = nI (τ3 1 k) from TA.a hT4 1 (by decide) c105) ?_
              refine V.aload_n (q := 133) dX1_passYear_132 rfl rfl ?_
              refine V.getR (q := 136) dX1_passYear_133 rfl kf_X1_33 (shT ht) (loT ht) rfl ?_
              refine V.iload_n (q := 137) dX1_passYear_136 rfl rfl ?_
              refine V.ialdN (q := 138) dX1_passYear_137 rfl (shTa ht 8 (by decide) (by decide)) (loTa ht 8 (by decide)) (by omega) (by decide) (show _ = nI (accW (τ 5) (wkM y z l τ) i k) by rw [w2_ne (by omega)]; exact e83 k c105) ?_
              refine V.isub (q := 139) dX1_passYear_138 rfl ?_
              refine V.max (q := 142) dX1_passYear_139 rfl kc_X1_87 (hB.rm (by decide)) (Nat.le_of_ble_eq_true rfl) (max0 (by omega) (by omega)) ?_
              refine V.iastN (q := 143) dX1_passYear_142 rfl (shTa ht 2 (by decide) (by decide)) (loTa ht 2 (by decide)) (by omega) (by decide) ?_
              have hT5 := hT4.wr (f := 1) (v := τ3 1 k - accW (τ 5) (wkM y z l τ) i k) (by decide) c105 (by unfold okF; omega)
              have hF5 := hF4.w (o := t + 2) (k := k) (x := nI (τ3 1 k - accW (τ 5) (wkM y z l τ) i k)) (by omega) (by omega)
              refine V.inc1 (q := 146) dX1_passYear_143 rfl (inc1 _) ?_
              refine V.goto (q := 100) dX1_passYear_146 (by decide) ?_
              refine ih3 c105 _ _ hT5 hF5 (fun q hq => ?_) (fun q hq => ?_) (fun q hq => ?_) (fun f h1 h6 => ?_) _
              · rw [w2_ne (by omega), w2_ne (by omega)]; exact e83 q hq
              · rw [setF_at, setF_ne (by decide)]; unfold upN
                by_cases h9 : q = k
                · subst h9
                  rw [if_pos rfl, if_pos (by omega), e13 q hq, if_neg (by omega)]
                · rw [if_neg h9, e13 q hq]
                  by_cases h8 : q < k
                  · rw [if_pos h8, if_pos (by omega)]
                  · rw [if_neg h8, if_neg (by omega)]
              · rw [setF_ne (by decide), setF_at]; unfold upN
                by_cases h9 : q = k
                · subst h9; rw [if_pos rfl]
                · rw [if_neg h9]; exact e63 q (by omega)
              · rw [setF_ne h1, setF_ne h6]; exact ef3 f h1 h6
          exact loop3 0 (Nat.zero_le _) σ2 τ1 hT2 hF2 e82 (fun q hq => by rw [e1 q hq, if_neg (by omega)]) (fun q hq => absurd hq (by omega)) (fun f h1 _ => ef f h1) _
        · have hw := hT2.w i c54
          have e5 : τ1 5 i = τ 5 i := by rw [ef 5 (by decide)]
          have hh := hw.2.2.2.2.2.1
          have hwh := hT2.w (τ1 5 i) hh
          have hwk : workM y z l τ1 i (τ1 1 (τ1 5 i)) = wkM y z l τ i := by
            unfold wkM workM trustM
            rw [ef 0 (by decide), ef 3 (by decide), ef 4 (by decide), ef 6 (by decide), e5, e1 _ (by rw [← e5]; exact hh)]
          have hac := accW_le (me := τ 5) (w := wkM y z l τ) (n := j) (fun q hq => wkM_le hT.w hq) i (τ1 5 i) (by omega)
          have hwl := wkM_le (y := y) (z := z) (l := l) hT.w c54
          refine V.aload_n (q := 58) dX1_passYear_57 rfl rfl ?_
          refine V.getR (q := 61) dX1_passYear_58 rfl kf_X1_27 (shT ht) (loT ht) rfl ?_
          refine V.iload_n (q := 62) dX1_passYear_61 rfl rfl ?_
          refine V.ialdN (q := 63) dX1_passYear_62 rfl (shTa ht 6 (by decide) (by decide)) (loTa ht 6 (by decide)) (by omega) (by decide) (TA.a hT2 5 (by decide) (by omega)) ?_
          refine V.ist2 (q := 64) dX1_passYear_63 rfl ?_
          refine V.aload_n (q := 65) dX1_passYear_64 rfl rfl ?_
          refine V.iload_n (q := 66) dX1_passYear_65 rfl rfl ?_
          refine V.cvi1 (q := 69) dX1_passYear_66 rfl kc_X1_59 (shT ht) (loT ht) rfl (hB.rm (by decide)) (Nat.le_of_ble_eq_true rfl) (c_isS1 ht hT2 hh) (fun r66 τ66 hp66 => ?_)
          obtain ⟨rfl, hz⟩ := hp66
          rw [hz]
          refine V.ifN_eq (t := 92) (q := 72) dX1_passYear_69 (by decide) rfl (by omega) (fun c69 => absurd c69 (by decide +kernel)) (fun c69 => ?_)
          refine V.aload_n (q := 73) dX1_passYear_72 rfl rfl ?_
          refine V.getR (q := 76) dX1_passYear_73 rfl kf_X1_33 (shT ht) (loT ht) rfl ?_
          refine V.iload_n (q := 77) dX1_passYear_76 rfl rfl ?_
          refine V.dup2 (q := 78) dX1_passYear_77 rfl rfl rfl ?_
          refine V.ialdN (q := 79) dX1_passYear_78 rfl (shTa ht 8 (by decide) (by decide)) (loTa ht 8 (by decide)) (by omega) (by decide) (e82 _ hh) ?_
          refine V.aload_n (q := 80) dX1_passYear_79 rfl rfl ?_
          refine V.iload_n (q := 81) dX1_passYear_80 rfl rfl ?_
          refine V.aload_n (q := 82) dX1_passYear_81 rfl rfl ?_
          refine V.getR (q := 85) dX1_passYear_82 rfl kf_X1_15 (shT ht) (loT ht) rfl ?_
          refine V.iload_n (q := 86) dX1_passYear_85 rfl rfl ?_
          refine V.ialdN (q := 87) dX1_passYear_86 rfl (shTa ht 2 (by decide) (by decide)) (loTa ht 2 (by decide)) (by omega) (by decide) (TA.a hT2 1 (by decide) (by omega)) ?_
          refine V.cvi2 (q := 90) dX1_passYear_87 rfl kc_X1_84 (shT ht) (loT ht) rfl (hB.rm (by decide)) (Nat.le_of_ble_eq_true rfl) (c_workOf ht hT2 c54 (mt := τ1 1 (τ1 5 i)) (by omega)) (fun r87 τ87 hp87 => ?_)
          obtain ⟨rfl, hz⟩ := hp87
          rw [hz]
          refine V.iaddN (q := 91) dX1_passYear_90 rfl ?_
          refine V.iastN (q := 92) dX1_passYear_91 rfl (shTa ht 8 (by decide) (by decide)) (loTa ht 8 (by decide)) (by omega) (by decide) ?_
          refine V.inc1 (q := 95) dX1_passYear_92 rfl (inc1 _) ?_
          refine V.goto (q := 49) dX1_passYear_95 (by decide) ?_
          refine ih2 c54 _ (hT2.wo (o := t + 8) (k := τ1 5 i) (fun h9 => absurd h9.2 (by omega))) (hF2.w (by omega) (by omega)) (fun q hq => ?_) _
          rw [w2_rd]
          by_cases h9 : q = τ1 5 i
          · subst h9
            rw [if_pos ⟨rfl, rfl⟩, hwk]
            show _ = nI (accW (τ 5) (wkM y z l τ) (i + 1) (τ1 5 i))
            conv => rhs; unfold accW
            rw [if_pos e5.symm]
          · rw [if_neg (fun h8 => h9 h8.2), e82 q hq]
            conv => rhs; unfold accW
            rw [if_neg (fun h8 => h9 (by rw [e5]; exact h8.symm))]
      refine loop2 0 (Nat.zero_le _) σ1 hT1 hF1 (fun q hq => e8 q hq) _
    · have hw := hT1.w j c7
      refine V.aload_n (q := 11) dX1_passYear_10 rfl rfl ?_
      refine V.getR (q := 14) dX1_passYear_11 rfl kf_X1_15 (shT ht) (loT ht) rfl ?_
      refine V.iload_n (q := 15) dX1_passYear_14 rfl rfl ?_
      refine V.bipush (q := 17) (v := nI 9) dX1_passYear_15 rfl (by decide +kernel) ?_
      refine V.aload_n (q := 18) dX1_passYear_17 rfl rfl ?_
      refine V.getR (q := 21) dX1_passYear_18 rfl kf_X1_15 (shT ht) (loT ht) rfl ?_
      refine V.iload_n (q := 22) dX1_passYear_21 rfl rfl ?_
      refine V.ialdN (q := 23) dX1_passYear_22 rfl (shTa ht 2 (by decide) (by decide)) (loTa ht 2 (by decide)) (by omega) (by decide) (TA.a hT1 1 (by decide) (by omega)) ?_
      refine V.aload_n (q := 24) dX1_passYear_23 rfl rfl ?_
      refine V.getR (q := 27) dX1_passYear_24 rfl kf_X1_18 (shT ht) (loT ht) rfl ?_
      refine V.iload_n (q := 28) dX1_passYear_27 rfl rfl ?_
      refine V.ialdN (q := 29) dX1_passYear_28 rfl (shTa ht 3 (by decide) (by decide)) (loTa ht 3 (by decide)) (by omega) (by decide) (TA.a hT1 2 (by decide) (by omega)) ?_
      refine V.iaddN (q := 30) dX1_passYear_29 rfl ?_
      refine V.min (q := 33) dX1_passYear_30 rfl kc_X1_78 (hB.rm (by decide)) (Nat.le_of_ble_eq_true rfl) (minN (by omega) (by omega)) ?_
      refine V.iastN (q := 34) dX1_passYear_33 rfl (shTa ht 2 (by decide) (by decide)) (loTa ht 2 (by decide)) (by omega) (by decide) ?_
      have hT2 := hT1.wr (f := 1) (v := min 9 (τ1 1 j + τ1 2 j)) (by decide) c7 (by unfold okF; omega)
      have hF2 := hF1.w (o := t + 2) (k := j) (x := nI (min 9 (τ1 1 j + τ1 2 j))) (by omega) (by omega)
      refine V.aload_n (q := 35) dX1_passYear_34 rfl rfl ?_
      refine V.getR (q := 38) dX1_passYear_35 rfl kf_X1_33 (shT ht) (loT ht) rfl ?_
      refine V.iload_n (q := 39) dX1_passYear_38 rfl rfl ?_
      refine V.iconst (q := 40) (v := nI 0) dX1_passYear_39 rfl (by decide +kernel) ?_
      refine V.iastN (q := 41) dX1_passYear_40 rfl (shTa ht 8 (by decide) (by decide)) (loTa ht 8 (by decide)) (by omega) (by decide) ?_
      refine V.inc1 (q := 44) dX1_passYear_41 rfl (inc1 _) ?_
      refine V.goto (q := 2) dX1_passYear_44 (by decide) ?_
      refine ih c7 _ _ (hT2.wo (o := t + 8) (k := j) (x := nI 0) (fun h9 => absurd h9.2 (by omega))) (hF2.w (by omega) (by omega)) (fun i hi => ?_) (fun f hf => ?_) (fun i hi => ?_)
      · rw [setF_at]; unfold upN
        by_cases h9 : i = j
        · subst h9
          rw [if_pos rfl, if_pos (by omega), e1 i hi, if_neg (by omega), ef 2 (by decide)]; rfl
        · rw [if_neg h9, e1 i hi]
          by_cases h8 : i < j
          · rw [if_pos h8, if_pos (by omega)]
          · rw [if_neg h8, if_neg (by omega)]
      · rw [setF_ne hf]; exact ef f hf
      · rw [w2_rd]
        by_cases h9 : i = j
        · rw [if_pos ⟨rfl, h9⟩]
        · rw [if_neg (fun q => h9 q.2), w2_rd, if_neg (fun q => by omega)]
          exact e8 i (by omega)
  exact loop 0 (Nat.zero_le _) σ τ hT Fr.rf (fun i hi => by simp) (fun _ _ => rfl) (fun i h9 => absurd h9 (by omega))

-- mudBehind(k)
theorem yrs_wf {n y z l : Nat} {τ : Nat → Nat → Nat} (hn : n ≤ 6) (h : WFt n τ) : ∀ k, WFt n (yrsM n y z l τ k)
  | 0 => h
  | k + 1 => yrM_wf hn (yrs_wf hn h k)
set_option maxHeartbeats 4000000 in
set_option maxRecDepth 100000 in
theorem c_mudBehind {σ : Sg} {t n y z l : Nat} {τ : Nat → Nat → Nat} (ht : isT t) (hT : TA σ t n y z l τ) {k : Nat} (hy : y + k < 2 ^ 30) : Con 4 yX1_mudBehind cX1_mudBehind 3 (some .int) [.ref t, .int (nI k)] σ (PI (fun r σ1 => r = nI (sumK (yrsM n y z l τ k 1) n) ∧ TA σ1 t n (y + k) z l (yrsM n y z l τ k) ∧ Fr t σ σ1)) := by
  refine Con.of (by decide) (by simp [Value.category]) (Nat.le_of_ble_eq_true rfl) (fun x hB => ?_)
  show V x RX1 cX1_mudBehind 3 0 [some (.ref t), some (.int (nI k)), none] [] _
  have hn6 := hT.n6
  have hyb := hT.yb
  refine V.iconst (q := 1) (v := nI 0) dX1_mudBehind_0 rfl (by decide +kernel) ?_
  refine V.ist2 (q := 2) dX1_mudBehind_1 rfl ?_
  have loop : ∀ j, j ≤ k → ∀ σ1, TA σ1 t n (y + j) z l (yrsM n y z l τ j) → Fr t σ σ1 → V x RX1 cX1_mudBehind 3 2 [some (.ref t), some (.int (nI k)), some (.int (nI j))] [] σ1 := by
    refine down k (fun j hj ih σ1 hT1 hF1 => ?_)
    refine V.iload_n (q := 3) dX1_mudBehind_2 rfl rfl ?_
    refine V.iload_n (q := 4) dX1_mudBehind_3 rfl rfl ?_
    refine V.icmpN_ge (t := 17) (q := 7) dX1_mudBehind_4 (by decide) rfl (by omega) (by omega) (fun c4 => ?_) (fun c4 => ?_)
    · have ej : j = k := by omega
      subst ej
      refine V.aload_n (q := 18) dX1_mudBehind_17 rfl rfl ?_
      refine V.cvi0 (q := 21) dX1_mudBehind_18 rfl kc_X1_74 (shT ht) (loT ht) rfl (hB.rm (by decide)) (Nat.le_of_ble_eq_true rfl) (c_mudOfAll ht hT1) (fun r18 τ18 hp18 => ?_)
      obtain ⟨rfl, hz⟩ := hp18
      rw [hz]
      exact V.ret_int hB dX1_mudBehind_21 rfl ⟨_, rfl, ⟨rfl, hT1, hF1⟩⟩
    · refine V.aload_n (q := 8) dX1_mudBehind_7 rfl rfl ?_
      refine V.cvv0 (q := 11) dX1_mudBehind_8 rfl kc_X1_71 (shT ht) (loT ht) rfl (hB.rm (by decide)) (Nat.le_of_ble_eq_true rfl) (c_passYear ht hT1 (by omega)) (fun τ8 hp8 => ?_)
      obtain ⟨hT2, hF2⟩ := hp8
      refine V.inc2 (q := 14) dX1_mudBehind_11 rfl (inc1 _) ?_
      refine V.goto (q := 2) dX1_mudBehind_14 (by decide) ?_
      exact ih c4 _ hT2 (hF1.tr hF2)
  exact loop 0 (Nat.zero_le _) σ hT Fr.rf
end
section
/-! a street more, and copies -/
def adV (a b c d f : Nat) : Nat := if f = 0 then a else if f = 1 then b else if f = 2 then c else if f = 3 then d else if f = 4 then 9 else 0
def addM (n : Nat) (τ : Nat → Nat → Nat) (a b c d : Nat) : Nat → Nat → Nat := fun f i => if i = n then adV a b c d f else τ f i
def addS (σ : Sg) (t n a b c d : Nat) : Sg := w2 (w2 (w2 (w2 (w2 (w2 (w2 (w2 σ (t + 1) n (nI a)) (t + 2) n (nI b)) (t + 3) n (nI c)) (t + 4) n (nI d)) (t + 5) n (nI 9)) (t + 6) n (nI 0)) (t + 7) n (nI 0)) t 8 (nI (n + 1))
theorem addS_fr {σ : Sg} {t n a b c d : Nat} : Fr t σ (addS σ t n a b c d) :=
  (((((((Fr.rf.w (by omega) (by omega)).w (by omega) (by omega)).w (by omega) (by omega)).w (by omega) (by omega)).w (by omega) (by omega)).w (by omega) (by omega)).w (by omega) (by omega)).w (by omega) (by omega)
theorem TA.add {σ : Sg} {t n y z l a b c d : Nat} {τ : Nat → Nat → Nat} (h : TA σ t n y z l τ) (hn : n < 6) (ha : a ≤ 5) (hb : b ≤ 9) (hc : c ≤ 3) (hd : d ≤ 4) : TA (addS σ t n a b c d) t (n + 1) y z l (addM n τ a b c d) := by
  refine ⟨by omega, h.yb, ?_, ?_, ?_, ?_, fun f hf i hi => ?_, fun i hi => ?_⟩
  · simp [addS, w2_rd]
  · simp [addS, w2_rd]; exact h.n9
  · simp [addS, w2_rd]; exact h.n10
  · simp [addS, w2_rd]; exact h.n11
  · have hf2 : f = 0 ∨ f = 1 ∨ f = 2 ∨ f = 3 ∨ f = 4 ∨ f = 5 ∨ f = 6 := by omega
    by_cases hin : i = n
    · subst hin
      rcases hf2 with rfl | rfl | rfl | rfl | rfl | rfl | rfl <;> simp [addS, w2_rd, addM, adV]
    · have hlt : i < n := by omega
      have := h.a f hf hlt
      rcases hf2 with rfl | rfl | rfl | rfl | rfl | rfl | rfl <;> (simp [addS, w2_rd, addM, hin]; exact this)
  · by_cases hin : i = n
    · subst hin
      simp [addM, adV]; omega
    · have := h.w i (by omega)
      simp only [addM, if_neg hin]; omega
theorem w2_comm {σ : Sg} {o k o1 k1 : Nat} {x x1 : Int32} (h : ¬ (o = o1 ∧ k = k1)) : w2 (w2 σ o k x) o1 k1 x1 = w2 (w2 σ o1 k1 x1) o k x := by
  funext q j
  simp only [w2_rd]
  by_cases h1 : q = o1 ∧ j = k1
  · rw [if_pos h1, if_neg (fun h2 => h ⟨by rw [← h2.1, h1.1], by rw [← h2.2, h1.2]⟩), if_pos h1]
  · rw [if_neg h1, if_neg h1]
theorem addS_lk {σ : Sg} {t n a b c d k : Nat} {x : Int32} (hk : k ≠ n) : addS (w2 σ (t + 6) k x) t n a b c d = w2 (addS σ t n a b c d) (t + 6) k x := by
  unfold addS
  rw [w2_comm (o := t + 6) (k := k) (o1 := t + 1) (by omega), w2_comm (o := t + 6) (k := k) (o1 := t + 2) (by omega), w2_comm (o := t + 6) (k := k) (o1 := t + 3) (by omega), w2_comm (o := t + 6) (k := k) (o1 := t + 4) (by omega), w2_comm (o := t + 6) (k := k) (o1 := t + 5) (by omega), w2_comm (o := t + 6) (k := k) (o1 := t + 6) (by omega), w2_comm (o := t + 6) (k := k) (o1 := t + 7) (by omega), w2_comm (o := t + 6) (k := k) (o1 := t) (by omega)]
/-- "s": a street more, which the last one's dweller mends, if he mended 0 -/
def tellM (n : Nat) (τ : Nat → Nat → Nat) (a b c d : Nat) : Nat → Nat → Nat := if 0 < n ∧ τ 5 (n - 1) = 0 then setF (addM n τ a b c d) 5 (upN (addM n τ a b c d 5) (n - 1) n) else addM n τ a b c d
/-- OUT: who mended it mends what its dweller did -/
def leaveM (τ : Nat → Nat → Nat) (k : Nat) : Nat → Nat → Nat := setF τ 5 (fun q => if τ 5 q = k then τ 5 k else τ 5 q)
/-- PUT -/
def putM (n : Nat) (τ : Nat → Nat → Nat) (k d : Nat) : Nat → Nat → Nat := fun f i =>
  if i = n then (if f = 3 then d else if f = 5 then τ 5 k else 0) else if f = 5 ∧ i = k then n else τ f i
theorem isT_apart {t u : Nat} (ht : isT t) (hu : isT u) (h : t ≠ u) : t + 9 ≤ u ∨ u + 9 ≤ t := by
  rcases ht with rfl | rfl | rfl | rfl <;> rcases hu with rfl | rfl | rfl | rfl <;> omega
theorem V.nm {x : Cx} {own : String} {cc : ByteArray} {nL pc : Nat} {L : List (Option Value)} {st : List Value} {σ : Sg} (h : ∀ σ' : Sg, σ' = σ → V x own cc nL pc L st σ') : V x own cc nL pc L st σ := h σ rfl
def cpd (σ σ1 : Sg) (t u i : Nat) : Prop := Fr t σ σ1 ∧ ∀ f, f < i → ∀ k, k < 6 → σ1 (t + (f + 1)) k = σ (u + (f + 1)) k
theorem cpd0 {σ : Sg} {t u : Nat} : cpd σ σ t u 0 := ⟨Fr.rf, fun f hf => absurd hf (by omega)⟩
theorem cpd_s {σ σ1 σ2 : Sg} {t u : Nat} (i : Nat) (hap : t + 9 ≤ u ∨ u + 9 ≤ t) (hi : i < 7) (h : cpd σ σ1 t u i) (e : σ2 = so σ1 (t + (i + 1)) (fun k => if k < 6 then σ1 (u + (i + 1)) k else σ1 (t + (i + 1)) k)) : cpd σ σ2 t u (i + 1) := by
  subst e
  refine ⟨fun o ho => by rw [so_ne (by omega)]; exact h.1 o ho, fun f hf k hk => ?_⟩
  by_cases hfi : f = i
  · subst hfi
    rw [so_at, if_pos hk, h.1 _ (by omega)]
  · rw [so_ne (by omega)]
    exact h.2 f (by omega) k hk
end
section
-- leave(k)
set_option maxHeartbeats 4000000 in
set_option maxRecDepth 100000 in
theorem c_leave {σ : Sg} {t n y z l : Nat} {τ : Nat → Nat → Nat} (ht : isT t) (hT : TA σ t n y z l τ) {k : Nat} (hk : k < n) : Con 3 yX1_leave cX1_leave 3 none [.ref t, .int (nI k)] σ (PV (fun σ1 => TA σ1 t n y z k (leaveM τ k) ∧ Fr t σ σ1)) := by
  refine Con.of (by decide) (by simp [Value.category]) (Nat.le_of_ble_eq_true rfl) (fun x hB => ?_)
  show V x RX1 cX1_leave 3 0 [some (.ref t), some (.int (nI k)), none] [] _
  have hn6 := hT.n6
  have hyb := hT.yb
  refine V.aload_n (q := 1) dX1_leave_0 rfl rfl ?_
  refine V.iload_n (q := 2) dX1_leave_1 rfl rfl ?_
  refine V.putI (q := 5) dX1_leave_2 rfl kp_X1_40 (shT ht) (loT ht) rfl rfl rfl ?_
  have hT1 : TA (w2 σ t 11 (nI k)) t n y z k τ := by
    have h9 := hT.wl (l2 := k)
    rwa [nz_in (by omega)] at h9
  have hme := (hT.w k hk).2.2.2.2.2.1
  refine V.iconst (q := 6) (v := nI 0) dX1_leave_5 rfl (by decide +kernel) ?_
  refine V.ist2 (q := 7) dX1_leave_6 rfl ?_
  have loop : ∀ j, j ≤ n → ∀ σ1 τ1, TA σ1 t n y z k τ1 → Fr t σ σ1 → (∀ q, q < n → τ1 5 q = if q < j ∧ τ 5 q = k then τ 5 k else τ 5 q) → (∀ f, f ≠ 5 → τ1 f = τ f) → V x RX1 cX1_leave 3 7 [some (.ref t), some (.int (nI k)), some (.int (nI j))] [] σ1 := by
    refine down n (fun j hj ih σ1 τ1 hT1 hF1 e5 ef => ?_)
    have ek : τ1 5 k = τ 5 k := by
      rw [e5 k hk]; split
      · rfl
      · rfl
    refine V.iload_n (q := 8) dX1_leave_7 rfl rfl ?_
    refine V.aload_n (q := 9) dX1_leave_8 rfl rfl ?_
    refine V.getI (q := 12) dX1_leave_9 rfl kf_X1_49 (shT ht) (loT ht) rfl (TA.n8 hT1) ?_
    refine V.icmpN_ge (t := 42) (q := 15) dX1_leave_12 (by decide) rfl (by omega) (by omega) (fun c12 => ?_) (fun c12 => ?_)
    · have ej : j = n := by omega
      subst ej
      exact V.ret_v hB dX1_leave_42 ⟨rfl, ⟨hT1.cg (fun f hf i hi => by
      by_cases h5 : f = 5
      · subst h5
        rw [e5 i hi]; unfold leaveM; rw [setF_at]
        by_cases h8 : τ 5 i = k
        · rw [if_pos ⟨hi, h8⟩, if_pos h8]
        · rw [if_neg (fun h7 => h8 h7.2), if_neg h8]
      · unfold leaveM; rw [setF_ne h5, ef f h5]), hF1⟩⟩
    · have hw := hT1.w j c12
      have e5j := e5 j c12
      rw [if_neg (by omega)] at e5j
      refine V.aload_n (q := 16) dX1_leave_15 rfl rfl ?_
      refine V.getR (q := 19) dX1_leave_16 rfl kf_X1_27 (shT ht) (loT ht) rfl ?_
      refine V.iload_n (q := 20) dX1_leave_19 rfl rfl ?_
      refine V.ialdN (q := 21) dX1_leave_20 rfl (shTa ht 6 (by decide) (by decide)) (loTa ht 6 (by decide)) (by omega) (by decide) (TA.a hT1 5 (by decide) (by omega)) ?_
      refine V.iload_n (q := 22) dX1_leave_21 rfl rfl ?_
      refine V.icmpN_ne (t := 36) (q := 25) dX1_leave_22 (by decide) rfl (by omega) (by omega) (fun c22 => ?_) (fun c22 => ?_)
      · 
        refine V.inc2 (q := 39) dX1_leave_36 rfl (inc1 _) ?_
        refine V.goto (q := 7) dX1_leave_39 (by decide) ?_
        refine ih c12 _ _ hT1 hF1 (fun q hq => ?_) ef
        rw [e5 q hq]
        by_cases h9 : q = j
        · subst h9
          rw [if_neg (by omega), if_neg (fun h8 => c22 (by rw [e5j]; exact h8.2))]
        · by_cases h8 : q < j ∧ τ 5 q = k
          · rw [if_pos h8, if_pos ⟨by omega, h8.2⟩]
          · rw [if_neg h8, if_neg (fun h7 => h8 ⟨by omega, h7.2⟩)]
      · refine V.aload_n (q := 26) dX1_leave_25 rfl rfl ?_
        refine V.getR (q := 29) dX1_leave_26 rfl kf_X1_27 (shT ht) (loT ht) rfl ?_
        refine V.iload_n (q := 30) dX1_leave_29 rfl rfl ?_
        refine V.aload_n (q := 31) dX1_leave_30 rfl rfl ?_
        refine V.iload_n (q := 32) dX1_leave_31 rfl rfl ?_
        refine V.cvi1 (q := 35) dX1_leave_32 rfl kc_X1_67 (shT ht) (loT ht) rfl (hB.rm (by decide)) (Nat.le_of_ble_eq_true rfl) (c_stepFrom ht hT1 hk) (fun r32 τ32 hp32 => ?_)
        obtain ⟨rfl, hz⟩ := hp32
        rw [hz]
        refine V.iastN (q := 36) dX1_leave_35 rfl (shTa ht 6 (by decide) (by decide)) (loTa ht 6 (by decide)) (by omega) (by decide) ?_
        have hT2 := hT1.wr (f := 5) (v := τ1 5 k) (by decide) c12 (by unfold okF; omega)
        have hF2 := hF1.w (o := t + 6) (k := j) (x := nI (τ1 5 k)) (by omega) (by omega)
        refine V.inc2 (q := 39) dX1_leave_36 rfl (inc1 _) ?_
        refine V.goto (q := 7) dX1_leave_39 (by decide) ?_
        refine ih c12 _ _ hT2 hF2 (fun q hq => ?_) (fun f hf => by rw [setF_ne hf]; exact ef f hf)
        rw [setF_at]; unfold upN
        by_cases h9 : q = j
        · subst h9
          rw [if_pos rfl, if_pos ⟨by omega, by rw [← e5j]; exact c22⟩, ek]
        · rw [if_neg h9, e5 q hq]
          by_cases h8 : q < j ∧ τ 5 q = k
          · rw [if_pos h8, if_pos ⟨by omega, h8.2⟩]
          · rw [if_neg h8, if_neg (fun h7 => h8 ⟨by omega, h7.2⟩)]
  exact loop 0 (Nat.zero_le _) _ τ hT1 (Fr.rf.w (by omega) (by omega)) (fun q hq => by rw [if_neg (by omega)]) (fun _ _ => rfl)

-- add(a, b, c, d)
set_option maxHeartbeats 4000000 in
set_option maxRecDepth 100000 in
theorem c_add {σ : Sg} {t n : Nat} (ht : isT t) (hn6 : n ≤ 6) (h8 : σ t 8 = nI n) (hn : n < 6) {a b c d : Nat} : Con 2 yX1_add cX1_add 5 none [.ref t, .int (nI a), .int (nI b), .int (nI c), .int (nI d)] σ (PV (fun σ1 => σ1 = addS σ t n a b c d)) := by
  refine Con.of (by decide) (by simp [Value.category]) (Nat.le_of_ble_eq_true rfl) (fun x hB => ?_)
  show V x RX1 cX1_add 5 0 [some (.ref t), some (.int (nI a)), some (.int (nI b)), some (.int (nI c)), some (.int (nI d))] [] _
  refine V.aload_n (q := 1) dX1_add_0 rfl rfl ?_
  refine V.cvi0 (q := 4) dX1_add_1 rfl kc_X1_55 (shT ht) (loT ht) rfl (hB.rm (by decide)) (Nat.le_of_ble_eq_true rfl) (c_isF0 ht hn6 h8 hn) (fun r1 τ1 hp1 => ?_)
  obtain ⟨rfl, hz⟩ := hp1
  rw [hz]
  refine V.ifN_eq (t := 8) (q := 7) dX1_add_4 (by decide) rfl (by omega) (fun c4 => ?_) (fun c4 => absurd c4 (by decide +kernel))
  refine V.aload_n (q := 9) dX1_add_8 rfl rfl ?_
  refine V.getR (q := 12) dX1_add_9 rfl kf_X1_9 (shT ht) (loT ht) rfl ?_
  refine V.aload_n (q := 13) dX1_add_12 rfl rfl ?_
  refine V.getI (q := 16) dX1_add_13 rfl kf_X1_49 (shT ht) (loT ht) rfl h8 ?_
  refine V.iload_n (q := 17) dX1_add_16 rfl rfl ?_
  refine V.iastN (q := 18) dX1_add_17 rfl (shTa ht 1 (by decide) (by decide)) (loTa ht 1 (by decide)) (by omega) (by decide) ?_
  refine V.aload_n (q := 19) dX1_add_18 rfl rfl ?_
  refine V.getR (q := 22) dX1_add_19 rfl kf_X1_15 (shT ht) (loT ht) rfl ?_
  refine V.aload_n (q := 23) dX1_add_22 rfl rfl ?_
  refine V.getI (q := 26) dX1_add_23 rfl kf_X1_49 (shT ht) (loT ht) rfl (show _ = nI n by simp [w2_rd, h8]) ?_
  refine V.iload_n (q := 27) dX1_add_26 rfl rfl ?_
  refine V.iastN (q := 28) dX1_add_27 rfl (shTa ht 2 (by decide) (by decide)) (loTa ht 2 (by decide)) (by omega) (by decide) ?_
  refine V.aload_n (q := 29) dX1_add_28 rfl rfl ?_
  refine V.getR (q := 32) dX1_add_29 rfl kf_X1_18 (shT ht) (loT ht) rfl ?_
  refine V.aload_n (q := 33) dX1_add_32 rfl rfl ?_
  refine V.getI (q := 36) dX1_add_33 rfl kf_X1_49 (shT ht) (loT ht) rfl (show _ = nI n by simp [w2_rd, h8]) ?_
  refine V.iload_n (q := 37) dX1_add_36 rfl rfl ?_
  refine V.iastN (q := 38) dX1_add_37 rfl (shTa ht 3 (by decide) (by decide)) (loTa ht 3 (by decide)) (by omega) (by decide) ?_
  refine V.aload_n (q := 39) dX1_add_38 rfl rfl ?_
  refine V.getR (q := 42) dX1_add_39 rfl kf_X1_21 (shT ht) (loT ht) rfl ?_
  refine V.aload_n (q := 43) dX1_add_42 rfl rfl ?_
  refine V.getI (q := 46) dX1_add_43 rfl kf_X1_49 (shT ht) (loT ht) rfl (show _ = nI n by simp [w2_rd, h8]) ?_
  refine V.iload (q := 48) dX1_add_46 rfl rfl ?_
  refine V.iastN (q := 49) dX1_add_48 rfl (shTa ht 4 (by decide) (by decide)) (loTa ht 4 (by decide)) (by omega) (by decide) ?_
  refine V.aload_n (q := 50) dX1_add_49 rfl rfl ?_
  refine V.getR (q := 53) dX1_add_50 rfl kf_X1_24 (shT ht) (loT ht) rfl ?_
  refine V.aload_n (q := 54) dX1_add_53 rfl rfl ?_
  refine V.getI (q := 57) dX1_add_54 rfl kf_X1_49 (shT ht) (loT ht) rfl (show _ = nI n by simp [w2_rd, h8]) ?_
  refine V.bipush (q := 59) (v := nI 9) dX1_add_57 rfl (by decide +kernel) ?_
  refine V.iastN (q := 60) dX1_add_59 rfl (shTa ht 5 (by decide) (by decide)) (loTa ht 5 (by decide)) (by omega) (by decide) ?_
  refine V.aload_n (q := 61) dX1_add_60 rfl rfl ?_
  refine V.getR (q := 64) dX1_add_61 rfl kf_X1_27 (shT ht) (loT ht) rfl ?_
  refine V.aload_n (q := 65) dX1_add_64 rfl rfl ?_
  refine V.getI (q := 68) dX1_add_65 rfl kf_X1_49 (shT ht) (loT ht) rfl (show _ = nI n by simp [w2_rd, h8]) ?_
  refine V.iconst (q := 69) (v := nI 0) dX1_add_68 rfl (by decide +kernel) ?_
  refine V.iastN (q := 70) dX1_add_69 rfl (shTa ht 6 (by decide) (by decide)) (loTa ht 6 (by decide)) (by omega) (by decide) ?_
  refine V.aload_n (q := 71) dX1_add_70 rfl rfl ?_
  refine V.getR (q := 74) dX1_add_71 rfl kf_X1_30 (shT ht) (loT ht) rfl ?_
  refine V.aload_n (q := 75) dX1_add_74 rfl rfl ?_
  refine V.getI (q := 78) dX1_add_75 rfl kf_X1_49 (shT ht) (loT ht) rfl (show _ = nI n by simp [w2_rd, h8]) ?_
  refine V.iconst (q := 79) (v := nI 0) dX1_add_78 rfl (by decide +kernel) ?_
  refine V.iastN (q := 80) dX1_add_79 rfl (shTa ht 7 (by decide) (by decide)) (loTa ht 7 (by decide)) (by omega) (by decide) ?_
  refine V.aload_n (q := 81) dX1_add_80 rfl rfl ?_
  refine V.dup (q := 82) dX1_add_81 rfl rfl ?_
  refine V.getI (q := 85) dX1_add_82 rfl kf_X1_49 (shT ht) (loT ht) rfl (show _ = nI n by simp [w2_rd, h8]) ?_
  refine V.iconst (q := 86) (v := nI 1) dX1_add_85 rfl (by decide +kernel) ?_
  refine V.iaddN (q := 87) dX1_add_86 rfl ?_
  refine V.putI (q := 90) dX1_add_87 rfl kp_X1_49 (shT ht) (loT ht) rfl rfl rfl ?_
  exact V.ret_v hB dX1_add_90 ⟨rfl, rfl⟩

-- tell(a, b, c, d)
set_option maxHeartbeats 4000000 in
set_option maxRecDepth 100000 in
theorem c_tell {σ : Sg} {t n y z l : Nat} {τ : Nat → Nat → Nat} (ht : isT t) (hT : TA σ t n y z l τ) {a b c d : Nat} (ha : a ≤ 5) (hb : b ≤ 9) (hc : c ≤ 9) (hd : d ≤ 9) : Con 3 yX1_tell cX1_tell 6 (some .boolean) [.ref t, .int (nI a), .int (nI b), .int (nI c), .int (nI d)] σ (PI (fun r σ1 => (r = nI 0 ∧ σ1 = σ ∧ (n = 6 ∨ 3 < c ∨ 4 < d)) ∨ (r = nI 1 ∧ n < 6 ∧ c ≤ 3 ∧ d ≤ 4 ∧ TA σ1 t (n + 1) y z l (tellM n τ a b c d) ∧ Fr t σ σ1))) := by
  refine Con.of (by decide) (by simp [Value.category]) (Nat.le_of_ble_eq_true rfl) (fun x hB => ?_)
  show V x RX1 cX1_tell 6 0 [some (.ref t), some (.int (nI a)), some (.int (nI b)), some (.int (nI c)), some (.int (nI d)), none] [] _
  have hn6 := hT.n6
  have hyb := hT.yb
  refine V.aload_n (q := 1) dX1_tell_0 rfl rfl ?_
  refine V.cvi0 (q := 4) dX1_tell_1 rfl kc_X1_55 (shT ht) (loT ht) rfl (hB.rm (by decide)) (Nat.le_of_ble_eq_true rfl) (c_isFull0 ht hT.n6 hT.n8) (fun r1 τ1 hp1 => ?_)
  obtain ⟨hz, ⟨rfl, hs⟩ | ⟨rfl, hn⟩⟩ := hp1
  · rw [hz]
    refine V.ifN_ne (t := 18) (q := 7) dX1_tell_4 (by decide) rfl (by omega) (fun c4 => ?_) (fun c4 => absurd c4 (by decide +kernel))
    refine V.iconst (q := 19) (v := nI 0) dX1_tell_18 rfl (by decide +kernel) ?_
    exact V.ret_int hB dX1_tell_19 (by decide +kernel) ⟨_, rfl, Or.inl ⟨rfl, rfl, Or.inl hs⟩⟩
  · rw [hz]
    refine V.ifN_ne (t := 18) (q := 7) dX1_tell_4 (by decide) rfl (by omega) (fun c4 => absurd c4 (by decide +kernel)) (fun c4 => ?_)
    refine V.iload_n (q := 8) dX1_tell_7 rfl rfl ?_
    refine V.iconst (q := 9) (v := nI 3) dX1_tell_8 rfl (by decide +kernel) ?_
    refine V.icmpN_gt (t := 18) (q := 12) dX1_tell_9 (by decide) rfl (by omega) (by omega) (fun c9 => ?_) (fun c9 => ?_)
    · refine V.iconst (q := 19) (v := nI 0) dX1_tell_18 rfl (by decide +kernel) ?_
      exact V.ret_int hB dX1_tell_19 (by decide +kernel) ⟨_, rfl, Or.inl ⟨rfl, rfl, Or.inr (Or.inl c9)⟩⟩
    · refine V.iload (q := 14) dX1_tell_12 rfl rfl ?_
      refine V.iconst (q := 15) (v := nI 4) dX1_tell_14 rfl (by decide +kernel) ?_
      refine V.icmpN_le (t := 20) (q := 18) dX1_tell_15 (by decide) rfl (by omega) (by omega) (fun c15 => ?_) (fun c15 => ?_)
      · refine V.aload_n (q := 21) dX1_tell_20 rfl rfl ?_
        refine V.getI (q := 24) dX1_tell_21 rfl kf_X1_49 (shT ht) (loT ht) rfl (TA.n8 hT) ?_
        refine V.iconst (q := 25) (v := nI 1) dX1_tell_24 rfl (by decide +kernel) ?_
        rcases Nat.eq_zero_or_pos n with e0 | e0
        · have e9 : nI n - nI 1 = -1 := by subst e0; decide +kernel
          refine V.isub (q := 26) dX1_tell_25 rfl ?_
          rw [e9]
          refine V.ist5 (q := 28) dX1_tell_26 rfl ?_
          refine V.aload_n (q := 29) dX1_tell_28 rfl rfl ?_
          refine V.iload (q := 31) dX1_tell_29 rfl rfl ?_
          refine V.cvi1 (q := 34) dX1_tell_31 rfl kc_X1_59 (shT ht) (loT ht) rfl (hB.rm (by decide)) (Nat.le_of_ble_eq_true rfl) (c_isS0 ht hT.n6 hT.n8 (v := -1) (fun ⟨k, h1, _⟩ => by omega)) (fun r31 τ31 hp31 => ?_)
          obtain ⟨rfl, hz⟩ := hp31
          rw [hz]
          refine V.ifN_eq (t := 58) (q := 37) dX1_tell_34 (by decide) rfl (by omega) (fun c34 => ?_) (fun c34 => absurd c34 (by decide +kernel))
          refine V.aload_n (q := 59) dX1_tell_58 rfl rfl ?_
          refine V.iload_n (q := 60) dX1_tell_59 rfl rfl ?_
          refine V.iload_n (q := 61) dX1_tell_60 rfl rfl ?_
          refine V.iload_n (q := 62) dX1_tell_61 rfl rfl ?_
          refine V.iload (q := 64) dX1_tell_62 rfl rfl ?_
          refine V.cvv4 (q := 67) dX1_tell_64 rfl kc_X1_63 (shT ht) (loT ht) rfl (hB.rm (by decide)) (Nat.le_of_ble_eq_true rfl) (c_add ht hn6 hT.n8 hn (a := a) (b := b) (c := c) (d := d)) (fun τ64 hp64 => ?_)
          rw [hp64]
          refine V.iconst (q := 68) (v := nI 1) dX1_tell_67 rfl (by decide +kernel) ?_
          exact V.ret_int hB dX1_tell_68 (by decide +kernel) ⟨_, rfl, Or.inr ⟨rfl, hn, c9, c15, (hT.add hn ha hb c9 c15).cg (fun f _ i _ => by unfold tellM; rw [if_neg (by omega)]), addS_fr⟩⟩
        · have hl := (hT.w (n - 1) (by omega)).2.2.2.2.2.1
          have hn1 : n - 1 < n := by omega
          refine V.isubN (q := 26) dX1_tell_25 rfl (by omega) ?_
          refine V.ist5 (q := 28) dX1_tell_26 rfl ?_
          refine V.aload_n (q := 29) dX1_tell_28 rfl rfl ?_
          refine V.iload (q := 31) dX1_tell_29 rfl rfl ?_
          refine V.cvi1 (q := 34) dX1_tell_31 rfl kc_X1_59 (shT ht) (loT ht) rfl (hB.rm (by decide)) (Nat.le_of_ble_eq_true rfl) (c_isS1 ht hT hn1) (fun r31 τ31 hp31 => ?_)
          obtain ⟨rfl, hz⟩ := hp31
          rw [hz]
          refine V.ifN_eq (t := 58) (q := 37) dX1_tell_34 (by decide) rfl (by omega) (fun c34 => absurd c34 (by decide +kernel)) (fun c34 => ?_)
          refine V.aload_n (q := 38) dX1_tell_37 rfl rfl ?_
          refine V.getR (q := 41) dX1_tell_38 rfl kf_X1_27 (shT ht) (loT ht) rfl ?_
          refine V.iload (q := 43) dX1_tell_41 rfl rfl ?_
          refine V.ialdN (q := 44) dX1_tell_43 rfl (shTa ht 6 (by decide) (by decide)) (loTa ht 6 (by decide)) (by omega) (by decide) (TA.a hT 5 (by decide) (by omega)) ?_
          refine V.ifN_ne (t := 58) (q := 47) dX1_tell_44 (by decide) rfl (by omega) (fun c44 => ?_) (fun c44 => ?_)
          · refine V.aload_n (q := 59) dX1_tell_58 rfl rfl ?_
            refine V.iload_n (q := 60) dX1_tell_59 rfl rfl ?_
            refine V.iload_n (q := 61) dX1_tell_60 rfl rfl ?_
            refine V.iload_n (q := 62) dX1_tell_61 rfl rfl ?_
            refine V.iload (q := 64) dX1_tell_62 rfl rfl ?_
            refine V.cvv4 (q := 67) dX1_tell_64 rfl kc_X1_63 (shT ht) (loT ht) rfl (hB.rm (by decide)) (Nat.le_of_ble_eq_true rfl) (c_add ht hn6 hT.n8 hn (a := a) (b := b) (c := c) (d := d)) (fun τ64 hp64 => ?_)
            rw [hp64]
            refine V.iconst (q := 68) (v := nI 1) dX1_tell_67 rfl (by decide +kernel) ?_
            exact V.ret_int hB dX1_tell_68 (by decide +kernel) ⟨_, rfl, Or.inr ⟨rfl, hn, c9, c15, (hT.add hn ha hb c9 c15).cg (fun f _ i _ => by unfold tellM; rw [if_neg (fun h9 => c44 h9.2)]), addS_fr⟩⟩
          · refine V.aload_n (q := 48) dX1_tell_47 rfl rfl ?_
            refine V.getR (q := 51) dX1_tell_48 rfl kf_X1_27 (shT ht) (loT ht) rfl ?_
            refine V.iload (q := 53) dX1_tell_51 rfl rfl ?_
            refine V.aload_n (q := 54) dX1_tell_53 rfl rfl ?_
            refine V.getI (q := 57) dX1_tell_54 rfl kf_X1_49 (shT ht) (loT ht) rfl (TA.n8 hT) ?_
            refine V.iastN (q := 58) dX1_tell_57 rfl (shTa ht 6 (by decide) (by decide)) (loTa ht 6 (by decide)) (by omega) (by decide) ?_
            refine V.aload_n (q := 59) dX1_tell_58 rfl rfl ?_
            refine V.iload_n (q := 60) dX1_tell_59 rfl rfl ?_
            refine V.iload_n (q := 61) dX1_tell_60 rfl rfl ?_
            refine V.iload_n (q := 62) dX1_tell_61 rfl rfl ?_
            refine V.iload (q := 64) dX1_tell_62 rfl rfl ?_
            refine V.cvv4 (q := 67) dX1_tell_64 rfl kc_X1_63 (shT ht) (loT ht) rfl (hB.rm (by decide)) (Nat.le_of_ble_eq_true rfl) (c_add ht hn6 (show w2 σ (t + 6) (n - 1) (nI n) t 8 = nI n by rw [w2_ne (by omega)]; exact hT.n8) hn (a := a) (b := b) (c := c) (d := d)) (fun τ64 hp64 => ?_)
            rw [hp64, addS_lk (by omega)]
            refine V.iconst (q := 68) (v := nI 1) dX1_tell_67 rfl (by decide +kernel) ?_
            exact V.ret_int hB dX1_tell_68 (by decide +kernel) ⟨_, rfl, Or.inr ⟨rfl, hn, c9, c15, ((hT.add hn ha hb c9 c15).wr (f := 5) (k := n - 1) (v := n) (by decide) (by omega) (by unfold okF; omega)).cg (fun f _ i _ => by unfold tellM; rw [if_pos ⟨e0, c44⟩]), addS_fr.w (by omega) (by omega)⟩⟩
      · refine V.iconst (q := 19) (v := nI 0) dX1_tell_18 rfl (by decide +kernel) ?_
        exact V.ret_int hB dX1_tell_19 (by decide +kernel) ⟨_, rfl, Or.inl ⟨rfl, rfl, Or.inr (Or.inr c15)⟩⟩

-- tellWhoMends(a, b), tellPence(a, v)
set_option maxHeartbeats 4000000 in
set_option maxRecDepth 100000 in
theorem c_tellWho {σ : Sg} {t n y z l : Nat} {τ : Nat → Nat → Nat} (ht : isT t) (hT : TA σ t n y z l τ) {a b : Nat} (ha : a ≤ 9) (hb : b ≤ 9) : Con 2 yX1_tellWhoMends cX1_tellWhoMends 3 (some .boolean) [.ref t, .int (nI a), .int (nI b)] σ (PI (fun r σ1 => (r = nI 0 ∧ σ1 = σ ∧ ¬ (a < n ∧ b < n)) ∨ (r = nI 1 ∧ a < n ∧ b < n ∧ TA σ1 t n y z l (setF τ 5 (upN (τ 5) a b)) ∧ Fr t σ σ1))) := by
  refine Con.of (by decide) (by simp [Value.category]) (Nat.le_of_ble_eq_true rfl) (fun x hB => ?_)
  show V x RX1 cX1_tellWhoMends 3 0 [some (.ref t), some (.int (nI a)), some (.int (nI b))] [] _
  have hn6 := hT.n6
  have hyb := hT.yb
  refine V.aload_n (q := 1) dX1_tellWhoMends_0 rfl rfl ?_
  refine V.iload_n (q := 2) dX1_tellWhoMends_1 rfl rfl ?_
  refine V.cvi1 (q := 5) dX1_tellWhoMends_2 rfl kc_X1_59 (shT ht) (loT ht) rfl (hB.rm (by decide)) (Nat.le_of_ble_eq_true rfl) (c_isStreet ht hT (nI a)) (fun r2 τ2 hp2 => ?_)
  obtain ⟨hz, ⟨rfl, hs⟩ | ⟨rfl, hs⟩⟩ := hp2
  · rw [hz]
    have ha1 := (sN_nI hn6 (by omega)).mp hs
    refine V.ifN_eq (t := 16) (q := 8) dX1_tellWhoMends_5 (by decide) rfl (by omega) (fun c5 => absurd c5 (by decide +kernel)) (fun c5 => ?_)
    refine V.aload_n (q := 9) dX1_tellWhoMends_8 rfl rfl ?_
    refine V.iload_n (q := 10) dX1_tellWhoMends_9 rfl rfl ?_
    refine V.cvi1 (q := 13) dX1_tellWhoMends_10 rfl kc_X1_59 (shT ht) (loT ht) rfl (hB.rm (by decide)) (Nat.le_of_ble_eq_true rfl) (c_isStreet ht hT (nI b)) (fun r10 τ10 hp10 => ?_)
    obtain ⟨hz, ⟨rfl, hs⟩ | ⟨rfl, hs⟩⟩ := hp10
    · rw [hz]
      have hb1 := (sN_nI hn6 (by omega)).mp hs
      refine V.ifN_ne (t := 18) (q := 16) dX1_tellWhoMends_13 (by decide) rfl (by omega) (fun c13 => ?_) (fun c13 => absurd c13 (by decide +kernel))
      refine V.aload_n (q := 19) dX1_tellWhoMends_18 rfl rfl ?_
      refine V.getR (q := 22) dX1_tellWhoMends_19 rfl kf_X1_27 (shT ht) (loT ht) rfl ?_
      refine V.iload_n (q := 23) dX1_tellWhoMends_22 rfl rfl ?_
      refine V.iload_n (q := 24) dX1_tellWhoMends_23 rfl rfl ?_
      refine V.iastN (q := 25) dX1_tellWhoMends_24 rfl (shTa ht 6 (by decide) (by decide)) (loTa ht 6 (by decide)) (by omega) (by decide) ?_
      refine V.iconst (q := 26) (v := nI 1) dX1_tellWhoMends_25 rfl (by decide +kernel) ?_
      exact V.ret_int hB dX1_tellWhoMends_26 (by decide +kernel) ⟨_, rfl, Or.inr ⟨rfl, ha1, hb1, hT.wr (f := 5) (by decide) ha1 (by unfold okF; omega), Fr.rf.w (by omega) (by omega)⟩⟩
    · rw [hz]
      have hb1 : ¬ b < n := fun h9 => hs ((sN_nI hn6 (by omega)).mpr h9)
      refine V.ifN_ne (t := 18) (q := 16) dX1_tellWhoMends_13 (by decide) rfl (by omega) (fun c13 => absurd c13 (by decide +kernel)) (fun c13 => ?_)
      refine V.iconst (q := 17) (v := nI 0) dX1_tellWhoMends_16 rfl (by decide +kernel) ?_
      exact V.ret_int hB dX1_tellWhoMends_17 (by decide +kernel) ⟨_, rfl, Or.inl ⟨rfl, rfl, by omega⟩⟩
  · rw [hz]
    have ha1 : ¬ a < n := fun h9 => hs ((sN_nI hn6 (by omega)).mpr h9)
    refine V.ifN_eq (t := 16) (q := 8) dX1_tellWhoMends_5 (by decide) rfl (by omega) (fun c5 => ?_) (fun c5 => absurd c5 (by decide +kernel))
    refine V.iconst (q := 17) (v := nI 0) dX1_tellWhoMends_16 rfl (by decide +kernel) ?_
    exact V.ret_int hB dX1_tellWhoMends_17 (by decide +kernel) ⟨_, rfl, Or.inl ⟨rfl, rfl, by omega⟩⟩

set_option maxHeartbeats 4000000 in
set_option maxRecDepth 100000 in
theorem c_tellPence {σ : Sg} {t n y z l : Nat} {τ : Nat → Nat → Nat} (ht : isT t) (hT : TA σ t n y z l τ) {a v : Nat} (ha : a ≤ 9) (hv : v ≤ 99) : Con 2 yX1_tellPence cX1_tellPence 3 (some .boolean) [.ref t, .int (nI a), .int (nI v)] σ (PI (fun r σ1 => (r = nI 0 ∧ σ1 = σ ∧ ¬ a < n) ∨ (r = nI 1 ∧ a < n ∧ TA σ1 t n y z l (setF τ 4 (upN (τ 4) a v)) ∧ Fr t σ σ1))) := by
  refine Con.of (by decide) (by simp [Value.category]) (Nat.le_of_ble_eq_true rfl) (fun x hB => ?_)
  show V x RX1 cX1_tellPence 3 0 [some (.ref t), some (.int (nI a)), some (.int (nI v))] [] _
  have hn6 := hT.n6
  have hyb := hT.yb
  refine V.aload_n (q := 1) dX1_tellPence_0 rfl rfl ?_
  refine V.iload_n (q := 2) dX1_tellPence_1 rfl rfl ?_
  refine V.cvi1 (q := 5) dX1_tellPence_2 rfl kc_X1_59 (shT ht) (loT ht) rfl (hB.rm (by decide)) (Nat.le_of_ble_eq_true rfl) (c_isStreet ht hT (nI a)) (fun r2 τ2 hp2 => ?_)
  obtain ⟨hz, ⟨rfl, hs⟩ | ⟨rfl, hs⟩⟩ := hp2
  · rw [hz]
    have ha1 := (sN_nI hn6 (by omega)).mp hs
    refine V.ifN_ne (t := 10) (q := 8) dX1_tellPence_5 (by decide) rfl (by omega) (fun c5 => ?_) (fun c5 => absurd c5 (by decide +kernel))
    refine V.aload_n (q := 11) dX1_tellPence_10 rfl rfl ?_
    refine V.getR (q := 14) dX1_tellPence_11 rfl kf_X1_24 (shT ht) (loT ht) rfl ?_
    refine V.iload_n (q := 15) dX1_tellPence_14 rfl rfl ?_
    refine V.iload_n (q := 16) dX1_tellPence_15 rfl rfl ?_
    refine V.iastN (q := 17) dX1_tellPence_16 rfl (shTa ht 5 (by decide) (by decide)) (loTa ht 5 (by decide)) (by omega) (by decide) ?_
    refine V.iconst (q := 18) (v := nI 1) dX1_tellPence_17 rfl (by decide +kernel) ?_
    exact V.ret_int hB dX1_tellPence_18 (by decide +kernel) ⟨_, rfl, Or.inr ⟨rfl, ha1, hT.wr (f := 4) (by decide) ha1 (by unfold okF; omega), Fr.rf.w (by omega) (by omega)⟩⟩
  · rw [hz]
    have ha1 : ¬ a < n := fun h9 => hs ((sN_nI hn6 (by omega)).mpr h9)
    refine V.ifN_ne (t := 10) (q := 8) dX1_tellPence_5 (by decide) rfl (by omega) (fun c5 => absurd c5 (by decide +kernel)) (fun c5 => ?_)
    refine V.iconst (q := 9) (v := nI 0) dX1_tellPence_8 rfl (by decide +kernel) ?_
    exact V.ret_int hB dX1_tellPence_9 (by decide +kernel) ⟨_, rfl, Or.inl ⟨rfl, rfl, ha1⟩⟩

-- putBehind(k, d)
set_option maxHeartbeats 4000000 in
set_option maxRecDepth 100000 in
theorem c_putBehind {σ : Sg} {t n y z l : Nat} {τ : Nat → Nat → Nat} (ht : isT t) (hT : TA σ t n y z l τ) {k d : Nat} (hk : k < n) (hn : n < 6) (hd : d ≤ 4) : Con 3 yX1_putBehind cX1_putBehind 4 none [.ref t, .int (nI k), .int (nI d)] σ (PV (fun σ1 => TA σ1 t (n + 1) y z l (putM n τ k d) ∧ Fr t σ σ1)) := by
  refine Con.of (by decide) (by simp [Value.category]) (Nat.le_of_ble_eq_true rfl) (fun x hB => ?_)
  show V x RX1 cX1_putBehind 4 0 [some (.ref t), some (.int (nI k)), some (.int (nI d)), none] [] _
  have hn6 := hT.n6
  have hyb := hT.yb
  refine V.aload_n (q := 1) dX1_putBehind_0 rfl rfl ?_
  refine V.cvi0 (q := 4) dX1_putBehind_1 rfl kc_X1_55 (shT ht) (loT ht) rfl (hB.rm (by decide)) (Nat.le_of_ble_eq_true rfl) (c_isF0 ht hT.n6 hT.n8 hn) (fun r1 τ1 hp1 => ?_)
  obtain ⟨rfl, hz⟩ := hp1
  rw [hz]
  refine V.ifN_ne (t := 15) (q := 7) dX1_putBehind_4 (by decide) rfl (by omega) (fun c4 => absurd c4 (by decide +kernel)) (fun c4 => ?_)
  refine V.aload_n (q := 8) dX1_putBehind_7 rfl rfl ?_
  refine V.iload_n (q := 9) dX1_putBehind_8 rfl rfl ?_
  refine V.cvi1 (q := 12) dX1_putBehind_9 rfl kc_X1_59 (shT ht) (loT ht) rfl (hB.rm (by decide)) (Nat.le_of_ble_eq_true rfl) (c_isS1 ht hT hk) (fun r9 τ9 hp9 => ?_)
  obtain ⟨rfl, hz⟩ := hp9
  rw [hz]
  refine V.ifN_ne (t := 16) (q := 15) dX1_putBehind_12 (by decide) rfl (by omega) (fun c12 => ?_) (fun c12 => absurd c12 (by decide +kernel))
  refine V.aload_n (q := 17) dX1_putBehind_16 rfl rfl ?_
  refine V.getI (q := 20) dX1_putBehind_17 rfl kf_X1_49 (shT ht) (loT ht) rfl (TA.n8 hT) ?_
  refine V.ist3 (q := 21) dX1_putBehind_20 rfl ?_
  refine V.aload_n (q := 22) dX1_putBehind_21 rfl rfl ?_
  refine V.iconst (q := 23) (v := nI 0) dX1_putBehind_22 rfl (by decide +kernel) ?_
  refine V.iconst (q := 24) (v := nI 0) dX1_putBehind_23 rfl (by decide +kernel) ?_
  refine V.iconst (q := 25) (v := nI 0) dX1_putBehind_24 rfl (by decide +kernel) ?_
  refine V.iload_n (q := 26) dX1_putBehind_25 rfl rfl ?_
  refine V.cvv4 (q := 29) dX1_putBehind_26 rfl kc_X1_63 (shT ht) (loT ht) rfl (hB.rm (by decide)) (Nat.le_of_ble_eq_true rfl) (c_add ht hn6 hT.n8 hn (a := 0) (b := 0) (c := 0) (d := d)) (fun τ26 hp26 => ?_)
  rw [hp26]
  have hT1 := hT.add (a := 0) (b := 0) (c := 0) hn (by decide) (by decide) (by decide) hd
  have hkn : k < n + 1 := by omega
  have hnn : n < n + 1 := by omega
  have hme := (hT.w k hk).2.2.2.2.2.1
  have ek : addM n τ 0 0 0 d 5 k = τ 5 k := by unfold addM; rw [if_neg (by omega)]
  refine V.aload_n (q := 30) dX1_putBehind_29 rfl rfl ?_
  refine V.getR (q := 33) dX1_putBehind_30 rfl kf_X1_24 (shT ht) (loT ht) rfl ?_
  refine V.iload_n (q := 34) dX1_putBehind_33 rfl rfl ?_
  refine V.iconst (q := 35) (v := nI 0) dX1_putBehind_34 rfl (by decide +kernel) ?_
  refine V.iastN (q := 36) dX1_putBehind_35 rfl (shTa ht 5 (by decide) (by decide)) (loTa ht 5 (by decide)) (by omega) (by decide) ?_
  have hT2 := hT1.wr (f := 4) (v := 0) (by decide) hnn (by unfold okF; omega)
  refine V.aload_n (q := 37) dX1_putBehind_36 rfl rfl ?_
  refine V.getR (q := 40) dX1_putBehind_37 rfl kf_X1_27 (shT ht) (loT ht) rfl ?_
  refine V.iload_n (q := 41) dX1_putBehind_40 rfl rfl ?_
  refine V.aload_n (q := 42) dX1_putBehind_41 rfl rfl ?_
  refine V.getR (q := 45) dX1_putBehind_42 rfl kf_X1_27 (shT ht) (loT ht) rfl ?_
  refine V.iload_n (q := 46) dX1_putBehind_45 rfl rfl ?_
  refine V.ialdN (q := 47) dX1_putBehind_46 rfl (shTa ht 6 (by decide) (by decide)) (loTa ht 6 (by decide)) (by omega) (by decide) (show _ = nI (addM n τ 0 0 0 d 5 k) from TA.a hT2 5 (by decide) hkn) ?_
  refine V.iastN (q := 48) dX1_putBehind_47 rfl (shTa ht 6 (by decide) (by decide)) (loTa ht 6 (by decide)) (by omega) (by decide) ?_
  have hT3 := hT2.wr (f := 5) (v := addM n τ 0 0 0 d 5 k) (by decide) hnn (by unfold okF; omega)
  refine V.aload_n (q := 49) dX1_putBehind_48 rfl rfl ?_
  refine V.getR (q := 52) dX1_putBehind_49 rfl kf_X1_27 (shT ht) (loT ht) rfl ?_
  refine V.iload_n (q := 53) dX1_putBehind_52 rfl rfl ?_
  refine V.iload_n (q := 54) dX1_putBehind_53 rfl rfl ?_
  refine V.iastN (q := 55) dX1_putBehind_54 rfl (shTa ht 6 (by decide) (by decide)) (loTa ht 6 (by decide)) (by omega) (by decide) ?_
  have hT4 := hT3.wr (f := 5) (v := n) (by decide) hkn (by unfold okF; omega)
  exact V.ret_v hB dX1_putBehind_55 ⟨rfl, ⟨hT4.cg (fun f hf i hi => by
      unfold putM setF upN
      by_cases hi9 : i = n
      · have hf2 : f = 0 ∨ f = 1 ∨ f = 2 ∨ f = 3 ∨ f = 4 ∨ f = 5 ∨ f = 6 := by omega
        rcases hf2 with rfl | rfl | rfl | rfl | rfl | rfl | rfl <;> simp [hi9, addM, adV, show ¬ n = k by omega, show ¬ k = n by omega]
      · have hf2 : f = 0 ∨ f = 1 ∨ f = 2 ∨ f = 3 ∨ f = 4 ∨ f = 5 ∨ f = 6 := by omega
        rcases hf2 with rfl | rfl | rfl | rfl | rfl | rfl | rfl <;> simp [hi9, addM]), ((addS_fr.w (by omega) (by omega)).w (by omega) (by omega)).w (by omega) (by omega)⟩⟩

-- copyFrom(u)
set_option maxHeartbeats 4000000 in
set_option maxRecDepth 100000 in
theorem c_copyFrom {σ : Sg} {t u n y z l : Nat} {τ : Nat → Nat → Nat} (ht : isT t) (hu : isT u) (htu : t ≠ u) (hT : TA σ u n y z l τ) : Con 1 yX1_copyFrom cX1_copyFrom 2 none [.ref t, .ref u] σ (PV (fun σ1 => TA σ1 t n y z l τ ∧ Fr t σ σ1)) := by
  refine Con.of (by decide) (by simp [Value.category]) (Nat.le_of_ble_eq_true rfl) (fun x hB => ?_)
  show V x RX1 cX1_copyFrom 2 0 [some (.ref t), some (.ref u)] [] _
  have hn6 := hT.n6
  have hyb := hT.yb
  have hap := isT_apart ht hu htu
  have hc0 : cpd σ σ t u 0 := cpd0
  refine V.aload_n (q := 1) dX1_copyFrom_0 rfl rfl ?_
  refine V.getR (q := 4) dX1_copyFrom_1 rfl kf_X1_9 (shT hu) (loT hu) rfl ?_
  refine V.iconst (q := 5) (v := nI 0) dX1_copyFrom_4 rfl (by decide +kernel) ?_
  refine V.aload_n (q := 6) dX1_copyFrom_5 rfl rfl ?_
  refine V.getR (q := 9) dX1_copyFrom_6 rfl kf_X1_9 (shT ht) (loT ht) rfl ?_
  refine V.iconst (q := 10) (v := nI 0) dX1_copyFrom_9 rfl (by decide +kernel) ?_
  refine V.bipush (q := 12) (v := nI 6) dX1_copyFrom_10 rfl (by decide +kernel) ?_
  refine V.copy6 (q := 15) dX1_copyFrom_12 rfl kc_X1_43 (hB.rm (by decide)) (Nat.le_of_ble_eq_true rfl) (shTa hu 1 (by decide) (by decide)) (loTa hu 1 (by decide)) (shTa ht 1 (by decide) (by decide)) (loTa ht 1 (by decide)) ?_
  refine V.nm (fun σ1 e1 => ?_)
  have hc1 := cpd_s 0 hap (by decide) hc0 e1
  refine V.aload_n (q := 16) dX1_copyFrom_15 rfl rfl ?_
  refine V.getR (q := 19) dX1_copyFrom_16 rfl kf_X1_15 (shT hu) (loT hu) rfl ?_
  refine V.iconst (q := 20) (v := nI 0) dX1_copyFrom_19 rfl (by decide +kernel) ?_
  refine V.aload_n (q := 21) dX1_copyFrom_20 rfl rfl ?_
  refine V.getR (q := 24) dX1_copyFrom_21 rfl kf_X1_15 (shT ht) (loT ht) rfl ?_
  refine V.iconst (q := 25) (v := nI 0) dX1_copyFrom_24 rfl (by decide +kernel) ?_
  refine V.bipush (q := 27) (v := nI 6) dX1_copyFrom_25 rfl (by decide +kernel) ?_
  refine V.copy6 (q := 30) dX1_copyFrom_27 rfl kc_X1_43 (hB.rm (by decide)) (Nat.le_of_ble_eq_true rfl) (shTa hu 2 (by decide) (by decide)) (loTa hu 2 (by decide)) (shTa ht 2 (by decide) (by decide)) (loTa ht 2 (by decide)) ?_
  refine V.nm (fun σ2 e2 => ?_)
  have hc2 := cpd_s 1 hap (by decide) hc1 e2
  refine V.aload_n (q := 31) dX1_copyFrom_30 rfl rfl ?_
  refine V.getR (q := 34) dX1_copyFrom_31 rfl kf_X1_18 (shT hu) (loT hu) rfl ?_
  refine V.iconst (q := 35) (v := nI 0) dX1_copyFrom_34 rfl (by decide +kernel) ?_
  refine V.aload_n (q := 36) dX1_copyFrom_35 rfl rfl ?_
  refine V.getR (q := 39) dX1_copyFrom_36 rfl kf_X1_18 (shT ht) (loT ht) rfl ?_
  refine V.iconst (q := 40) (v := nI 0) dX1_copyFrom_39 rfl (by decide +kernel) ?_
  refine V.bipush (q := 42) (v := nI 6) dX1_copyFrom_40 rfl (by decide +kernel) ?_
  refine V.copy6 (q := 45) dX1_copyFrom_42 rfl kc_X1_43 (hB.rm (by decide)) (Nat.le_of_ble_eq_true rfl) (shTa hu 3 (by decide) (by decide)) (loTa hu 3 (by decide)) (shTa ht 3 (by decide) (by decide)) (loTa ht 3 (by decide)) ?_
  refine V.nm (fun σ3 e3 => ?_)
  have hc3 := cpd_s 2 hap (by decide) hc2 e3
  refine V.aload_n (q := 46) dX1_copyFrom_45 rfl rfl ?_
  refine V.getR (q := 49) dX1_copyFrom_46 rfl kf_X1_21 (shT hu) (loT hu) rfl ?_
  refine V.iconst (q := 50) (v := nI 0) dX1_copyFrom_49 rfl (by decide +kernel) ?_
  refine V.aload_n (q := 51) dX1_copyFrom_50 rfl rfl ?_
  refine V.getR (q := 54) dX1_copyFrom_51 rfl kf_X1_21 (shT ht) (loT ht) rfl ?_
  refine V.iconst (q := 55) (v := nI 0) dX1_copyFrom_54 rfl (by decide +kernel) ?_
  refine V.bipush (q := 57) (v := nI 6) dX1_copyFrom_55 rfl (by decide +kernel) ?_
  refine V.copy6 (q := 60) dX1_copyFrom_57 rfl kc_X1_43 (hB.rm (by decide)) (Nat.le_of_ble_eq_true rfl) (shTa hu 4 (by decide) (by decide)) (loTa hu 4 (by decide)) (shTa ht 4 (by decide) (by decide)) (loTa ht 4 (by decide)) ?_
  refine V.nm (fun σ4 e4 => ?_)
  have hc4 := cpd_s 3 hap (by decide) hc3 e4
  refine V.aload_n (q := 61) dX1_copyFrom_60 rfl rfl ?_
  refine V.getR (q := 64) dX1_copyFrom_61 rfl kf_X1_24 (shT hu) (loT hu) rfl ?_
  refine V.iconst (q := 65) (v := nI 0) dX1_copyFrom_64 rfl (by decide +kernel) ?_
  refine V.aload_n (q := 66) dX1_copyFrom_65 rfl rfl ?_
  refine V.getR (q := 69) dX1_copyFrom_66 rfl kf_X1_24 (shT ht) (loT ht) rfl ?_
  refine V.iconst (q := 70) (v := nI 0) dX1_copyFrom_69 rfl (by decide +kernel) ?_
  refine V.bipush (q := 72) (v := nI 6) dX1_copyFrom_70 rfl (by decide +kernel) ?_
  refine V.copy6 (q := 75) dX1_copyFrom_72 rfl kc_X1_43 (hB.rm (by decide)) (Nat.le_of_ble_eq_true rfl) (shTa hu 5 (by decide) (by decide)) (loTa hu 5 (by decide)) (shTa ht 5 (by decide) (by decide)) (loTa ht 5 (by decide)) ?_
  refine V.nm (fun σ5 e5 => ?_)
  have hc5 := cpd_s 4 hap (by decide) hc4 e5
  refine V.aload_n (q := 76) dX1_copyFrom_75 rfl rfl ?_
  refine V.getR (q := 79) dX1_copyFrom_76 rfl kf_X1_27 (shT hu) (loT hu) rfl ?_
  refine V.iconst (q := 80) (v := nI 0) dX1_copyFrom_79 rfl (by decide +kernel) ?_
  refine V.aload_n (q := 81) dX1_copyFrom_80 rfl rfl ?_
  refine V.getR (q := 84) dX1_copyFrom_81 rfl kf_X1_27 (shT ht) (loT ht) rfl ?_
  refine V.iconst (q := 85) (v := nI 0) dX1_copyFrom_84 rfl (by decide +kernel) ?_
  refine V.bipush (q := 87) (v := nI 6) dX1_copyFrom_85 rfl (by decide +kernel) ?_
  refine V.copy6 (q := 90) dX1_copyFrom_87 rfl kc_X1_43 (hB.rm (by decide)) (Nat.le_of_ble_eq_true rfl) (shTa hu 6 (by decide) (by decide)) (loTa hu 6 (by decide)) (shTa ht 6 (by decide) (by decide)) (loTa ht 6 (by decide)) ?_
  refine V.nm (fun σ6 e6 => ?_)
  have hc6 := cpd_s 5 hap (by decide) hc5 e6
  refine V.aload_n (q := 91) dX1_copyFrom_90 rfl rfl ?_
  refine V.getR (q := 94) dX1_copyFrom_91 rfl kf_X1_30 (shT hu) (loT hu) rfl ?_
  refine V.iconst (q := 95) (v := nI 0) dX1_copyFrom_94 rfl (by decide +kernel) ?_
  refine V.aload_n (q := 96) dX1_copyFrom_95 rfl rfl ?_
  refine V.getR (q := 99) dX1_copyFrom_96 rfl kf_X1_30 (shT ht) (loT ht) rfl ?_
  refine V.iconst (q := 100) (v := nI 0) dX1_copyFrom_99 rfl (by decide +kernel) ?_
  refine V.bipush (q := 102) (v := nI 6) dX1_copyFrom_100 rfl (by decide +kernel) ?_
  refine V.copy6 (q := 105) dX1_copyFrom_102 rfl kc_X1_43 (hB.rm (by decide)) (Nat.le_of_ble_eq_true rfl) (shTa hu 7 (by decide) (by decide)) (loTa hu 7 (by decide)) (shTa ht 7 (by decide) (by decide)) (loTa ht 7 (by decide)) ?_
  refine V.nm (fun σ7 e7 => ?_)
  have hc7 := cpd_s 6 hap (by decide) hc6 e7
  have hU7 : TA σ7 u n y z l τ := hT.fr (fun o h1 h2 => hc7.1 o (by omega))
  refine V.aload_n (q := 106) dX1_copyFrom_105 rfl rfl ?_
  refine V.aload_n (q := 107) dX1_copyFrom_106 rfl rfl ?_
  refine V.getI (q := 110) dX1_copyFrom_107 rfl kf_X1_49 (shT hu) (loT hu) rfl (TA.n8 hU7) ?_
  refine V.putI (q := 113) dX1_copyFrom_110 rfl kp_X1_49 (shT ht) (loT ht) rfl rfl rfl ?_
  have hU8 := hU7.wo (o := t) (k := 8) (x := nI n) (fun h9 => by omega)
  refine V.aload_n (q := 114) dX1_copyFrom_113 rfl rfl ?_
  refine V.aload_n (q := 115) dX1_copyFrom_114 rfl rfl ?_
  refine V.getI (q := 118) dX1_copyFrom_115 rfl kf_X1_52 (shT hu) (loT hu) rfl (TA.n9 hU8) ?_
  refine V.putI (q := 121) dX1_copyFrom_118 rfl kp_X1_52 (shT ht) (loT ht) rfl rfl rfl ?_
  have hU9 := hU8.wo (o := t) (k := 9) (x := nI y) (fun h9 => by omega)
  refine V.aload_n (q := 122) dX1_copyFrom_121 rfl rfl ?_
  refine V.aload_n (q := 123) dX1_copyFrom_122 rfl rfl ?_
  refine V.getI (q := 126) dX1_copyFrom_123 rfl kf_X1_36 (shT hu) (loT hu) rfl (TA.n10 hU9) ?_
  refine V.putI (q := 129) dX1_copyFrom_126 rfl kp_X1_36 (shT ht) (loT ht) rfl rfl rfl ?_
  have hU10 := hU9.wo (o := t) (k := 10) (x := nz z) (fun h9 => by omega)
  refine V.aload_n (q := 130) dX1_copyFrom_129 rfl rfl ?_
  refine V.aload_n (q := 131) dX1_copyFrom_130 rfl rfl ?_
  refine V.getI (q := 134) dX1_copyFrom_131 rfl kf_X1_40 (shT hu) (loT hu) rfl (TA.n11 hU10) ?_
  refine V.putI (q := 137) dX1_copyFrom_134 rfl kp_X1_40 (shT ht) (loT ht) rfl rfl rfl ?_
  exact V.ret_v hB dX1_copyFrom_137 ⟨rfl, ⟨⟨hT.n6, hT.yb, by simp [w2_rd], by simp [w2_rd], by simp [w2_rd], by simp [w2_rd], fun f hf i hi => by
      rw [← hT.a f hf hi, w2_ne (by omega), w2_ne (by omega), w2_ne (by omega), w2_ne (by omega)]
      exact hc7.2 f hf i (by omega), hT.w⟩, fun o ho => by
      rw [w2_ne (by omega), w2_ne (by omega), w2_ne (by omega), w2_ne (by omega)]
      exact hc7.1 o ho⟩⟩
end
section
/-! the text "dltwmc", and its indexOf -/
def kbN (i : Nat) : Nat := [100, 108, 116, 119, 109, 99].getD i 0
theorem kb_all : ∀ i, i < 6 → (KByt.getD 0 []).getD i 0 = nI (kbN i) ∧ kbN i < 128 := by decide +kernel
theorem nI_one : nI 1 = 1 := by decide +kernel
def LkW (own : String) (idx : Nat) (y : MethodName) (cc : ByteArray) (nL : Nat) (ret : Option FieldType) (n : Nat) : Prop := LkV own idx y cc nL ret n ∧ y.cls = "java/lang/String"
section VS
variable {x : Cx} {own : String} {cc : ByteArray} {nL pc q : Nat} {L : List (Option Value)} {st : List Value} {σ : Sg}
theorem SF_sK {G : Gx} {A : Nat → Prop} {U : State} {H : Heap} (h : SF G A U H) : va_O "java/lang/String" (G.2.2.2 100) A U H ∧ va_OF "java/lang/String" "coder" "B" (.int 0) (G.2.2.2 100) A U H ∧ va_OF "java/lang/String" "value" "[B" (.ref (G.2.2.2 101)) (G.2.2.2 100) A U H ∧ va_T .byte (G.2.2.2 101) 6 (fun j => .int ((KByt.getD 0 []).getD j 0)) A U H := h.2.1.1 0 (by decide)
theorem V.ldcS0 (hd : decode cc pc = .ok (.ldc 43, 2)) (e : pc + 2 = q) (ho : own = RX0) (h : V x own cc nL q L (.ref 100 :: st) σ) : V x own cc nL pc L st σ := by
  intro hF H locs ls hP hS hl1
  subst ho
  exact va_ldcS hF.1 hF.2.1 hF.2.2.2.1 hF.2.2.2.2.2.2.2.1.2.2.1 hd (e ▸ h hF H locs ls hP hS hl1)
theorem V.ldcS2 (hd : decode cc pc = .ok (.ldc 178, 2)) (e : pc + 2 = q) (ho : own = RX2) (h : V x own cc nL q L (.ref 100 :: st) σ) : V x own cc nL pc L st σ := by
  intro hF H locs ls hP hS hl1
  subst ho
  exact va_ldcS hF.1 hF.2.1 hF.2.2.2.1 hF.2.2.2.2.2.2.2.1.2.2.2.1 hd (e ▸ h hF H locs ls hP hS hl1)
theorem V.getCod {idx : Nat} (hd : decode cc pc = .ok (.getfield idx, 3)) (e : pc + 3 = q) (hk : Cond.fieldLink own idx "java/lang/String" "coder" "B" ∈ WL) (h : V x own cc nL q L (.int (nI 0) :: st) σ) : V x own cc nL pc L (.ref 100 :: st) σ := by
  intro hF H locs ls hP hS hl1
  rw [nI_0] at h
  exact vk_getf hF.1 hF.2.1 (SF_sK hF.2.2.2.2.2.2.2.1).2.1 hS hF.2.2.2.1 (wl_hts hF hk) (fun _ h9 => h9) hd (e ▸ h hF H locs ls hP hS hl1)
theorem V.getVal {idx : Nat} (hd : decode cc pc = .ok (.getfield idx, 3)) (e : pc + 3 = q) (hk : Cond.fieldLink own idx "java/lang/String" "value" "[B" ∈ WL) (h : V x own cc nL q L (.ref 101 :: st) σ) : V x own cc nL pc L (.ref 100 :: st) σ := by
  intro hF H locs ls hP hS hl1
  exact vk_getf hF.1 hF.2.1 (SF_sK hF.2.2.2.2.2.2.2.1).2.2.1 hS hF.2.2.2.1 (wl_hts hF hk) (fun _ h9 => h9) hd (e ▸ h hF H locs ls hP hS hl1)
theorem V.getsC {idx : Nat} (hd : decode cc pc = .ok (.getstatic idx, 3)) (e : pc + 3 = q) (hk : Cond.fieldLink own idx "java/lang/String" "COMPACT_STRINGS" "Z" ∈ WL) (h : V x own cc nL q L (.int (nI 1) :: st) σ) : V x own cc nL pc L st σ := by
  intro hF H locs ls hP hS hl1
  rw [nI_one] at h
  exact va_gets hF.1 hF.2.1 hF.2.2.2.2.2.2.2.1.2.2.2.2 hS hF.2.2.2.1 (wl_hts hF hk) (fun _ h9 => h9) hd (e ▸ h hF H locs ls hP hS hl1)
theorem V.lenS (hd : decode cc pc = .ok (.arraylength, 1)) (e : pc + 1 = q) (h : V x own cc nL q L (.int (nI 6) :: st) σ) : V x own cc nL pc L (.ref 101 :: st) σ := by
  intro hF H locs ls hP hS hl1
  exact va_tlen hF.1 hF.2.1 (SF_sK hF.2.2.2.2.2.2.2.1).2.2.2 hS rfl hd (e ▸ h hF H locs ls hP hS hl1)
theorem V.baldS {i : Nat} (hd : decode cc pc = .ok (.baload, 1)) (e : pc + 1 = q) (hi : i < 6) (h : V x own cc nL q L (.int (nI (kbN i)) :: st) σ) : V x own cc nL pc L (.int (nI i) :: .ref 101 :: st) σ := by
  intro hF H locs ls hP hS hl1
  exact va_tb hF.1 hF.2.1 (SF_sK hF.2.2.2.2.2.2.2.1).2.2.2 hS (vp_in_nI hi (by omega)) (by rw [nI_clamp (by omega)]; exact congrArg Value.int (kb_all i hi).1) hd (e ▸ h hF H locs ls hP hS hl1)
theorem V.i2b {a v : Int32} (hd : decode cc pc = .ok (.i2b, 1)) (e : pc + 1 = q) (hv : a.toInt8.toInt32 = v) (h : V x own cc nL q L (.int v :: st) σ) : V x own cc nL pc L (.int a :: st) σ :=
  fun hF H locs ls hP hS hl => lv_i2b hF.1 hF.2.1 hd hv (e ▸ h hF H locs ls hP hS hl)
theorem V.callW {y : MethodName} {c2 : ByteArray} {n2 idx d n : Nat} {ret : Option FieldType} {As rest : List Value} {post : Option Value → Sg → Prop} (hd : decode cc pc = .ok (.invokevirtual idx, 3)) (hk : LkW own idx y c2 n2 ret n) (hn : As.length = n) (hR : Rm x d)
    (hcat : ((rest.map (abv (xG x).2.2.2)).map fun v => v.category).sum ≤ 8) (hst : st = As.reverse ++ .ref 100 :: rest) (hC : Con d y c2 n2 ret (.ref 100 :: As) σ post)
    (kk : ∀ (r : Option Value) (τ : Sg), post r τ → V x own cc nL (pc + 3) L (r.toList ++ rest) τ) : V x own cc nL pc L st σ := by
  intro hF H locs ls hP hS hl
  subst hst
  obtain ⟨⟨k1, k2, k3, k4, k5, k6, k7, k8, k9⟩, kc⟩ := hk
  have hG : GoodIn WL (wsV own idx y.cls y (Cond.code y c2 n2 ret :: WL)) := wl_good (fun _ h => h) (fun w hw => by
    unfold wsV at hw
    rcases List.mem_append.mp hw with h | h
    · rcases List.mem_cons.mp h with rfl | h
      · exact k1
      rcases List.mem_cons.mp h with rfl | h
      · exact k2
      rcases List.mem_cons.mp h with rfl | h
      · exact k3
      rcases List.mem_cons.mp h with rfl | h
      · exact k4
      cases h
    · rcases List.mem_cons.mp h with rfl | h
      · exact k5
      · exact h)
  have hcw := cwV (R := xR x) (args := xa x) (s := xs x) (rm := rmD d) (mc := 0) (ms := 0) n hF.2.2.2.2.1 hG rfl rfl rfl ⟨rfl, k7, k8, k9⟩ ⟨hR.1, by have := hR.2; show 8 + (n2 + 11) + 64 * d ≤ _; omega⟩
  have hrv := vk_recv (N := 1) (i := 0) hF.2.2.2.2.2.2.2.1.2.1 (by decide) hS
  rw [← kc] at hrv
  refine call_go hF hC hS hl (va_runV (As := As.map (abv (xG x).2.2.2)) (b := (xG x).2.2.2 100) (rest := rest.map (abv (xG x).2.2.2)) ⟨hF.1, hF.2.1, hF.2.2.1, hF.2.2.2.1, hF.2.2.2.2.1⟩ (hC (xl x) (xG x) H.size) hcw ⟨PC_blind, hrv, call_pc hF hP hS⟩ rfl (by rw [List.length_map]; exact hn) hl.1 ?_ (lv_room hcat) hd ⟨hF.2.2.2.2.2.2.2.2.2.1, hF.2.2.2.2.2.2.2.2.2.2⟩) kk
  show (As.reverse ++ .ref 100 :: rest).map (abv (xG x).2.2.2) = _
  rw [List.map_append, List.map_reverse]; rfl
theorem V.cw0 {y : MethodName} {c2 : ByteArray} {n2 idx d : Nat} {ret : Option FieldType} {rest : List Value} {v : Int32} (hd : decode cc pc = .ok (.invokevirtual idx, 3)) (e : pc + 3 = q) (hk : LkW own idx y c2 n2 ret 0) (hR : Rm x d) (hcat : ((rest.map (abv (xG x).2.2.2)).map fun v => v.category).sum ≤ 8) (hC : Con d y c2 n2 ret [.ref 100] σ (PI (fun r σ1 => r = v ∧ σ1 = σ)))
    (h : V x own cc nL q L (.int v :: rest) σ) : V x own cc nL pc L (.ref 100 :: rest) σ := V.callW (As := []) hd hk rfl hR hcat rfl hC (fun r τ hp => by
  obtain ⟨w, rfl, h1, h2⟩ := hp
  rw [h1, h2]; exact e ▸ h)
theorem V.cw1 {y : MethodName} {c2 : ByteArray} {n2 idx d : Nat} {ret : Option FieldType} {rest : List Value} {b0 : Value} {v : Int32} (hd : decode cc pc = .ok (.invokevirtual idx, 3)) (e : pc + 3 = q) (hk : LkW own idx y c2 n2 ret 1) (hR : Rm x d) (hcat : ((rest.map (abv (xG x).2.2.2)).map fun v => v.category).sum ≤ 8) (hC : Con d y c2 n2 ret [.ref 100, b0] σ (PI (fun r σ1 => r = v ∧ σ1 = σ)))
    (h : V x own cc nL q L (.int v :: rest) σ) : V x own cc nL pc L (b0 :: .ref 100 :: rest) σ := V.callW (As := [b0]) hd hk rfl hR hcat rfl hC (fun r τ hp => by
  obtain ⟨w, rfl, h1, h2⟩ := hp
  rw [h1, h2]; exact e ▸ h)
theorem V.cw2 {y : MethodName} {c2 : ByteArray} {n2 idx d : Nat} {ret : Option FieldType} {rest : List Value} {b0 b1 : Value} {v : Int32} (hd : decode cc pc = .ok (.invokevirtual idx, 3)) (e : pc + 3 = q) (hk : LkW own idx y c2 n2 ret 2) (hR : Rm x d) (hcat : ((rest.map (abv (xG x).2.2.2)).map fun v => v.category).sum ≤ 8) (hC : Con d y c2 n2 ret [.ref 100, b0, b1] σ (PI (fun r σ1 => r = v ∧ σ1 = σ)))
    (h : V x own cc nL q L (.int v :: rest) σ) : V x own cc nL pc L (b1 :: b0 :: .ref 100 :: rest) σ := V.callW (As := [b0, b1]) hd hk rfl hR hcat rfl hC (fun r τ hp => by
  obtain ⟨w, rfl, h1, h2⟩ := hp
  rw [h1, h2]; exact e ▸ h)
end VS
set_option maxRecDepth 20000 in
theorem kw_X0_45 : LkW RX0 45 yJ0_indexOf_0f7a4 cJ0_indexOf_0f7a4 2 (some .int) 1 := ⟨⟨wl_of 206 rfl rfl, wl_of 207 rfl rfl, wl_of 208 rfl rfl, wl_of 45 rfl rfl, wl_of 209 rfl rfl, by decide, by decide +kernel⟩, rfl⟩
set_option maxRecDepth 20000 in
theorem kw_X2_180 : LkW RX2 180 yJ0_indexOf_0f7a4 cJ0_indexOf_0f7a4 2 (some .int) 1 := ⟨⟨wl_of 308 rfl rfl, wl_of 207 rfl rfl, wl_of 208 rfl rfl, wl_of 45 rfl rfl, wl_of 209 rfl rfl, by decide, by decide +kernel⟩, rfl⟩
set_option maxRecDepth 20000 in
theorem kw_J0_633 : LkW RJ0 633 yJ0_indexOf_7cf53 cJ0_indexOf_7cf53 3 (some .int) 2 := ⟨⟨wl_of 210 rfl rfl, wl_of 211 rfl rfl, wl_of 212 rfl rfl, wl_of 45 rfl rfl, wl_of 213 rfl rfl, by decide, by decide +kernel⟩, rfl⟩
set_option maxRecDepth 20000 in
theorem kw_J0_492 : LkW RJ0 492 yJ0_isLatin1_aae02 cJ0_isLatin1_aae02 1 (some .boolean) 0 := ⟨⟨wl_of 214 rfl rfl, wl_of 215 rfl rfl, wl_of 216 rfl rfl, wl_of 45 rfl rfl, wl_of 217 rfl rfl, by decide, by decide +kernel⟩, rfl⟩
set_option maxRecDepth 20000 in
theorem kw_J0_505 : LkW RJ0 505 yJ0_length_8abf5 cJ0_length_8abf5 1 (some .int) 0 := ⟨⟨wl_of 220 rfl rfl, wl_of 221 rfl rfl, wl_of 222 rfl rfl, wl_of 45 rfl rfl, wl_of 223 rfl rfl, by decide, by decide +kernel⟩, rfl⟩
set_option maxRecDepth 20000 in
theorem kw_J0_335 : LkW RJ0 335 yJ0_coder_7d493 cJ0_coder_7d493 1 (some .byte) 0 := ⟨⟨wl_of 224 rfl rfl, wl_of 225 rfl rfl, wl_of 226 rfl rfl, wl_of 45 rfl rfl, wl_of 227 rfl rfl, by decide, by decide +kernel⟩, rfl⟩
set_option maxRecDepth 20000 in
theorem kw_J0_637 : LkS RJ0 637 yJ1_indexOf_4cfef cJ1_indexOf_4cfef 4 (some .int) 4 := ⟨wl_of 228 rfl rfl, wl_of 229 rfl rfl, wl_of 46 rfl rfl, wl_of 230 rfl rfl, by decide, by decide +kernel⟩
set_option maxRecDepth 20000 in
theorem kw_J1_88 : LkS RJ1 88 yJ1_canEncode_9a6ad cJ1_canEncode_9a6ad 1 (some .boolean) 1 := ⟨wl_of 231 rfl rfl, wl_of 232 rfl rfl, wl_of 46 rfl rfl, wl_of 233 rfl rfl, by decide, by decide +kernel⟩
set_option maxRecDepth 20000 in
theorem kw_J1_95 : LkS RJ1 95 yJ1_indexOfChar_4cfef cJ1_indexOfChar_4cfef 6 (some .int) 4 := ⟨wl_of 240 rfl rfl, wl_of 241 rfl rfl, wl_of 46 rfl rfl, wl_of 242 rfl rfl, by decide, by decide +kernel⟩
set_option maxRecDepth 20000 in
theorem kw_J1_92 : LkX RJ1 92 := ⟨wl_of 234 rfl rfl, kc_X1_87.2.1, kc_X1_87.2.2.1, kc_X1_87.2.2.2⟩
set_option maxRecDepth 20000 in
theorem kw_J1_38 : LkM RJ1 38 := ⟨wl_of 237 rfl rfl, kc_X1_78.2.1, kc_X1_78.2.2.1, kc_X1_78.2.2.2⟩
set_option maxRecDepth 20000 in
theorem kw_f38 : Cond.fieldLink RJ0 38 "java/lang/String" "COMPACT_STRINGS" "Z" ∈ WL := wl_of 218 rfl rfl
set_option maxRecDepth 20000 in
theorem kw_f15 : Cond.fieldLink RJ0 15 "java/lang/String" "coder" "B" ∈ WL := wl_of 863 rfl rfl
set_option maxRecDepth 20000 in
theorem kw_f9 : Cond.fieldLink RJ0 9 "java/lang/String" "value" "[B" ∈ WL := wl_of 864 rfl rfl
/-- the place of a letter in the text -/
def kdM (c : Nat) : Option Nat := if c = 100 then some 0 else if c = 108 then some 1 else if c = 116 then some 2 else if c = 119 then some 3 else if c = 109 then some 4 else if c = 99 then some 5 else none
def kdI (c : Nat) : Int32 := match kdM c with
  | some k => nI k
  | none => -1
theorem byte_all : ∀ c, c < 256 → ∀ i, i < 6 → (nI (kbN i) = (nI c).toInt8.toInt32 ↔ kbN i = c) := by decide +kernel
def ixK (c : Nat) : Nat → Option Nat
  | 0 => none
  | j + 1 => match ixK c j with
    | some o => some o
    | none => if kbN j = c then some j else none
theorem kd_all : ∀ c, c < 256 → (ixK c 6 = kdM c) := by decide +kernel
theorem ixK_up {c o a : Nat} (h : ixK c a = some o) : ∀ {b : Nat}, a ≤ b → ixK c b = some o
  | 0, hb => by have : a = 0 := by omega
                subst this; exact h
  | b + 1, hb => by
    rcases Nat.lt_or_ge b a with h1 | h1
    · have : a = b + 1 := by omega
      subst this; exact h
    · unfold ixK; rw [ixK_up h h1]
set_option maxHeartbeats 4000000 in
set_option maxRecDepth 100000 in
theorem c_ixChar {σ : Sg} {c : Nat} (hc : c < 256) : Con 1 yJ1_indexOfChar_4cfef cJ1_indexOfChar_4cfef 6 (some .int) [.ref 101, .int (nI c), .int (nI 0), .int (nI 6)] σ (PI (fun r σ1 => r = kdI c ∧ σ1 = σ)) := by
  refine Con.of (by decide) (by simp [Value.category]) (Nat.le_of_ble_eq_true rfl) (fun x hB => ?_)
  show V x RJ1 cJ1_indexOfChar_4cfef 6 0 [some (.ref 101), some (.int (nI c)), some (.int (nI 0)), some (.int (nI 6)), none, none] [] _
  refine V.iload_n (q := 1) dJ1_indexOfChar_4cfef_0 rfl rfl ?_
  refine V.i2b (q := 2) dJ1_indexOfChar_4cfef_1 rfl rfl ?_
  refine V.ist4 (q := 4) dJ1_indexOfChar_4cfef_2 rfl ?_
  refine V.iload_n (q := 5) dJ1_indexOfChar_4cfef_4 rfl rfl ?_
  refine V.ist5 (q := 7) dJ1_indexOfChar_4cfef_5 rfl ?_
  have loop : ∀ j, j ≤ 6 → ixK c j = none → V x RJ1 cJ1_indexOfChar_4cfef 6 7 [some (.ref 101), some (.int (nI c)), some (.int (nI 0)), some (.int (nI 6)), some (.int (nI c).toInt8.toInt32), some (.int (nI j))] [] σ := by
    refine down 6 (fun j hj ih hno => ?_)
    refine V.iload (q := 9) dJ1_indexOfChar_4cfef_7 rfl rfl ?_
    refine V.iload_n (q := 10) dJ1_indexOfChar_4cfef_9 rfl rfl ?_
    refine V.icmpN_ge (t := 31) (q := 13) dJ1_indexOfChar_4cfef_10 (by decide) rfl (by omega) (by omega) (fun c9 => ?_) (fun c9 => ?_)
    · have ej : j = 6 := by omega
      subst ej
      refine V.iconst (q := 32) (v := -1) dJ1_indexOfChar_4cfef_31 rfl (by decide +kernel) ?_
      exact V.ret_int hB dJ1_indexOfChar_4cfef_32 rfl ⟨_, rfl, by unfold kdI; rw [← kd_all c hc, hno], rfl⟩
    · refine V.aload_n (q := 14) dJ1_indexOfChar_4cfef_13 rfl rfl ?_
      refine V.iload (q := 16) dJ1_indexOfChar_4cfef_14 rfl rfl ?_
      refine V.baldS (q := 17) dJ1_indexOfChar_4cfef_16 rfl c9 ?_
      refine V.iload (q := 19) dJ1_indexOfChar_4cfef_17 rfl rfl ?_
      refine V.icmp_ne (t := 25) (q := 22) dJ1_indexOfChar_4cfef_19 (by decide) rfl (fun c19 => ?_) (fun c19 => ?_)
      · refine V.inc5 (q := 28) dJ1_indexOfChar_4cfef_25 rfl (inc1 _) ?_
        refine V.goto (q := 7) dJ1_indexOfChar_4cfef_28 (by decide) ?_
        refine ih c9 ?_
        unfold ixK; rw [hno]
        show (if kbN j = c then some j else none) = none
        rw [if_neg (fun h9 => c19 ((byte_all c hc j c9).mpr h9))]
      · refine V.iload (q := 24) dJ1_indexOfChar_4cfef_22 rfl rfl ?_
        have h1 : ixK c (j + 1) = some j := by
          unfold ixK; rw [hno]
          show (if kbN j = c then some j else none) = some j
          rw [if_pos ((byte_all c hc j c9).mp c19)]
        exact V.ret_int hB dJ1_indexOfChar_4cfef_24 rfl ⟨_, rfl, by unfold kdI; rw [← kd_all c hc, ixK_up h1 (show j + 1 ≤ 6 by omega)], rfl⟩
  exact loop 0 (by decide) rfl
set_option maxHeartbeats 4000000 in
theorem c_canEnc {σ : Sg} {c : Nat} (hc : c < 256) : Con 1 yJ1_canEncode_9a6ad cJ1_canEncode_9a6ad 1 (some .boolean) [.int (nI c)] σ (PI (fun r σ1 => r = nI 1 ∧ σ1 = σ)) := by
  refine Con.of (by decide) (by simp [Value.category]) (Nat.le_of_ble_eq_true rfl) (fun x hB => ?_)
  show V x RJ1 cJ1_canEncode_9a6ad 1 0 [some (.int (nI c))] [] _
  refine V.iload_n (q := 1) dJ1_canEncode_9a6ad_0 rfl rfl ?_
  refine V.ifN_lt (t := 15) (q := 4) dJ1_canEncode_9a6ad_1 (by decide) rfl (by omega) (fun c1 => absurd c1 (by omega)) (fun c1 => ?_)
  refine V.iload_n (q := 5) dJ1_canEncode_9a6ad_4 rfl rfl ?_
  refine V.sipush (q := 8) (v := nI 255) dJ1_canEncode_9a6ad_5 rfl (by decide +kernel) ?_
  refine V.icmpN_gt (t := 15) (q := 11) dJ1_canEncode_9a6ad_8 (by decide) rfl (by omega) (by omega) (fun c1 => absurd c1 (by omega)) (fun c1 => ?_)
  refine V.iconst (q := 12) (v := nI 1) dJ1_canEncode_9a6ad_11 rfl (by decide +kernel) ?_
  refine V.goto (q := 16) dJ1_canEncode_9a6ad_12 (by decide) ?_
  exact V.ret_int hB dJ1_canEncode_9a6ad_16 (by decide +kernel) ⟨_, rfl, rfl, rfl⟩
set_option maxHeartbeats 4000000 in
theorem c_ix4 {σ : Sg} {c : Nat} (hc : c < 256) : Con 2 yJ1_indexOf_4cfef cJ1_indexOf_4cfef 4 (some .int) [.ref 101, .int (nI c), .int (nI 0), .int (nI 6)] σ (PI (fun r σ1 => r = kdI c ∧ σ1 = σ)) := by
  refine Con.of (by decide) (by simp [Value.category]) (Nat.le_of_ble_eq_true rfl) (fun x hB => ?_)
  show V x RJ1 cJ1_indexOf_4cfef 4 0 [some (.ref 101), some (.int (nI c)), some (.int (nI 0)), some (.int (nI 6))] [] _
  refine V.iload_n (q := 1) dJ1_indexOf_4cfef_0 rfl rfl ?_
  refine V.csi1 (q := 4) dJ1_indexOf_4cfef_1 rfl kw_J1_88 (hB.rm (by decide)) (Nat.le_of_ble_eq_true rfl) (c_canEnc hc) (fun r1 τ1 hp1 => ?_)
  obtain ⟨rfl, hz⟩ := hp1
  rw [hz]
  refine V.ifN_ne (t := 9) (q := 7) dJ1_indexOf_4cfef_4 (by decide) rfl (by omega) (fun c1 => ?_) (fun c1 => absurd c1 (by decide))
  refine V.iload_n (q := 10) dJ1_indexOf_4cfef_9 rfl rfl ?_
  refine V.iconst (q := 11) (v := nI 0) dJ1_indexOf_4cfef_10 rfl (by decide +kernel) ?_
  refine V.max (q := 14) (v := nI 0) dJ1_indexOf_4cfef_11 rfl kw_J1_92 (hB.rm (by decide)) (Nat.le_of_ble_eq_true rfl) (by decide +kernel) ?_
  refine V.ist2 (q := 15) dJ1_indexOf_4cfef_14 rfl ?_
  refine V.iload_n (q := 16) dJ1_indexOf_4cfef_15 rfl rfl ?_
  refine V.aload_n (q := 17) dJ1_indexOf_4cfef_16 rfl rfl ?_
  refine V.lenS (q := 18) dJ1_indexOf_4cfef_17 rfl ?_
  refine V.min (q := 21) (v := nI 6) dJ1_indexOf_4cfef_18 rfl kw_J1_38 (hB.rm (by decide)) (Nat.le_of_ble_eq_true rfl) (by decide +kernel) ?_
  refine V.ist3 (q := 22) dJ1_indexOf_4cfef_21 rfl ?_
  refine V.iload_n (q := 23) dJ1_indexOf_4cfef_22 rfl rfl ?_
  refine V.iload_n (q := 24) dJ1_indexOf_4cfef_23 rfl rfl ?_
  refine V.icmpN_lt (t := 29) (q := 27) dJ1_indexOf_4cfef_24 (by decide) rfl (by decide) (by decide) (fun c1 => ?_) (fun c1 => absurd c1 (by decide))
  refine V.aload_n (q := 30) dJ1_indexOf_4cfef_29 rfl rfl ?_
  refine V.iload_n (q := 31) dJ1_indexOf_4cfef_30 rfl rfl ?_
  refine V.iload_n (q := 32) dJ1_indexOf_4cfef_31 rfl rfl ?_
  refine V.iload_n (q := 33) dJ1_indexOf_4cfef_32 rfl rfl ?_
  refine V.csi4 (q := 36) dJ1_indexOf_4cfef_33 rfl kw_J1_95 (hB.rm (by decide)) (Nat.le_of_ble_eq_true rfl) (c_ixChar hc) (fun r1 τ1 hp1 => ?_)
  obtain ⟨h1, hz⟩ := hp1
  rw [hz]
  exact V.ret_int hB dJ1_indexOf_4cfef_36 rfl ⟨_, rfl, h1, rfl⟩
set_option maxHeartbeats 4000000 in
theorem c_coder {σ : Sg} : Con 1 yJ0_coder_7d493 cJ0_coder_7d493 1 (some .byte) [.ref 100] σ (PI (fun r σ1 => r = nI 0 ∧ σ1 = σ)) := by
  refine Con.of (by decide) (by simp [Value.category]) (Nat.le_of_ble_eq_true rfl) (fun x hB => ?_)
  show V x RJ0 cJ0_coder_7d493 1 0 [some (.ref 100)] [] _
  refine V.getsC (q := 3) dJ0_coder_7d493_0 rfl kw_f38 ?_
  refine V.ifN_eq (t := 13) (q := 6) dJ0_coder_7d493_3 (by decide) rfl (by omega) (fun c1 => absurd c1 (by decide)) (fun c1 => ?_)
  refine V.aload_n (q := 7) dJ0_coder_7d493_6 rfl rfl ?_
  refine V.getCod (q := 10) dJ0_coder_7d493_7 rfl kw_f15 ?_
  refine V.goto (q := 14) dJ0_coder_7d493_10 (by decide) ?_
  exact V.ret_int hB dJ0_coder_7d493_14 (by decide +kernel) ⟨_, rfl, rfl, rfl⟩
set_option maxHeartbeats 4000000 in
theorem c_isLatin {σ : Sg} : Con 1 yJ0_isLatin1_aae02 cJ0_isLatin1_aae02 1 (some .boolean) [.ref 100] σ (PI (fun r σ1 => r = nI 1 ∧ σ1 = σ)) := by
  refine Con.of (by decide) (by simp [Value.category]) (Nat.le_of_ble_eq_true rfl) (fun x hB => ?_)
  show V x RJ0 cJ0_isLatin1_aae02 1 0 [some (.ref 100)] [] _
  refine V.getsC (q := 3) dJ0_isLatin1_aae02_0 rfl kw_f38 ?_
  refine V.ifN_eq (t := 17) (q := 6) dJ0_isLatin1_aae02_3 (by decide) rfl (by omega) (fun c1 => absurd c1 (by decide)) (fun c1 => ?_)
  refine V.aload_n (q := 7) dJ0_isLatin1_aae02_6 rfl rfl ?_
  refine V.getCod (q := 10) dJ0_isLatin1_aae02_7 rfl kw_f15 ?_
  refine V.ifN_ne (t := 17) (q := 13) dJ0_isLatin1_aae02_10 (by decide) rfl (by omega) (fun c1 => absurd rfl c1) (fun c1 => ?_)
  refine V.iconst (q := 14) (v := nI 1) dJ0_isLatin1_aae02_13 rfl (by decide +kernel) ?_
  refine V.goto (q := 18) dJ0_isLatin1_aae02_14 (by decide) ?_
  exact V.ret_int hB dJ0_isLatin1_aae02_18 (by decide +kernel) ⟨_, rfl, rfl, rfl⟩
set_option maxHeartbeats 4000000 in
theorem c_lenS {σ : Sg} : Con 2 yJ0_length_8abf5 cJ0_length_8abf5 1 (some .int) [.ref 100] σ (PI (fun r σ1 => r = nI 6 ∧ σ1 = σ)) := by
  refine Con.of (by decide) (by simp [Value.category]) (Nat.le_of_ble_eq_true rfl) (fun x hB => ?_)
  show V x RJ0 cJ0_length_8abf5 1 0 [some (.ref 100)] [] _
  refine V.aload_n (q := 1) dJ0_length_8abf5_0 rfl rfl ?_
  refine V.getVal (q := 4) dJ0_length_8abf5_1 rfl kw_f9 ?_
  refine V.lenS (q := 5) dJ0_length_8abf5_4 rfl ?_
  refine V.aload_n (q := 6) dJ0_length_8abf5_5 rfl rfl ?_
  refine V.cw0 (q := 9) dJ0_length_8abf5_6 rfl kw_J0_335 (hB.rm (by decide)) (Nat.le_of_ble_eq_true rfl) c_coder ?_
  refine V.ishr (q := 10) dJ0_length_8abf5_9 rfl ?_
  exact V.ret_int hB dJ0_length_8abf5_10 rfl ⟨_, rfl, by decide +kernel, rfl⟩
set_option maxHeartbeats 4000000 in
theorem c_ix7 {σ : Sg} {c : Nat} (hc : c < 256) : Con 3 yJ0_indexOf_7cf53 cJ0_indexOf_7cf53 3 (some .int) [.ref 100, .int (nI c), .int (nI 0)] σ (PI (fun r σ1 => r = kdI c ∧ σ1 = σ)) := by
  refine Con.of (by decide) (by simp [Value.category]) (Nat.le_of_ble_eq_true rfl) (fun x hB => ?_)
  show V x RJ0 cJ0_indexOf_7cf53 3 0 [some (.ref 100), some (.int (nI c)), some (.int (nI 0))] [] _
  refine V.aload_n (q := 1) dJ0_indexOf_7cf53_0 rfl rfl ?_
  refine V.cw0 (q := 4) dJ0_indexOf_7cf53_1 rfl kw_J0_492 (hB.rm (by decide)) (Nat.le_of_ble_eq_true rfl) c_isLatin ?_
  refine V.ifN_eq (t := 23) (q := 7) dJ0_indexOf_7cf53_4 (by decide) rfl (by omega) (fun c1 => absurd c1 (by decide)) (fun c1 => ?_)
  refine V.aload_n (q := 8) dJ0_indexOf_7cf53_7 rfl rfl ?_
  refine V.getVal (q := 11) dJ0_indexOf_7cf53_8 rfl kw_f9 ?_
  refine V.iload_n (q := 12) dJ0_indexOf_7cf53_11 rfl rfl ?_
  refine V.iload_n (q := 13) dJ0_indexOf_7cf53_12 rfl rfl ?_
  refine V.aload_n (q := 14) dJ0_indexOf_7cf53_13 rfl rfl ?_
  refine V.cw0 (q := 17) dJ0_indexOf_7cf53_14 rfl kw_J0_505 (hB.rm (by decide)) (Nat.le_of_ble_eq_true rfl) c_lenS ?_
  refine V.csi4 (q := 20) dJ0_indexOf_7cf53_17 rfl kw_J0_637 (hB.rm (by decide)) (Nat.le_of_ble_eq_true rfl) (c_ix4 hc) (fun r1 τ1 hp1 => ?_)
  obtain ⟨h1, hz⟩ := hp1
  rw [hz]
  refine V.goto (q := 36) dJ0_indexOf_7cf53_20 (by decide) ?_
  exact V.ret_int hB dJ0_indexOf_7cf53_36 rfl ⟨_, rfl, h1, rfl⟩
set_option maxHeartbeats 4000000 in
theorem c_ix {σ : Sg} {c : Nat} (hc : c < 256) : Con 4 yJ0_indexOf_0f7a4 cJ0_indexOf_0f7a4 2 (some .int) [.ref 100, .int (nI c)] σ (PI (fun r σ1 => r = kdI c ∧ σ1 = σ)) := by
  refine Con.of (by decide) (by simp [Value.category]) (Nat.le_of_ble_eq_true rfl) (fun x hB => ?_)
  show V x RJ0 cJ0_indexOf_0f7a4 2 0 [some (.ref 100), some (.int (nI c))] [] _
  refine V.aload_n (q := 1) dJ0_indexOf_0f7a4_0 rfl rfl ?_
  refine V.iload_n (q := 2) dJ0_indexOf_0f7a4_1 rfl rfl ?_
  refine V.iconst (q := 3) (v := nI 0) dJ0_indexOf_0f7a4_2 rfl (by decide +kernel) ?_
  refine V.cw2 (q := 6) dJ0_indexOf_0f7a4_3 rfl kw_J0_633 (hB.rm (by decide)) (Nat.le_of_ble_eq_true rfl) (c_ix7 hc) ?_
  exact V.ret_int hB dJ0_indexOf_0f7a4_6 rfl ⟨_, rfl, rfl, rfl⟩
end
section
/-! the text: object 37, its letters 38 -/
def TX (σ : Sg) (m : Nat) (cs : Nat → Nat) : Prop := m ≤ 64 ∧ σ 37 1 = nI m ∧ ∀ i, i < m → σ 38 i = nI (cs i) ∧ cs i < 256
theorem TX.n {σ : Sg} {m : Nat} {cs : Nat → Nat} (h : TX σ m cs) : σ 37 1 = nI m := h.2.1
def chA (m : Nat) (cs : Nat → Nat) (p : Nat) : Nat := if p < m then cs p else 0
theorem chA_lt {σ : Sg} {m : Nat} {cs : Nat → Nat} (h : TX σ m cs) (p : Nat) : chA m cs p < 256 := by
  unfold chA; split
  · exact (h.2.2 p (by assumption)).2
  · decide
def dgV (c : Nat) : Nat := if 48 ≤ c ∧ c ≤ 57 then c - 48 else 0
def dg2 (c1 c2 : Nat) : Nat := if 48 ≤ c2 ∧ c2 ≤ 57 then 10 * dgV c1 + dgV c2 else dgV c1
theorem dgV_le (c : Nat) : dgV c ≤ 9 := by unfold dgV; split <;> omega
theorem nar_char : ∀ c, c < 256 → narrow .char (.int (nI c)) = .int (nI c) := fun c hc => (pk_charN (by omega)).1
theorem vpn_all : ∀ c, c < 256 → vp_nar .char (nI c) = nI c := by decide +kernel
def dI : Option Nat → Int32
  | some k => nI k
  | none => -1
def du0 (c : Nat) : Option Nat := if c = 115 then some 1 else if c = 109 then some 3 else if c = 112 then some 6 else none
def dgO (c k : Nat) : Option Nat := if 48 ≤ c ∧ c ≤ 57 then some k else none
def duE (c : Nat) : Option Nat := if c = 59 then some 0 else none
/-- what is due behind a letter -/
def dueM (s c : Nat) : Option Nat :=
  if s = 0 then du0 c else if s = 1 then (if (kdM c).isSome = true then some 2 else none)
  else if s = 2 then dgO c 3 else if s = 3 then dgO c 4 else if s = 4 then dgO c 5 else if s = 6 then dgO c 7
  else if s = 7 then (if c = 44 then some 8 else none) else if s = 8 then dgO c 9
  else if s = 9 then (if 48 ≤ c ∧ c ≤ 57 then some 5 else duE c) else duE c
theorem dueM_le : ∀ c, c < 256 → ∀ s, s < 10 → ∀ k, dueM s c = some k → k < 10 := by
  intro c _ s hs k h
  unfold dueM du0 dgO duE at h
  repeat' split at h
  all_goals first | (cases h; decide) | cases h
theorem kd_neg : ∀ c, c < 256 → (kdI c < 0 ↔ ¬ (kdM c).isSome = true) := by decide +kernel
theorem osw_out {c : Nat} (hc : c < 256) (h1 : c ≠ 109) (h2 : c ≠ 112) (h3 : c ≠ 115) : Op.lookupswitch.offset [(109, 37), (112, 39), (115, 35)] 42 (nI c).toInt = 42 := by
  have e : ∀ k, k < 256 → c ≠ k → ¬ nI c = nI k := fun k hk hne h9 => hne ((nI_eq (by omega) (by omega)).mp h9)
  rw [lv_osw (e 109 (by decide) h1) (by decide +kernel), lv_osw (e 112 (by decide) h2) (by decide +kernel), lv_osw (e 115 (by decide) h3) (by decide +kernel)]
  rfl
-- isFull(), append(c), at(p)
set_option maxHeartbeats 4000000 in
set_option maxRecDepth 100000 in
theorem x_isFull {σ : Sg} {m : Nat} {cs : Nat → Nat} (hX : TX σ m cs) : Con 1 yX0_isFull cX0_isFull 1 (some .boolean) [.ref 37] σ (PI (fun r σ1 => σ1 = σ ∧ ((r = nI 1 ∧ m = 64) ∨ (r = nI 0 ∧ m < 64)))) := by
  refine Con.of (by decide) (by simp [Value.category]) (Nat.le_of_ble_eq_true rfl) (fun x hB => ?_)
  show V x RX0 cX0_isFull 1 0 [some (.ref 37)] [] _
  have hm := hX.1
  refine V.aload_n (q := 1) dX0_isFull_0 rfl rfl ?_
  refine V.getI (q := 4) dX0_isFull_1 rfl kf_X0_15 rfl (by decide) rfl (TX.n hX) ?_
  refine V.aload_n (q := 5) dX0_isFull_4 rfl rfl ?_
  refine V.getR (q := 8) dX0_isFull_5 rfl kf_X0_9 rfl (by decide) rfl ?_
  refine V.alen (q := 9) dX0_isFull_8 rfl rfl (by decide) ?_
  refine V.icmpN_lt (t := 16) (q := 12) dX0_isFull_9 (by decide) rfl (by omega) (by omega) (fun c9 => ?_) (fun c9 => ?_)
  · refine V.iconst (q := 17) (v := nI 0) dX0_isFull_16 rfl (by decide +kernel) ?_
    exact V.ret_int hB dX0_isFull_17 (by decide +kernel) ⟨_, rfl, ⟨rfl, Or.inr ⟨rfl, by omega⟩⟩⟩
  · refine V.iconst (q := 13) (v := nI 1) dX0_isFull_12 rfl (by decide +kernel) ?_
    refine V.goto (q := 17) dX0_isFull_13 (by decide) ?_
    exact V.ret_int hB dX0_isFull_17 (by decide +kernel) ⟨_, rfl, ⟨rfl, Or.inl ⟨rfl, by omega⟩⟩⟩

theorem TX.app {σ : Sg} {m c : Nat} {cs : Nat → Nat} (h : TX σ m cs) (hm : m < 64) (hc : c < 256) : TX (w2 (w2 σ 38 m (nI c)) 37 1 (nI (m + 1))) (m + 1) (upN cs m c) := by
  refine ⟨by omega, by simp [w2_rd], fun i hi => ?_⟩
  rw [w2_ne (by decide), w2_rd]
  unfold upN
  by_cases h9 : i = m
  · rw [if_pos ⟨rfl, h9⟩, if_pos h9]; exact ⟨rfl, hc⟩
  · rw [if_neg (fun q => h9 q.2), if_neg h9]; exact h.2.2 i (by omega)
set_option maxHeartbeats 4000000 in
set_option maxRecDepth 100000 in
theorem x_append {σ : Sg} {m : Nat} {cs : Nat → Nat} (hX : TX σ m cs) (hm : m < 64) {c : Nat} (hc : c < 256) : Con 2 yX0_append cX0_append 2 none [.ref 37, .int (nI c)] σ (PV (fun σ1 => σ1 = w2 (w2 σ 38 m (nI c)) 37 1 (nI (m + 1)))) := by
  refine Con.of (by decide) (by simp [Value.category]) (Nat.le_of_ble_eq_true rfl) (fun x hB => ?_)
  show V x RX0 cX0_append 2 0 [some (.ref 37), some (.int (nI c))] [] _
  refine V.aload_n (q := 1) dX0_append_0 rfl rfl ?_
  refine V.cvi0 (q := 4) dX0_append_1 rfl kc_X0_19 rfl (by decide) rfl (hB.rm (by decide)) (Nat.le_of_ble_eq_true rfl) (x_isFull hX) (fun r1 τ1 hp1 => ?_)
  obtain ⟨hz, ⟨rfl, hs⟩ | ⟨rfl, hs⟩⟩ := hp1
  · exact absurd hs (by omega)
  · rw [hz]
    refine V.ifN_ne (t := 27) (q := 7) dX0_append_4 (by decide) rfl (by omega) (fun c4 => absurd c4 (by decide +kernel)) (fun c4 => ?_)
    refine V.aload_n (q := 8) dX0_append_7 rfl rfl ?_
    refine V.getR (q := 11) dX0_append_8 rfl kf_X0_9 rfl (by decide) rfl ?_
    refine V.aload_n (q := 12) dX0_append_11 rfl rfl ?_
    refine V.getI (q := 15) dX0_append_12 rfl kf_X0_15 rfl (by decide) rfl (TX.n hX) ?_
    refine V.iload_n (q := 16) dX0_append_15 rfl rfl ?_
    refine V.castN (q := 17) dX0_append_16 rfl rfl (by decide) (by omega) (by decide) ?_
    rw [vpn_all c hc]
    refine V.aload_n (q := 18) dX0_append_17 rfl rfl ?_
    refine V.dup (q := 19) dX0_append_18 rfl rfl ?_
    refine V.getI (q := 22) dX0_append_19 rfl kf_X0_15 rfl (by decide) rfl (show _ = nI m by rw [w2_ne (by decide)]; exact hX.n) ?_
    refine V.iconst (q := 23) (v := nI 1) dX0_append_22 rfl (by decide +kernel) ?_
    refine V.iaddN (q := 24) dX0_append_23 rfl ?_
    refine V.putI (q := 27) dX0_append_24 rfl kp_X0_15 rfl (by decide) rfl rfl rfl ?_
    exact V.ret_v hB dX0_append_27 ⟨rfl, rfl⟩

set_option maxHeartbeats 4000000 in
set_option maxRecDepth 100000 in
theorem x_at {σ : Sg} {m : Nat} {cs : Nat → Nat} (hX : TX σ m cs) {p : Nat} (hp : p < 2 ^ 20) : Con 1 yX0_at cX0_at 2 (some .char) [.ref 37, .int (nI p)] σ (PI (fun r σ1 => r = nI (chA m cs p) ∧ σ1 = σ)) := by
  refine Con.of (by decide) (by simp [Value.category]) (Nat.le_of_ble_eq_true rfl) (fun x hB => ?_)
  show V x RX0 cX0_at 2 0 [some (.ref 37), some (.int (nI p))] [] _
  have hm := hX.1
  refine V.iload_n (q := 1) dX0_at_0 rfl rfl ?_
  refine V.ifN_lt (t := 30) (q := 4) dX0_at_1 (by decide) rfl (by omega) (fun c1 => absurd c1 (by omega)) (fun c1 => ?_)
  refine V.iload_n (q := 5) dX0_at_4 rfl rfl ?_
  refine V.aload_n (q := 6) dX0_at_5 rfl rfl ?_
  refine V.getI (q := 9) dX0_at_6 rfl kf_X0_15 rfl (by decide) rfl (TX.n hX) ?_
  refine V.icmpN_ge (t := 30) (q := 12) dX0_at_9 (by decide) rfl (by omega) (by omega) (fun c9 => ?_) (fun c9 => ?_)
  · refine V.iconst (q := 31) (v := nI 0) dX0_at_30 rfl (by decide +kernel) ?_
    exact V.ret_int hB dX0_at_31 (by decide +kernel) ⟨_, rfl, ⟨by unfold chA; rw [if_neg (by omega)], rfl⟩⟩
  · refine V.iload_n (q := 13) dX0_at_12 rfl rfl ?_
    refine V.aload_n (q := 14) dX0_at_13 rfl rfl ?_
    refine V.getR (q := 17) dX0_at_14 rfl kf_X0_9 rfl (by decide) rfl ?_
    refine V.alen (q := 18) dX0_at_17 rfl rfl (by decide) ?_
    refine V.icmpN_ge (t := 30) (q := 21) dX0_at_18 (by decide) rfl (by omega) (by omega) (fun c18 => absurd c18 (by omega)) (fun c18 => ?_)
    refine V.aload_n (q := 22) dX0_at_21 rfl rfl ?_
    refine V.getR (q := 25) dX0_at_22 rfl kf_X0_9 rfl (by decide) rfl ?_
    refine V.iload_n (q := 26) dX0_at_25 rfl rfl ?_
    refine V.caldN (q := 27) dX0_at_26 rfl rfl (by decide) (by omega) (by decide) (hX.2.2 p c9).1 ?_
    refine V.goto (q := 31) dX0_at_27 (by decide) ?_
    exact V.ret_int hB dX0_at_31 (nar_char _ (hX.2.2 p c9).2) ⟨_, rfl, ⟨by unfold chA; rw [if_pos c9], rfl⟩⟩

-- isDigit(c), digit(p), oneOrTwoDigits(p)
set_option maxHeartbeats 4000000 in
set_option maxRecDepth 100000 in
theorem x_isDigit {σ : Sg} {c : Nat} (hc : c < 256) : Con 1 yX0_isDigit cX0_isDigit 1 (some .boolean) [.int (nI c)] σ (PI (fun r σ1 => σ1 = σ ∧ ((r = nI 1 ∧ 48 ≤ c ∧ c ≤ 57) ∨ (r = nI 0 ∧ ¬ (48 ≤ c ∧ c ≤ 57))))) := by
  refine Con.of (by decide) (by simp [Value.category]) (Nat.le_of_ble_eq_true rfl) (fun x hB => ?_)
  show V x RX0 cX0_isDigit 1 0 [some (.int (nI c))] [] _
  refine V.iload_n (q := 1) dX0_isDigit_0 rfl rfl ?_
  refine V.bipush (q := 3) (v := nI 48) dX0_isDigit_1 rfl (by decide +kernel) ?_
  refine V.icmpN_lt (t := 16) (q := 6) dX0_isDigit_3 (by decide) rfl (by omega) (by omega) (fun c3 => ?_) (fun c3 => ?_)
  · refine V.iconst (q := 17) (v := nI 0) dX0_isDigit_16 rfl (by decide +kernel) ?_
    exact V.ret_int hB dX0_isDigit_17 (by decide +kernel) ⟨_, rfl, ⟨rfl, Or.inr ⟨rfl, by omega⟩⟩⟩
  · refine V.iload_n (q := 7) dX0_isDigit_6 rfl rfl ?_
    refine V.bipush (q := 9) (v := nI 57) dX0_isDigit_7 rfl (by decide +kernel) ?_
    refine V.icmpN_gt (t := 16) (q := 12) dX0_isDigit_9 (by decide) rfl (by omega) (by omega) (fun c9 => ?_) (fun c9 => ?_)
    · refine V.iconst (q := 17) (v := nI 0) dX0_isDigit_16 rfl (by decide +kernel) ?_
      exact V.ret_int hB dX0_isDigit_17 (by decide +kernel) ⟨_, rfl, ⟨rfl, Or.inr ⟨rfl, by omega⟩⟩⟩
    · refine V.iconst (q := 13) (v := nI 1) dX0_isDigit_12 rfl (by decide +kernel) ?_
      refine V.goto (q := 17) dX0_isDigit_13 (by decide) ?_
      exact V.ret_int hB dX0_isDigit_17 (by decide +kernel) ⟨_, rfl, ⟨rfl, Or.inl ⟨rfl, by omega⟩⟩⟩

set_option maxHeartbeats 4000000 in
set_option maxRecDepth 100000 in
theorem x_digit {σ : Sg} {m : Nat} {cs : Nat → Nat} (hX : TX σ m cs) {p : Nat} (hp : p < 2 ^ 20) : Con 2 yX0_digit cX0_digit 2 (some .int) [.ref 37, .int (nI p)] σ (PI (fun r σ1 => r = nI (dgV (chA m cs p)) ∧ σ1 = σ)) := by
  refine Con.of (by decide) (by simp [Value.category]) (Nat.le_of_ble_eq_true rfl) (fun x hB => ?_)
  show V x RX0 cX0_digit 2 0 [some (.ref 37), some (.int (nI p))] [] _
  have hm := hX.1
  refine V.aload_n (q := 1) dX0_digit_0 rfl rfl ?_
  refine V.iload_n (q := 2) dX0_digit_1 rfl rfl ?_
  refine V.cvi1 (q := 5) dX0_digit_2 rfl kc_X0_23 rfl (by decide) rfl (hB.rm (by decide)) (Nat.le_of_ble_eq_true rfl) (x_at hX hp) (fun r2 τ2 hp2 => ?_)
  obtain ⟨rfl, hz⟩ := hp2
  rw [hz]
  refine V.csi1 (q := 8) dX0_digit_5 rfl kc_X0_27 (hB.rm (by decide)) (Nat.le_of_ble_eq_true rfl) (x_isDigit (chA_lt hX p)) (fun r5 τ5 hp5 => ?_)
  obtain ⟨hz, ⟨rfl, hs⟩ | ⟨rfl, hs⟩⟩ := hp5
  · rw [hz]
    refine V.ifN_eq (t := 22) (q := 11) dX0_digit_8 (by decide) rfl (by omega) (fun c8 => absurd c8 (by decide +kernel)) (fun c8 => ?_)
    refine V.aload_n (q := 12) dX0_digit_11 rfl rfl ?_
    refine V.iload_n (q := 13) dX0_digit_12 rfl rfl ?_
    refine V.cvi1 (q := 16) dX0_digit_13 rfl kc_X0_23 rfl (by decide) rfl (hB.rm (by decide)) (Nat.le_of_ble_eq_true rfl) (x_at hX hp) (fun r13 τ13 hp13 => ?_)
    obtain ⟨rfl, hz⟩ := hp13
    rw [hz]
    refine V.bipush (q := 18) (v := nI 48) dX0_digit_16 rfl (by decide +kernel) ?_
    refine V.isubN (q := 19) dX0_digit_18 rfl (by omega) ?_
    refine V.goto (q := 23) dX0_digit_19 (by decide) ?_
    exact V.ret_int hB dX0_digit_23 rfl ⟨_, rfl, ⟨by unfold dgV; rw [if_pos hs], rfl⟩⟩
  · rw [hz]
    refine V.ifN_eq (t := 22) (q := 11) dX0_digit_8 (by decide) rfl (by omega) (fun c8 => ?_) (fun c8 => absurd c8 (by decide +kernel))
    refine V.iconst (q := 23) (v := nI 0) dX0_digit_22 rfl (by decide +kernel) ?_
    exact V.ret_int hB dX0_digit_23 rfl ⟨_, rfl, ⟨by unfold dgV; rw [if_neg hs], rfl⟩⟩

set_option maxHeartbeats 4000000 in
set_option maxRecDepth 100000 in
theorem x_digits {σ : Sg} {m : Nat} {cs : Nat → Nat} (hX : TX σ m cs) {p : Nat} (hp : p + 1 < 2 ^ 20) : Con 3 yX0_oneOrTwoDigits cX0_oneOrTwoDigits 3 (some .int) [.ref 37, .int (nI p)] σ (PI (fun r σ1 => r = nI (dg2 (chA m cs p) (chA m cs (p + 1))) ∧ σ1 = σ)) := by
  refine Con.of (by decide) (by simp [Value.category]) (Nat.le_of_ble_eq_true rfl) (fun x hB => ?_)
  show V x RX0 cX0_oneOrTwoDigits 3 0 [some (.ref 37), some (.int (nI p)), none] [] _
  have hm := hX.1
  refine V.aload_n (q := 1) dX0_oneOrTwoDigits_0 rfl rfl ?_
  refine V.iload_n (q := 2) dX0_oneOrTwoDigits_1 rfl rfl ?_
  refine V.cvi1 (q := 5) dX0_oneOrTwoDigits_2 rfl kc_X0_31 rfl (by decide) rfl (hB.rm (by decide)) (Nat.le_of_ble_eq_true rfl) (x_digit hX (show p < 2 ^ 20 by omega)) (fun r2 τ2 hp2 => ?_)
  obtain ⟨rfl, hz⟩ := hp2
  rw [hz]
  refine V.ist2 (q := 6) dX0_oneOrTwoDigits_5 rfl ?_
  refine V.aload_n (q := 7) dX0_oneOrTwoDigits_6 rfl rfl ?_
  refine V.iload_n (q := 8) dX0_oneOrTwoDigits_7 rfl rfl ?_
  refine V.iconst (q := 9) (v := nI 1) dX0_oneOrTwoDigits_8 rfl (by decide +kernel) ?_
  refine V.iaddN (q := 10) dX0_oneOrTwoDigits_9 rfl ?_
  refine V.cvi1 (q := 13) dX0_oneOrTwoDigits_10 rfl kc_X0_23 rfl (by decide) rfl (hB.rm (by decide)) (Nat.le_of_ble_eq_true rfl) (x_at hX hp) (fun r10 τ10 hp10 => ?_)
  obtain ⟨rfl, hz⟩ := hp10
  rw [hz]
  refine V.csi1 (q := 16) dX0_oneOrTwoDigits_13 rfl kc_X0_27 (hB.rm (by decide)) (Nat.le_of_ble_eq_true rfl) (x_isDigit (chA_lt hX (p + 1))) (fun r13 τ13 hp13 => ?_)
  obtain ⟨hz, ⟨rfl, hs⟩ | ⟨rfl, hs⟩⟩ := hp13
  · rw [hz]
    refine V.ifN_eq (t := 34) (q := 19) dX0_oneOrTwoDigits_16 (by decide) rfl (by omega) (fun c16 => absurd c16 (by decide +kernel)) (fun c16 => ?_)
    refine V.bipush (q := 21) (v := nI 10) dX0_oneOrTwoDigits_19 rfl (by decide +kernel) ?_
    refine V.iload_n (q := 22) dX0_oneOrTwoDigits_21 rfl rfl ?_
    refine V.imulN (q := 23) dX0_oneOrTwoDigits_22 rfl ?_
    refine V.aload_n (q := 24) dX0_oneOrTwoDigits_23 rfl rfl ?_
    refine V.iload_n (q := 25) dX0_oneOrTwoDigits_24 rfl rfl ?_
    refine V.iconst (q := 26) (v := nI 1) dX0_oneOrTwoDigits_25 rfl (by decide +kernel) ?_
    refine V.iaddN (q := 27) dX0_oneOrTwoDigits_26 rfl ?_
    refine V.cvi1 (q := 30) dX0_oneOrTwoDigits_27 rfl kc_X0_31 rfl (by decide) rfl (hB.rm (by decide)) (Nat.le_of_ble_eq_true rfl) (x_digit hX hp) (fun r27 τ27 hp27 => ?_)
    obtain ⟨rfl, hz⟩ := hp27
    rw [hz]
    refine V.iaddN (q := 31) dX0_oneOrTwoDigits_30 rfl ?_
    refine V.goto (q := 35) dX0_oneOrTwoDigits_31 (by decide) ?_
    exact V.ret_int hB dX0_oneOrTwoDigits_35 rfl ⟨_, rfl, ⟨by unfold dg2; rw [if_pos hs], rfl⟩⟩
  · rw [hz]
    refine V.ifN_eq (t := 34) (q := 19) dX0_oneOrTwoDigits_16 (by decide) rfl (by omega) (fun c16 => ?_) (fun c16 => absurd c16 (by decide +kernel))
    refine V.iload_n (q := 35) dX0_oneOrTwoDigits_34 rfl rfl ?_
    exact V.ret_int hB dX0_oneOrTwoDigits_35 rfl ⟨_, rfl, ⟨by unfold dg2; rw [if_neg hs], rfl⟩⟩

-- dueInStatement(c), dueBehind(s, c)
set_option maxHeartbeats 4000000 in
set_option maxRecDepth 100000 in
theorem x_due0 {σ : Sg} {c : Nat} (hc : c < 256) : Con 1 yX0_dueInStatement cX0_dueInStatement 1 (some .int) [.int (nI c)] σ (PI (fun r σ1 => r = dI (du0 c) ∧ σ1 = σ)) := by
  refine Con.of (by decide) (by simp [Value.category]) (Nat.le_of_ble_eq_true rfl) (fun x hB => ?_)
  show V x RX0 cX0_dueInStatement 1 0 [some (.int (nI c))] [] _
  refine V.iload_n (q := 1) dX0_dueInStatement_0 rfl rfl ?_
  rcases (show c = 115 ∨ c = 109 ∨ c = 112 ∨ (c ≠ 109 ∧ c ≠ 112 ∧ c ≠ 115) by omega) with e9 | e9 | e9 | e9
  · subst e9
    refine V.lookup (q := 36) (off := 35) dX0_dueInStatement_1 (by decide) (by decide +kernel) (by decide) ?_
    refine V.iconst (q := 37) (v := nI 1) dX0_dueInStatement_36 rfl (by decide +kernel) ?_
    exact V.ret_int hB dX0_dueInStatement_37 rfl ⟨_, rfl, ⟨rfl, rfl⟩⟩
  · subst e9
    refine V.lookup (q := 38) (off := 37) dX0_dueInStatement_1 (by decide) (by decide +kernel) (by decide) ?_
    refine V.iconst (q := 39) (v := nI 3) dX0_dueInStatement_38 rfl (by decide +kernel) ?_
    exact V.ret_int hB dX0_dueInStatement_39 rfl ⟨_, rfl, ⟨rfl, rfl⟩⟩
  · subst e9
    refine V.lookup (q := 40) (off := 39) dX0_dueInStatement_1 (by decide) (by decide +kernel) (by decide) ?_
    refine V.bipush (q := 42) (v := nI 6) dX0_dueInStatement_40 rfl (by decide +kernel) ?_
    exact V.ret_int hB dX0_dueInStatement_42 rfl ⟨_, rfl, ⟨rfl, rfl⟩⟩
  · refine V.lookup (q := 43) (off := 42) dX0_dueInStatement_1 (by decide) (osw_out hc e9.1 e9.2.1 e9.2.2) (by decide) ?_
    refine V.iconst (q := 44) (v := (-1)) dX0_dueInStatement_43 rfl (by decide +kernel) ?_
    exact V.ret_int hB dX0_dueInStatement_44 rfl ⟨_, rfl, ⟨by unfold du0; rw [if_neg e9.2.2, if_neg e9.1, if_neg e9.2.1]; rfl, rfl⟩⟩

set_option maxHeartbeats 4000000 in
set_option maxRecDepth 100000 in
theorem x_due5 {σ : Sg} {c : Nat} (hc : c < 256) : Con 5 yX0_dueBehind cX0_dueBehind 2 (some .int) [.int (nI 5), .int (nI c)] σ (PI (fun r σ1 => r = dI (duE c) ∧ σ1 = σ)) := by
  refine Con.of (by decide) (by simp [Value.category]) (Nat.le_of_ble_eq_true rfl) (fun x hB => ?_)
  show V x RX0 cX0_dueBehind 2 0 [some (.int (nI 5)), some (.int (nI c))] [] _
  refine V.iload_n (q := 1) dX0_dueBehind_0 rfl rfl ?_
  refine V.tableIn (q := 173) (off := 172) dX0_dueBehind_1 (by decide +kernel) (by decide +kernel) rfl (by decide) ?_
  refine V.iload_n (q := 174) dX0_dueBehind_173 rfl rfl ?_
  refine V.bipush (q := 176) (v := nI 59) dX0_dueBehind_174 rfl (by decide +kernel) ?_
  refine V.icmpN_ne (t := 183) (q := 179) dX0_dueBehind_176 (by decide) rfl (by omega) (by omega) (fun c176 => ?_) (fun c176 => ?_)
  · refine V.iconst (q := 184) (v := (-1)) dX0_dueBehind_183 rfl (by decide +kernel) ?_
    exact V.ret_int hB dX0_dueBehind_184 rfl ⟨_, rfl, ⟨by unfold duE; rw [if_neg c176]; rfl, rfl⟩⟩
  · refine V.iconst (q := 180) (v := nI 0) dX0_dueBehind_179 rfl (by decide +kernel) ?_
    refine V.goto (q := 184) dX0_dueBehind_180 (by decide) ?_
    exact V.ret_int hB dX0_dueBehind_184 rfl ⟨_, rfl, ⟨by unfold duE; rw [if_pos c176]; rfl, rfl⟩⟩

set_option maxHeartbeats 4000000 in
set_option maxRecDepth 100000 in
theorem x_due {σ : Sg} {c s : Nat} (hc : c < 256) (hs9 : s < 10) : Con 6 yX0_dueBehind cX0_dueBehind 2 (some .int) [.int (nI s), .int (nI c)] σ (PI (fun r σ1 => r = dI (dueM s c) ∧ σ1 = σ)) := by
  refine Con.of (by decide) (by simp [Value.category]) (Nat.le_of_ble_eq_true rfl) (fun x hB => ?_)
  show V x RX0 cX0_dueBehind 2 0 [some (.int (nI s)), some (.int (nI c))] [] _
  refine V.iload_n (q := 1) dX0_dueBehind_0 rfl rfl ?_
  rcases (show s = 0 ∨ s = 1 ∨ s = 2 ∨ s = 3 ∨ s = 4 ∨ s = 5 ∨ s = 6 ∨ s = 7 ∨ s = 8 ∨ s = 9 by omega) with es | es | es | es | es | es | es | es | es | es
  · subst es
    refine V.tableIn (q := 56) (off := 55) dX0_dueBehind_1 (by decide +kernel) (by decide +kernel) rfl (by decide) ?_
    refine V.iload_n (q := 57) dX0_dueBehind_56 rfl rfl ?_
    refine V.csi1 (q := 60) dX0_dueBehind_57 rfl kc_X0_39 (hB.rm (by decide)) (Nat.le_of_ble_eq_true rfl) (x_due0 hc) (fun r57 τ57 hp57 => ?_)
    obtain ⟨rfl, hz⟩ := hp57
    rw [hz]
    exact V.ret_int hB dX0_dueBehind_60 rfl ⟨_, rfl, ⟨rfl, rfl⟩⟩
  · subst es
    refine V.tableIn (q := 61) (off := 60) dX0_dueBehind_1 (by decide +kernel) (by decide +kernel) rfl (by decide) ?_
    refine V.ldcS0 (q := 63) dX0_dueBehind_61 rfl rfl ?_
    refine V.iload_n (q := 64) dX0_dueBehind_63 rfl rfl ?_
    refine V.cw1 (q := 67) dX0_dueBehind_64 rfl kw_X0_45 (hB.rm (by decide)) (Nat.le_of_ble_eq_true rfl) (c_ix hc) ?_
    refine V.if_lt (t := 74) (q := 70) dX0_dueBehind_67 (by decide) rfl  (fun c67 => ?_) (fun c67 => ?_)
    · refine V.iconst (q := 75) (v := (-1)) dX0_dueBehind_74 rfl (by decide +kernel) ?_
      exact V.ret_int hB dX0_dueBehind_75 rfl ⟨_, rfl, ⟨by simp [dueM, (kd_neg c hc).mp c67, dI], rfl⟩⟩
    · refine V.iconst (q := 71) (v := nI 2) dX0_dueBehind_70 rfl (by decide +kernel) ?_
      refine V.goto (q := 75) dX0_dueBehind_71 (by decide) ?_
      exact V.ret_int hB dX0_dueBehind_75 rfl ⟨_, rfl, ⟨by simp [dueM, Decidable.not_not.mp (fun h9 => c67 ((kd_neg c hc).mpr h9)), dI], rfl⟩⟩
  · subst es
    refine V.tableIn (q := 76) (off := 75) dX0_dueBehind_1 (by decide +kernel) (by decide +kernel) rfl (by decide) ?_
    refine V.iload_n (q := 77) dX0_dueBehind_76 rfl rfl ?_
    refine V.csi1 (q := 80) dX0_dueBehind_77 rfl kc_X0_27 (hB.rm (by decide)) (Nat.le_of_ble_eq_true rfl) (x_isDigit (hc)) (fun r77 τ77 hp77 => ?_)
    obtain ⟨hz, ⟨rfl, hs⟩ | ⟨rfl, hs⟩⟩ := hp77
    · rw [hz]
      refine V.ifN_eq (t := 87) (q := 83) dX0_dueBehind_80 (by decide) rfl (by omega) (fun c80 => absurd c80 (by decide +kernel)) (fun c80 => ?_)
      refine V.iconst (q := 84) (v := nI 3) dX0_dueBehind_83 rfl (by decide +kernel) ?_
      refine V.goto (q := 88) dX0_dueBehind_84 (by decide) ?_
      exact V.ret_int hB dX0_dueBehind_88 rfl ⟨_, rfl, ⟨by simp [dueM, dgO, hs, dI], rfl⟩⟩
    · rw [hz]
      refine V.ifN_eq (t := 87) (q := 83) dX0_dueBehind_80 (by decide) rfl (by omega) (fun c80 => ?_) (fun c80 => absurd c80 (by decide +kernel))
      refine V.iconst (q := 88) (v := (-1)) dX0_dueBehind_87 rfl (by decide +kernel) ?_
      exact V.ret_int hB dX0_dueBehind_88 rfl ⟨_, rfl, ⟨by simp [dueM, dgO, hs, dI], rfl⟩⟩
  · subst es
    refine V.tableIn (q := 89) (off := 88) dX0_dueBehind_1 (by decide +kernel) (by decide +kernel) rfl (by decide) ?_
    refine V.iload_n (q := 90) dX0_dueBehind_89 rfl rfl ?_
    refine V.csi1 (q := 93) dX0_dueBehind_90 rfl kc_X0_27 (hB.rm (by decide)) (Nat.le_of_ble_eq_true rfl) (x_isDigit (hc)) (fun r90 τ90 hp90 => ?_)
    obtain ⟨hz, ⟨rfl, hs⟩ | ⟨rfl, hs⟩⟩ := hp90
    · rw [hz]
      refine V.ifN_eq (t := 100) (q := 96) dX0_dueBehind_93 (by decide) rfl (by omega) (fun c93 => absurd c93 (by decide +kernel)) (fun c93 => ?_)
      refine V.iconst (q := 97) (v := nI 4) dX0_dueBehind_96 rfl (by decide +kernel) ?_
      refine V.goto (q := 101) dX0_dueBehind_97 (by decide) ?_
      exact V.ret_int hB dX0_dueBehind_101 rfl ⟨_, rfl, ⟨by simp [dueM, dgO, hs, dI], rfl⟩⟩
    · rw [hz]
      refine V.ifN_eq (t := 100) (q := 96) dX0_dueBehind_93 (by decide) rfl (by omega) (fun c93 => ?_) (fun c93 => absurd c93 (by decide +kernel))
      refine V.iconst (q := 101) (v := (-1)) dX0_dueBehind_100 rfl (by decide +kernel) ?_
      exact V.ret_int hB dX0_dueBehind_101 rfl ⟨_, rfl, ⟨by simp [dueM, dgO, hs, dI], rfl⟩⟩
  · subst es
    refine V.tableIn (q := 102) (off := 101) dX0_dueBehind_1 (by decide +kernel) (by decide +kernel) rfl (by decide) ?_
    refine V.iload_n (q := 103) dX0_dueBehind_102 rfl rfl ?_
    refine V.csi1 (q := 106) dX0_dueBehind_103 rfl kc_X0_27 (hB.rm (by decide)) (Nat.le_of_ble_eq_true rfl) (x_isDigit (hc)) (fun r103 τ103 hp103 => ?_)
    obtain ⟨hz, ⟨rfl, hs⟩ | ⟨rfl, hs⟩⟩ := hp103
    · rw [hz]
      refine V.ifN_eq (t := 113) (q := 109) dX0_dueBehind_106 (by decide) rfl (by omega) (fun c106 => absurd c106 (by decide +kernel)) (fun c106 => ?_)
      refine V.iconst (q := 110) (v := nI 5) dX0_dueBehind_109 rfl (by decide +kernel) ?_
      refine V.goto (q := 114) dX0_dueBehind_110 (by decide) ?_
      exact V.ret_int hB dX0_dueBehind_114 rfl ⟨_, rfl, ⟨by simp [dueM, dgO, hs, dI], rfl⟩⟩
    · rw [hz]
      refine V.ifN_eq (t := 113) (q := 109) dX0_dueBehind_106 (by decide) rfl (by omega) (fun c106 => ?_) (fun c106 => absurd c106 (by decide +kernel))
      refine V.iconst (q := 114) (v := (-1)) dX0_dueBehind_113 rfl (by decide +kernel) ?_
      exact V.ret_int hB dX0_dueBehind_114 rfl ⟨_, rfl, ⟨by simp [dueM, dgO, hs, dI], rfl⟩⟩
  · subst es
    refine V.tableIn (q := 173) (off := 172) dX0_dueBehind_1 (by decide +kernel) (by decide +kernel) rfl (by decide) ?_
    refine V.iload_n (q := 174) dX0_dueBehind_173 rfl rfl ?_
    refine V.bipush (q := 176) (v := nI 59) dX0_dueBehind_174 rfl (by decide +kernel) ?_
    refine V.icmpN_ne (t := 183) (q := 179) dX0_dueBehind_176 (by decide) rfl (by omega) (by omega) (fun c176 => ?_) (fun c176 => ?_)
    · refine V.iconst (q := 184) (v := (-1)) dX0_dueBehind_183 rfl (by decide +kernel) ?_
      exact V.ret_int hB dX0_dueBehind_184 rfl ⟨_, rfl, ⟨by simp [dueM, duE, c176, dI], rfl⟩⟩
    · refine V.iconst (q := 180) (v := nI 0) dX0_dueBehind_179 rfl (by decide +kernel) ?_
      refine V.goto (q := 184) dX0_dueBehind_180 (by decide) ?_
      exact V.ret_int hB dX0_dueBehind_184 rfl ⟨_, rfl, ⟨by simp [dueM, duE, c176, dI], rfl⟩⟩
  · subst es
    refine V.tableIn (q := 115) (off := 114) dX0_dueBehind_1 (by decide +kernel) (by decide +kernel) rfl (by decide) ?_
    refine V.iload_n (q := 116) dX0_dueBehind_115 rfl rfl ?_
    refine V.csi1 (q := 119) dX0_dueBehind_116 rfl kc_X0_27 (hB.rm (by decide)) (Nat.le_of_ble_eq_true rfl) (x_isDigit (hc)) (fun r116 τ116 hp116 => ?_)
    obtain ⟨hz, ⟨rfl, hs⟩ | ⟨rfl, hs⟩⟩ := hp116
    · rw [hz]
      refine V.ifN_eq (t := 127) (q := 122) dX0_dueBehind_119 (by decide) rfl (by omega) (fun c119 => absurd c119 (by decide +kernel)) (fun c119 => ?_)
      refine V.bipush (q := 124) (v := nI 7) dX0_dueBehind_122 rfl (by decide +kernel) ?_
      refine V.goto (q := 128) dX0_dueBehind_124 (by decide) ?_
      exact V.ret_int hB dX0_dueBehind_128 rfl ⟨_, rfl, ⟨by simp [dueM, dgO, hs, dI], rfl⟩⟩
    · rw [hz]
      refine V.ifN_eq (t := 127) (q := 122) dX0_dueBehind_119 (by decide) rfl (by omega) (fun c119 => ?_) (fun c119 => absurd c119 (by decide +kernel))
      refine V.iconst (q := 128) (v := (-1)) dX0_dueBehind_127 rfl (by decide +kernel) ?_
      exact V.ret_int hB dX0_dueBehind_128 rfl ⟨_, rfl, ⟨by simp [dueM, dgO, hs, dI], rfl⟩⟩
  · subst es
    refine V.tableIn (q := 129) (off := 128) dX0_dueBehind_1 (by decide +kernel) (by decide +kernel) rfl (by decide) ?_
    refine V.iload_n (q := 130) dX0_dueBehind_129 rfl rfl ?_
    refine V.bipush (q := 132) (v := nI 44) dX0_dueBehind_130 rfl (by decide +kernel) ?_
    refine V.icmpN_ne (t := 140) (q := 135) dX0_dueBehind_132 (by decide) rfl (by omega) (by omega) (fun c132 => ?_) (fun c132 => ?_)
    · refine V.iconst (q := 141) (v := (-1)) dX0_dueBehind_140 rfl (by decide +kernel) ?_
      exact V.ret_int hB dX0_dueBehind_141 rfl ⟨_, rfl, ⟨by simp [dueM, c132, dI], rfl⟩⟩
    · refine V.bipush (q := 137) (v := nI 8) dX0_dueBehind_135 rfl (by decide +kernel) ?_
      refine V.goto (q := 141) dX0_dueBehind_137 (by decide) ?_
      exact V.ret_int hB dX0_dueBehind_141 rfl ⟨_, rfl, ⟨by simp [dueM, c132, dI], rfl⟩⟩
  · subst es
    refine V.tableIn (q := 142) (off := 141) dX0_dueBehind_1 (by decide +kernel) (by decide +kernel) rfl (by decide) ?_
    refine V.iload_n (q := 143) dX0_dueBehind_142 rfl rfl ?_
    refine V.csi1 (q := 146) dX0_dueBehind_143 rfl kc_X0_27 (hB.rm (by decide)) (Nat.le_of_ble_eq_true rfl) (x_isDigit (hc)) (fun r143 τ143 hp143 => ?_)
    obtain ⟨hz, ⟨rfl, hs⟩ | ⟨rfl, hs⟩⟩ := hp143
    · rw [hz]
      refine V.ifN_eq (t := 154) (q := 149) dX0_dueBehind_146 (by decide) rfl (by omega) (fun c146 => absurd c146 (by decide +kernel)) (fun c146 => ?_)
      refine V.bipush (q := 151) (v := nI 9) dX0_dueBehind_149 rfl (by decide +kernel) ?_
      refine V.goto (q := 155) dX0_dueBehind_151 (by decide) ?_
      exact V.ret_int hB dX0_dueBehind_155 rfl ⟨_, rfl, ⟨by simp [dueM, dgO, hs, dI], rfl⟩⟩
    · rw [hz]
      refine V.ifN_eq (t := 154) (q := 149) dX0_dueBehind_146 (by decide) rfl (by omega) (fun c146 => ?_) (fun c146 => absurd c146 (by decide +kernel))
      refine V.iconst (q := 155) (v := (-1)) dX0_dueBehind_154 rfl (by decide +kernel) ?_
      exact V.ret_int hB dX0_dueBehind_155 rfl ⟨_, rfl, ⟨by simp [dueM, dgO, hs, dI], rfl⟩⟩
  · subst es
    refine V.tableIn (q := 156) (off := 155) dX0_dueBehind_1 (by decide +kernel) (by decide +kernel) rfl (by decide) ?_
    refine V.iload_n (q := 157) dX0_dueBehind_156 rfl rfl ?_
    refine V.csi1 (q := 160) dX0_dueBehind_157 rfl kc_X0_27 (hB.rm (by decide)) (Nat.le_of_ble_eq_true rfl) (x_isDigit (hc)) (fun r157 τ157 hp157 => ?_)
    obtain ⟨hz, ⟨rfl, hs⟩ | ⟨rfl, hs⟩⟩ := hp157
    · rw [hz]
      refine V.ifN_eq (t := 167) (q := 163) dX0_dueBehind_160 (by decide) rfl (by omega) (fun c160 => absurd c160 (by decide +kernel)) (fun c160 => ?_)
      refine V.iconst (q := 164) (v := nI 5) dX0_dueBehind_163 rfl (by decide +kernel) ?_
      refine V.goto (q := 172) dX0_dueBehind_164 (by decide) ?_
      exact V.ret_int hB dX0_dueBehind_172 rfl ⟨_, rfl, ⟨by simp [dueM, hs, dI], rfl⟩⟩
    · rw [hz]
      refine V.ifN_eq (t := 167) (q := 163) dX0_dueBehind_160 (by decide) rfl (by omega) (fun c160 => ?_) (fun c160 => absurd c160 (by decide +kernel))
      refine V.iconst (q := 168) (v := nI 5) dX0_dueBehind_167 rfl (by decide +kernel) ?_
      refine V.iload_n (q := 169) dX0_dueBehind_168 rfl rfl ?_
      refine V.csi2 (q := 172) dX0_dueBehind_169 rfl kc_X0_35 (hB.rm (by decide)) (Nat.le_of_ble_eq_true rfl) (x_due5 hc) (fun r169 τ169 hp169 => ?_)
      obtain ⟨rfl, hz⟩ := hp169
      rw [hz]
      exact V.ret_int hB dX0_dueBehind_172 rfl ⟨_, rfl, ⟨by simp [dueM, hs], rfl⟩⟩

-- formFault()
/-- from place p in state s: the place of the fault, or nothing -/
def dR (m : Nat) (cs : Nat → Nat) : Nat → Nat → Nat → Option Nat
  | 0, _, s => if s = 0 then none else some m
  | f + 1, p, s => if p < m then (match dueM s (cs p) with
      | none => some p
      | some k => dR m cs f (p + 1) k) else (if s = 0 then none else some m)
def ffM (m : Nat) (cs : Nat → Nat) : Int32 := if m = 0 then nI 0 else dI (dR m cs m 0 0)
theorem dR_n {m f p s : Nat} {cs : Nat → Nat} (h : p < m) (hd : dueM s (cs p) = none) : dR m cs (f + 1) p s = some p := by
  unfold dR; rw [if_pos h, hd]
theorem dR_k {m f p s k : Nat} {cs : Nat → Nat} (h : p < m) (hd : dueM s (cs p) = some k) : dR m cs (f + 1) p s = dR m cs f (p + 1) k := by
  conv => lhs; unfold dR
  rw [if_pos h, hd]
theorem ff_a {j s : Nat} {cs : Nat → Nat} (hs : s ≠ 0) (hr : dR j cs 0 j s = dR j cs j 0 0) : nI j = ffM j cs := by
  unfold ffM
  by_cases hm0 : j = 0
  · subst hm0; rw [if_pos rfl]
  · rw [if_neg hm0, ← hr]; unfold dR; rw [if_neg hs]; rfl
theorem ff_b {j : Nat} {cs : Nat → Nat} (h : j = 0) : nI j = ffM j cs := by
  subst h; unfold ffM; rw [if_pos rfl]
theorem ff_c {j s : Nat} {cs : Nat → Nat} (hj : j ≠ 0) (hs : s = 0) (hr : dR j cs 0 j s = dR j cs j 0 0) : -1 = ffM j cs := by
  unfold ffM
  rw [if_neg hj, ← hr]; unfold dR; rw [if_pos hs]; rfl
theorem dI_m1 {s : Nat} (hs : s < 2 ^ 31) : ¬ nI s = -1 := nI_m1 hs
set_option maxHeartbeats 4000000 in
set_option maxRecDepth 100000 in
theorem x_form {σ : Sg} {m : Nat} {cs : Nat → Nat} (hX : TX σ m cs) : Con 7 yX0_formFault cX0_formFault 3 (some .int) [.ref 37] σ (PI (fun r σ1 => r = ffM m cs ∧ σ1 = σ)) := by
  refine Con.of (by decide) (by simp [Value.category]) (Nat.le_of_ble_eq_true rfl) (fun x hB => ?_)
  show V x RX0 cX0_formFault 3 0 [some (.ref 37), none, none] [] _
  have hm := hX.1
  refine V.iconst (q := 1) (v := nI 0) dX0_formFault_0 rfl (by decide +kernel) ?_
  refine V.ist1 (q := 2) dX0_formFault_1 rfl ?_
  refine V.iconst (q := 3) (v := nI 0) dX0_formFault_2 rfl (by decide +kernel) ?_
  refine V.ist2 (q := 4) dX0_formFault_3 rfl ?_
  have loop : ∀ j, j ≤ m → ∀ s, s < 10 → dR m cs (m - j) j s = dR m cs m 0 0 → V x RX0 cX0_formFault 3 4 [some (.ref 37), some (.int (nI s)), some (.int (nI j))] [] σ := by
    refine down m (fun j hj ih s hs hr => ?_)
    refine V.iload_n (q := 5) dX0_formFault_4 rfl rfl ?_
    refine V.aload_n (q := 6) dX0_formFault_5 rfl rfl ?_
    refine V.getI (q := 9) dX0_formFault_6 rfl kf_X0_15 rfl (by decide) rfl (TX.n hX) ?_
    refine V.icmpN_ge (t := 35) (q := 12) dX0_formFault_9 (by decide) rfl (by omega) (by omega) (fun c9 => ?_) (fun c9 => ?_)
    · have ej : j = m := by omega
      subst ej
      rw [Nat.sub_self] at hr
      refine V.iload_n (q := 36) dX0_formFault_35 rfl rfl ?_
      refine V.ifN_ne (t := 50) (q := 39) dX0_formFault_36 (by decide) rfl (by omega) (fun c36 => ?_) (fun c36 => ?_)
      · refine V.aload_n (q := 51) dX0_formFault_50 rfl rfl ?_
        refine V.getI (q := 54) dX0_formFault_51 rfl kf_X0_15 rfl (by decide) rfl (TX.n hX) ?_
        exact V.ret_int hB dX0_formFault_54 rfl ⟨_, rfl, ⟨ff_a c36 hr, rfl⟩⟩
      · refine V.aload_n (q := 40) dX0_formFault_39 rfl rfl ?_
        refine V.getI (q := 43) dX0_formFault_40 rfl kf_X0_15 rfl (by decide) rfl (TX.n hX) ?_
        refine V.ifN_le (t := 50) (q := 46) dX0_formFault_43 (by decide) rfl (by omega) (fun c43 => ?_) (fun c43 => ?_)
        · refine V.aload_n (q := 51) dX0_formFault_50 rfl rfl ?_
          refine V.getI (q := 54) dX0_formFault_51 rfl kf_X0_15 rfl (by decide) rfl (TX.n hX) ?_
          exact V.ret_int hB dX0_formFault_54 rfl ⟨_, rfl, ⟨ff_b (by omega), rfl⟩⟩
        · refine V.iconst (q := 47) (v := (-1)) dX0_formFault_46 rfl (by decide +kernel) ?_
          refine V.goto (q := 54) dX0_formFault_47 (by decide) ?_
          exact V.ret_int hB dX0_formFault_54 rfl ⟨_, rfl, ⟨ff_c (by omega) c36 hr, rfl⟩⟩
    · have hlt := (hX.2.2 j c9).2
      have hch : chA m cs j = cs j := by unfold chA; rw [if_pos c9]
      have h9 : m - j = (m - (j + 1)) + 1 := by omega
      rw [h9] at hr
      refine V.iload_n (q := 13) dX0_formFault_12 rfl rfl ?_
      refine V.aload_n (q := 14) dX0_formFault_13 rfl rfl ?_
      refine V.iload_n (q := 15) dX0_formFault_14 rfl rfl ?_
      refine V.cvi1 (q := 18) dX0_formFault_15 rfl kc_X0_23 rfl (by decide) rfl (hB.rm (by decide)) (Nat.le_of_ble_eq_true rfl) (x_at hX (show j < 2 ^ 20 by omega)) (fun r15 τ15 hp15 => ?_)
      obtain ⟨rfl, hz⟩ := hp15
      rw [hz, hch]
      refine V.csi2 (q := 21) dX0_formFault_18 rfl kc_X0_35 (hB.rm (by decide)) (Nat.le_of_ble_eq_true rfl) (x_due hlt hs) (fun r18 τ18 hp18 => ?_)
      obtain ⟨rfl, hz⟩ := hp18
      rw [hz]
      rcases hdu : dueM s (cs j) with _ | k
      · rw [dR_n c9 hdu] at hr
        refine V.ist1 (q := 22) dX0_formFault_21 rfl ?_
        refine V.iload_n (q := 23) dX0_formFault_22 rfl rfl ?_
        refine V.iconst (q := 24) (v := (-1)) dX0_formFault_23 rfl (by decide +kernel) ?_
        refine V.icmp_ne (t := 29) (q := 27) dX0_formFault_24 (by decide) rfl  (fun c24 => absurd c24 (fun h9 => h9 rfl)) (fun c24 => ?_)
        refine V.iload_n (q := 28) dX0_formFault_27 rfl rfl ?_
        exact V.ret_int hB dX0_formFault_28 rfl ⟨_, rfl, ⟨by unfold ffM; rw [if_neg (by omega), ← hr]; rfl, rfl⟩⟩
      · rw [dR_k c9 hdu] at hr
        have hk := dueM_le _ hlt s hs k hdu
        refine V.ist1 (q := 22) dX0_formFault_21 rfl ?_
        refine V.iload_n (q := 23) dX0_formFault_22 rfl rfl ?_
        refine V.iconst (q := 24) (v := (-1)) dX0_formFault_23 rfl (by decide +kernel) ?_
        refine V.icmp_ne (t := 29) (q := 27) dX0_formFault_24 (by decide) rfl  (fun c24 => ?_) (fun c24 => absurd c24 (nI_m1 (by omega)))
        refine V.inc2 (q := 32) dX0_formFault_29 rfl (inc1 _) ?_
        refine V.goto (q := 4) dX0_formFault_32 (by decide) ?_
        exact ih c9 k hk hr
  exact loop 0 (Nat.zero_le _) 0 (by decide) rfl
end
section
/-! THE CLASS: what an object of it is, and what it answers, in plain words -/
def tn (v : Int32) : Nat := v.toNatClampNeg
theorem tn_nI {k : Nat} (h : k < 2 ^ 31) : tn (nI k) = k := nI_clamp h
def stN (v : Int32) (n : Nat) : Option Nat := if v < 0 then none else if tn v < n then some (tn v) else none
theorem stN_some {k n : Nat} (hk : k < n) (hn : n ≤ 1000) : stN (nI k) n = some k := by
  unfold stN; rw [if_neg (nI_pos (by omega)), tn_nI (by omega), if_pos hk]
theorem stN_none {v : Int32} {n : Nat} (h : ¬ sN v n) : stN v n = none := by
  unfold stN
  by_cases h0 : v < 0
  · rw [if_pos h0]
  · rw [if_neg h0]
    obtain ⟨j, hj, rfl⟩ := nI_of h0
    rw [tn_nI hj, if_neg (fun h9 => h ⟨j, h9, rfl⟩)]
def rfN (v : Int32) (a c : Nat) : Nat := if v < nI a then 4 else if nI c < v then 6 else 0
theorem rfN_in {j a c : Nat} (h1 : a ≤ j) (h2 : j ≤ c) (hc : c < 2 ^ 20) : rfN (nI j) a c = 0 := by
  unfold rfN; rw [if_neg (nI_nlt h1 (by omega)), if_neg (nI_nlt h2 (by omega))]
def rfq (v : Int32) (a c : Nat) (z : Int32) : Nat × Int32 := if rfN v a c = 0 then (0, z) else (rfN v a c, 0)
theorem rfq_in {j a c : Nat} {z : Int32} (h1 : a ≤ j) (h2 : j ≤ c) (hc : c < 2 ^ 20) : rfq (nI j) a c z = (0, z) := by
  unfold rfq; rw [rfN_in h1 h2 hc, if_pos rfl]
theorem rfq_4 {v : Int32} {a c : Nat} {z : Int32} (h : rfN v a c = 4) : rfq v a c z = (4, 0) := by
  unfold rfq; rw [h, if_neg (by decide)]
theorem rfq_6 {v : Int32} {a c : Nat} {z : Int32} (h : rfN v a c = 6) : rfq v a c z = (6, 0) := by
  unfold rfq; rw [h, if_neg (by decide)]
/-- what is answered, and how the refusals then are -/
def rA (q : Nat × Int32) : Int32 := if q.1 = 0 then q.2 else -(nI q.1)
def rU (rc : Nat → Nat) (q : Nat × Int32) : Nat → Nat := if q.1 = 0 then rc else upN rc q.1 (rc q.1 + 1)
def XR (σ : Sg) (n y : Nat) (τ : Nat → Nat → Nat) (fl n2 y2 : Nat) (τ2 : Nat → Nat → Nat) (m : Nat) (cs : Nat → Nat) (rl : Nat) (ro rc : Nat → Nat) : Prop :=
  (TA σ 1 n y 6 6 τ ∧ y ≤ 999) ∧ (σ 0 10 = nI fl ∧ fl ≤ 1 ∧ (fl = 1 → TA σ 10 n2 y2 6 6 τ2 ∧ y2 ≤ 999)) ∧ TX σ m cs ∧ (σ 0 9 = nI rl ∧ rl ≤ 6 ∧ ∀ i, i < rl → σ 41 i = nI (ro i) ∧ ro i ≤ 9) ∧ ∀ k, 1 ≤ k → k ≤ 6 → σ 42 k = nI (rc k)
def Fx (σ σ1 : Sg) : Prop := ∀ o, 43 ≤ o → σ1 o = σ o
/-- what is only in mind: trial, rival, map, bestOfMaps -/
def Fs (σ σ1 : Sg) : Prop := ∀ o, (o < 19 ∨ o = 37 ∨ o = 38 ∨ 41 ≤ o) → σ1 o = σ o
theorem Fs.rf {σ : Sg} : Fs σ σ := fun _ _ => rfl
theorem Fs.tr {σ σ1 σ2 : Sg} (h : Fs σ σ1) (h2 : Fs σ1 σ2) : Fs σ σ2 := fun o ho => (h2 o ho).trans (h o ho)
theorem Fs.of {t : Nat} {σ σ1 : Sg} (h : Fr t σ σ1) (ht : t = 19 ∨ t = 28) : Fs σ σ1 := fun o ho => h o (by omega)
theorem Fs.x {σ σ1 : Sg} (h : Fs σ σ1) : Fx σ σ1 := fun o ho => h o (by omega)
theorem Fs.w {σ σ1 : Sg} {o k : Nat} {v : Int32} (h : Fs σ σ1) (h1 : 19 ≤ o) (h2 : o < 41) (h3 : o ≠ 37) (h4 : o ≠ 38) : Fs σ (w2 σ1 o k v) := fun q hq => by
  rw [w2_ne (by omega)]; exact h q hq
theorem t1 : isT 1 := Or.inl rfl
theorem t10 : isT 10 := Or.inr (Or.inl rfl)
theorem t19 : isT 19 := Or.inr (Or.inr (Or.inl rfl))
theorem t28 : isT 28 := Or.inr (Or.inr (Or.inr rfl))
theorem TA.ot {σ σ1 : Sg} {t u n y z l : Nat} {τ : Nat → Nat → Nat} (h : TA σ u n y z l τ) (hF : Fr t σ σ1) (ha : t + 9 ≤ u ∨ u + 9 ≤ t) : TA σ1 u n y z l τ := h.fr (fun o h1 h2 => hF o (by omega))
section XRs
variable {σ σ1 : Sg} {n y : Nat} {τ : Nat → Nat → Nat} {fl n2 y2 : Nat} {τ2 : Nat → Nat → Nat} {m : Nat} {cs : Nat → Nat} {rl : Nat} {ro rc : Nat → Nat}
theorem XR.now (h : XR σ n y τ fl n2 y2 τ2 m cs rl ro rc) : TA σ 1 n y 6 6 τ := h.1.1
theorem XR.y9 (h : XR σ n y τ fl n2 y2 τ2 m cs rl ro rc) : y ≤ 999 := h.1.2
theorem XR.tx (h : XR σ n y τ fl n2 y2 τ2 m cs rl ro rc) : TX σ m cs := h.2.2.1
theorem XR.fl0 (h : XR σ n y τ fl n2 y2 τ2 m cs rl ro rc) : σ 0 10 = nI fl := h.2.1.1
theorem XR.rl0 (h : XR σ n y τ fl n2 y2 τ2 m cs rl ro rc) : σ 0 9 = nI rl := h.2.2.2.1.1
theorem XR.rl6 (h : XR σ n y τ fl n2 y2 τ2 m cs rl ro rc) : rl ≤ 6 := h.2.2.2.1.2.1
theorem XR.rw0 (h : XR σ n y τ fl n2 y2 τ2 m cs rl ro rc) {i : Nat} (hi : i < rl) : σ 41 i = nI (ro i) ∧ ro i ≤ 9 := h.2.2.2.1.2.2 i hi
theorem XR.rc0 (h : XR σ n y τ fl n2 y2 τ2 m cs rl ro rc) {k : Nat} (h1 : 1 ≤ k) (h6 : k ≤ 6) : σ 42 k = nI (rc k) := h.2.2.2.2 k h1 h6
theorem XR.fs (h : XR σ n y τ fl n2 y2 τ2 m cs rl ro rc) (hf : Fs σ σ1) : XR σ1 n y τ fl n2 y2 τ2 m cs rl ro rc := by
  obtain ⟨⟨a1, a2⟩, ⟨b1, b2, b3⟩, c, ⟨d1, d2, d3⟩, e⟩ := h
  refine ⟨⟨a1.fr (fun o h1 h2 => hf o (by omega)), a2⟩, ⟨by rw [hf 0 (by decide)]; exact b1, b2, fun h9 => ⟨(b3 h9).1.fr (fun o h1 h2 => hf o (by omega)), (b3 h9).2⟩⟩, ⟨c.1, by rw [hf 37 (by decide)]; exact c.2.1, by rw [hf 38 (by decide)]; exact c.2.2⟩, ⟨by rw [hf 0 (by decide)]; exact d1, d2, by rw [hf 41 (by decide)]; exact d3⟩, by rw [hf 42 (by decide)]; exact e⟩
theorem XR.rf (h : XR σ n y τ fl n2 y2 τ2 m cs rl ro rc) (k : Nat) : XR (w2 σ 42 k (nI (rc k + 1))) n y τ fl n2 y2 τ2 m cs rl ro (upN rc k (rc k + 1)) := by
  obtain ⟨⟨a1, a2⟩, ⟨b1, b2, b3⟩, c, ⟨d1, d2, d3⟩, e⟩ := h
  refine ⟨⟨a1.wo (fun h9 => by omega), a2⟩, ⟨by rw [w2_ne (by decide)]; exact b1, b2, fun h9 => ⟨(b3 h9).1.wo (fun h9 => by omega), (b3 h9).2⟩⟩, ⟨c.1, by rw [w2_ne (by decide)]; exact c.2.1, by rw [w2_ne (by decide)]; exact c.2.2⟩, ⟨by rw [w2_ne (by decide)]; exact d1, d2, by rw [w2_ne (by decide)]; exact d3⟩, fun j h1 h6 => ?_⟩
  rw [w2_rd]; unfold upN
  by_cases hj : j = k
  · rw [if_pos ⟨rfl, hj⟩, if_pos hj]
  · rw [if_neg (fun h9 => hj h9.2), if_neg hj]; exact e j h1 h6
theorem XR.wn {τ' : Nat → Nat → Nat} {n' y' : Nat} (h : XR σ n y τ fl n2 y2 τ2 m cs rl ro rc) (hT : TA σ1 1 n' y' 6 6 τ') (hy : y' ≤ 999) (hF : ∀ o, (o < 1 ∨ (10 ≤ o ∧ o < 19) ∨ o = 37 ∨ o = 38 ∨ 41 ≤ o) → σ1 o = σ o) : XR σ1 n' y' τ' fl n2 y2 τ2 m cs rl ro rc := by
  obtain ⟨⟨a1, a2⟩, ⟨b1, b2, b3⟩, c, ⟨d1, d2, d3⟩, e⟩ := h
  exact ⟨⟨hT, hy⟩, ⟨by rw [hF 0 (by decide)]; exact b1, b2, fun h9 => ⟨(b3 h9).1.fr (fun o h1 h2 => hF o (by omega)), (b3 h9).2⟩⟩, ⟨c.1, by rw [hF 37 (by decide)]; exact c.2.1, by rw [hF 38 (by decide)]; exact c.2.2⟩, ⟨by rw [hF 0 (by decide)]; exact d1, d2, by rw [hF 41 (by decide)]; exact d3⟩, by rw [hF 42 (by decide)]; exact e⟩
/-- the end of a call that only asks -/
def XP (σ : Sg) (n y : Nat) (τ : Nat → Nat → Nat) (fl n2 y2 : Nat) (τ2 : Nat → Nat → Nat) (m : Nat) (cs : Nat → Nat) (rl : Nat) (ro rc : Nat → Nat) (q : Nat × Int32) : Int32 → Sg → Prop := fun r σ1 => r = rA q ∧ XR σ1 n y τ fl n2 y2 τ2 m cs rl ro (rU rc q) ∧ Fx σ σ1
theorem XP.no {q : Nat × Int32} {k : Nat} {v : Int32} (h : XR σ n y τ fl n2 y2 τ2 m cs rl ro rc) (hq : q = (k, 0)) (hk : 0 < k) (hv : v = -(nI k)) : XP σ n y τ fl n2 y2 τ2 m cs rl ro rc q v (w2 σ 42 k (nI (rc k + 1))) := by
  subst hq
  have hk0 : ¬ k = 0 := by omega
  refine ⟨?_, ?_, fun o ho => w2_ne (by omega)⟩
  · show v = if k = 0 then 0 else -(nI k)
    rw [if_neg hk0]; exact hv
  · show XR _ n y τ fl n2 y2 τ2 m cs rl ro (if k = 0 then rc else upN rc k (rc k + 1))
    rw [if_neg hk0]; exact h.rf k
theorem XP.yes {q : Nat × Int32} {v : Int32} (h : XR σ n y τ fl n2 y2 τ2 m cs rl ro rc) (hF : Fs σ σ1) (hq : q = (0, v)) : XP σ n y τ fl n2 y2 τ2 m cs rl ro rc q v σ1 := by
  subst hq
  exact ⟨rfl, h.fs hF, hF.x⟩
end XRs
/-- the first of the numbers below j of which it holds -/
def fsK (P : Nat → Bool) : Nat → Option Nat
  | 0 => none
  | j + 1 => match fsK P j with
    | some o => some o
    | none => if P j = true then some j else none
theorem fsK_up {P : Nat → Bool} {o a : Nat} (h : fsK P a = some o) : ∀ {b : Nat}, a ≤ b → fsK P b = some o
  | 0, hb => by have : a = 0 := by omega
                subst this; exact h
  | b + 1, hb => by
    rcases Nat.lt_or_ge b a with h1 | h1
    · have : a = b + 1 := by omega
      subst this; exact h
    · unfold fsK; rw [fsK_up h h1]
theorem fsK_y {P : Nat → Bool} {j : Nat} (h : fsK P j = none) (hp : P j = true) : fsK P (j + 1) = some j := by
  unfold fsK; rw [h]; simp [hp]
theorem fsK_n {P : Nat → Bool} {j : Nat} (h : fsK P j = none) (hp : ¬ P j = true) : fsK P (j + 1) = none := by
  unfold fsK; rw [h]; simp [hp]
theorem fsK_lt {P : Nat → Bool} {o : Nat} : ∀ {a : Nat}, fsK P a = some o → o < a ∧ P o = true
  | 0, h => by cases h
  | a + 1, h => by
    unfold fsK at h
    cases h1 : fsK P a with
    | some q =>
      rw [h1] at h
      have h2 : q = o := by simpa using h
      subst h2
      have := fsK_lt h1
      exact ⟨by omega, this.2⟩
    | none =>
      rw [h1] at h
      by_cases hc : P a = true
      · simp [hc] at h; subst h; exact ⟨by omega, hc⟩
      · simp [hc] at h
theorem fsK_no {P : Nat → Bool} : ∀ {a : Nat}, fsK P a = none → ∀ i, i < a → ¬ P i = true
  | 0, _, i, hi => absurd hi (by omega)
  | a + 1, h, i, hi => by
    unfold fsK at h
    cases h1 : fsK P a with
    | some q => rw [h1] at h; simp at h
    | none =>
      rw [h1] at h
      by_cases hc : P a = true
      · simp [hc] at h
      · rcases Nat.lt_or_ge i a with h2 | h2
        · exact fsK_no h1 i h2
        · have : i = a := by omega
          subst this; exact hc
def oI (d : Int32) : Option Nat → Int32
  | some k => nI k
  | none => d
def alB (n : Nat) (τ υ : Nat → Nat → Nat) : Bool := (List.range n).all (fun i => decide (τ 1 i = υ 1 i ∧ τ 6 i = υ 6 i))
theorem alB_iff {n : Nat} {τ υ : Nat → Nat → Nat} : alB n τ υ = true ↔ alike n τ υ := by
  unfold alB alike
  rw [List.all_eq_true]
  constructor
  · intro h i hi; exact of_decide_eq_true (h i (List.mem_range.mpr hi))
  · intro h i hi; exact decide_eq_true (h i (List.mem_range.mp hi))
def onB (n : Nat) (me : Nat → Nat) (i : Nat) : Bool := (List.range n).any (fun k => decide (itr me (k + 1) i = i))
theorem onB_iff {n : Nat} {me : Nat → Nat} {i : Nat} : onB n me i = true ↔ onR n me i := by
  unfold onB onR
  rw [List.any_eq_true]
  constructor
  · rintro ⟨k, hk, h⟩; exact ⟨k, List.mem_range.mp hk, of_decide_eq_true h⟩
  · rintro ⟨k, hk, h⟩; exact ⟨k, List.mem_range.mpr hk, decide_eq_true h⟩
def cntK (P : Nat → Bool) : Nat → Nat
  | 0 => 0
  | j + 1 => if P j = true then cntK P j + 1 else cntK P j
/-! the questions -/
def yM (n y : Nat) (τ : Nat → Nat → Nat) (k : Nat) : Nat → Nat → Nat := yrsM n y 6 6 τ k
def q_street (n : Nat) (τ : Nat → Nat → Nat) (v w : Int32) : Nat × Int32 := match stN v n with
  | none => (1, 0)
  | some k => match stN w 7 with
    | some j => (0, nI (τ j k))
    | none => if w = nI 7 then (0, nI (fedK (τ 5) k n)) else (2, 0)
def q_mends (n : Nat) (τ : Nat → Nat → Nat) (v w : Int32) : Nat × Int32 := match stN v n with
  | none => (1, 0)
  | some k => match stN w n with
    | none => (1, 0)
    | some _ => (0, nI (τ 5 k))
def u_mends (n : Nat) (τ : Nat → Nat → Nat) (v w : Int32) : Nat → Nat → Nat := match stN v n with
  | none => τ
  | some k => match stN w n with
    | none => τ
    | some j => setF τ 5 (upN (τ 5) k j)
def q_put (f c n : Nat) (τ : Nat → Nat → Nat) (v w : Int32) : Nat × Int32 := match stN v n with
  | none => (1, 0)
  | some k => rfq w 0 c (nI (τ f k))
def u_put (f c n : Nat) (τ : Nat → Nat → Nat) (v w : Int32) : Nat → Nat → Nat := match stN v n with
  | none => τ
  | some k => if rfN w 0 c = 0 then setF τ f (upN (τ f) k (tn w)) else τ
def q_year (n y : Nat) (τ : Nat → Nat → Nat) : Nat × Int32 := if y = 999 then (6, 0) else (0, nI (sumK (yM n y τ 1 1) n))
def q_mud (n y : Nat) (τ : Nat → Nat → Nat) (v w : Int32) : Nat × Int32 := if v = -1 then rfq w 0 60 (nI (sumK (yM n y τ (tn w) 1) n)) else match stN v n with
  | none => (1, 0)
  | some k => rfq w 0 60 (nI (yM n y τ (tn w) 1 k))
def q_worst (n y : Nat) (τ : Nat → Nat → Nat) (v w : Int32) : Nat × Int32 :=
  if rfN v 0 60 = 0 then (if w = nI 0 then (0, if n = 0 then nI 0 else nI (yM n y τ (tn v) 1 (mxK (yM n y τ (tn v) 1) n))) else if w = nI 1 then (0, if n = 0 then -9 else nI (mxK (yM n y τ (tn v) 1) n)) else (2, 0)) else (rfN v 0 60, 0)
def q_again (n y : Nat) (τ : Nat → Nat → Nat) : Nat × Int32 := (0, oI (-9) ((fsK (fun j => alB n (yM n y τ (40 + (j + 1))) (yM n y τ 40)) 30).map (· + 1)))
def q_way (n : Nat) (τ : Nat → Nat → Nat) (v w : Int32) : Nat × Int32 := match stN v n with
  | none => (1, 0)
  | some k => match stN w n with
    | none => (1, 0)
    | some o => (0, oI (-9) (fsK (fun j => decide (itr (τ 5) j k = o)) n))
def q_ring (n : Nat) (τ : Nat → Nat → Nat) : Nat × Int32 := (0, nI (bsK (onB n (τ 5)) n))
def q_tail (n : Nat) (τ : Nat → Nat → Nat) (v : Int32) : Nat × Int32 := match stN v n with
  | none => (1, 0)
  | some k => (0, nI ((fsK (fun j => onB n (τ 5) (itr (τ 5) j k)) n).getD n))
def q_rings (n : Nat) (τ : Nat → Nat → Nat) : Nat × Int32 := (0, nI (cntK (fun i => onB n (τ 5) i && decide (lwK (τ 5) i n = i)) n))
def q_never (n : Nat) (τ : Nat → Nat → Nat) : Nat × Int32 := (0, nI (bsK (fun i => decide (fedK (τ 5) i n = 0)) n))
def q_felt (n y : Nat) (τ : Nat → Nat → Nat) (v w : Int32) : Nat × Int32 := match stN v n with
  | none => (1, 0)
  | some k => match stN w n with
    | none => (1, 0)
    | some o => (0, oI (-9) ((fsK (fun j => decide (yrsM n y k 6 τ (j + 1) 1 o ≠ yM n y τ (j + 1) 1 o)) 40).map (· + 1)))
/-- what comes of it is told from 1000000000 on, if it is refused -/
def q_worth (n y : Nat) (τ : Nat → Nat → Nat) (v w : Int32) : Nat × Int32 := match stN v n with
  | none => (1, 0)
  | some k => rfq w 0 60 (nI (sumK (yrsM n y k 6 τ (tn w) 1) n) - nI (sumK (yM n y τ (tn w) 1) n))
def rB (q : Nat × Int32) : Int32 := if q.1 = 0 then q.2 else 1000000000 - (-(nI q.1))
end
section
-- refuse(-k), refusalOf(..)
theorem neg_neg32 (v : Int32) : - -v = v := by simp
theorem rof_in {v : Int32} {a c : Nat} (h1 : nI a ≤ v) (h2 : v ≤ nI c) (hac : a ≤ c) (hc : c < 2 ^ 20) : ∃ j, a ≤ j ∧ j ≤ c ∧ v = nI j := by
  have h0 : ¬ v < 0 := fun h9 => by
    have h8 := Int32.le_iff_toInt_le.mp h1
    have h7 := Int32.lt_iff_toInt_lt.mp h9
    rw [nI_toInt (by omega)] at h8
    have h6 : (0 : Int32).toInt = 0 := by decide
    omega
  obtain ⟨j, hj, rfl⟩ := nI_of h0
  exact ⟨j, (nI_leI (by omega) hj).mp h1, (nI_leI hj (by omega)).mp h2, rfl⟩
set_option maxHeartbeats 4000000 in
set_option maxRecDepth 100000 in
theorem p_refuse {σ : Sg} {n y : Nat} {τ : Nat → Nat → Nat} {fl n2 y2 : Nat} {τ2 : Nat → Nat → Nat} {m : Nat} {cs : Nat → Nat} {rl : Nat} {ro rc : Nat → Nat} (hX : XR σ n y τ fl n2 y2 τ2 m cs rl ro rc) {k : Nat} (h1 : 1 ≤ k) (h6 : k ≤ 6) {v : Int32} (hv : v = -(nI k)) : Con 1 yX2_refuse cX2_refuse 3 (some .int) [.ref 0, .int v] σ (PI (fun r σ1 => r = v ∧ σ1 = w2 σ 42 k (nI (rc k + 1)))) := by
  refine Con.of (by decide) (by simp [Value.category]) (Nat.le_of_ble_eq_true rfl) (fun x hB => ?_)
  show V x RX2 cX2_refuse 3 0 [some (.ref 0), some (.int v), none] [] _
  refine V.iload_n (q := 1) dX2_refuse_0 rfl rfl ?_
  refine V.ineg (q := 2) dX2_refuse_1 rfl ?_
  rw [show -v = nI k by rw [hv]; exact neg_neg32 _]
  refine V.ist2 (q := 3) dX2_refuse_2 rfl ?_
  refine V.iload_n (q := 4) dX2_refuse_3 rfl rfl ?_
  refine V.iconst (q := 5) (v := nI 1) dX2_refuse_4 rfl (by decide +kernel) ?_
  refine V.icmpN_lt (t := 24) (q := 8) dX2_refuse_5 (by decide) rfl (by omega) (by omega) (fun c5 => absurd c5 (by omega)) (fun c5 => ?_)
  refine V.iload_n (q := 9) dX2_refuse_8 rfl rfl ?_
  refine V.bipush (q := 11) (v := nI 6) dX2_refuse_9 rfl (by decide +kernel) ?_
  refine V.icmpN_gt (t := 24) (q := 14) dX2_refuse_11 (by decide) rfl (by omega) (by omega) (fun c11 => absurd c11 (by omega)) (fun c11 => ?_)
  refine V.aload_n (q := 15) dX2_refuse_14 rfl rfl ?_
  refine V.getR (q := 18) dX2_refuse_15 rfl kf_X2_42 rfl (by decide) rfl ?_
  refine V.iload_n (q := 19) dX2_refuse_18 rfl rfl ?_
  refine V.dup2 (q := 20) dX2_refuse_19 rfl rfl rfl ?_
  refine V.ialdN (q := 21) dX2_refuse_20 rfl rfl (by decide) (by omega) (by decide) (hX.rc0 h1 h6) ?_
  refine V.iconst (q := 22) (v := nI 1) dX2_refuse_21 rfl (by decide +kernel) ?_
  refine V.iaddN (q := 23) dX2_refuse_22 rfl ?_
  refine V.iastN (q := 24) dX2_refuse_23 rfl rfl (by decide) (by omega) (by decide) ?_
  refine V.iload_n (q := 25) dX2_refuse_24 rfl rfl ?_
  exact V.ret_int hB dX2_refuse_25 rfl ⟨_, rfl, ⟨rfl, rfl⟩⟩

set_option maxHeartbeats 4000000 in
set_option maxRecDepth 100000 in
theorem p_rof0 {σ : Sg} {v a c : Int32} : Con 1 yX2_refusalOf cX2_refusalOf 4 (some .int) [.int (nI 0), .int v, .int a, .int c] σ (PI (fun r σ1 => r = -1 ∧ σ1 = σ)) := by
  refine Con.of (by decide) (by simp [Value.category]) (Nat.le_of_ble_eq_true rfl) (fun x hB => ?_)
  show V x RX2 cX2_refusalOf 4 0 [some (.int (nI 0)), some (.int v), some (.int a), some (.int c)] [] _
  refine V.iload_n (q := 1) dX2_refusalOf_0 rfl rfl ?_
  refine V.ifN_ne (t := 6) (q := 4) dX2_refusalOf_1 (by decide) rfl (by omega) (fun c1 => absurd c1 (by decide +kernel)) (fun c1 => ?_)
  refine V.iconst (q := 5) (v := (-1)) dX2_refusalOf_4 rfl (by decide +kernel) ?_
  exact V.ret_int hB dX2_refusalOf_5 rfl ⟨_, rfl, ⟨rfl, rfl⟩⟩

set_option maxHeartbeats 4000000 in
set_option maxRecDepth 100000 in
theorem p_rof {σ : Sg} (v : Int32) (a c : Nat) (hac : a ≤ c) (hc : c < 2 ^ 20) : Con 1 yX2_refusalOf cX2_refusalOf 4 (some .int) [.int (nI 1), .int v, .int (nI a), .int (nI c)] σ (PI (fun r σ1 => σ1 = σ ∧ ((rfN v a c = 4 ∧ r = -4) ∨ (rfN v a c = 6 ∧ r = -6) ∨ (r = nI 0 ∧ ∃ j, a ≤ j ∧ j ≤ c ∧ v = nI j)))) := by
  refine Con.of (by decide) (by simp [Value.category]) (Nat.le_of_ble_eq_true rfl) (fun x hB => ?_)
  show V x RX2 cX2_refusalOf 4 0 [some (.int (nI 1)), some (.int v), some (.int (nI a)), some (.int (nI c))] [] _
  refine V.iload_n (q := 1) dX2_refusalOf_0 rfl rfl ?_
  refine V.ifN_ne (t := 6) (q := 4) dX2_refusalOf_1 (by decide) rfl (by omega) (fun c1 => ?_) (fun c1 => absurd c1 (by decide +kernel))
  refine V.iload_n (q := 7) dX2_refusalOf_6 rfl rfl ?_
  refine V.iload_n (q := 8) dX2_refusalOf_7 rfl rfl ?_
  refine V.icmp_ge (t := 14) (q := 11) dX2_refusalOf_8 (by decide) rfl  (fun c8 => ?_) (fun c8 => ?_)
  · refine V.iload_n (q := 15) dX2_refusalOf_14 rfl rfl ?_
    refine V.iload_n (q := 16) dX2_refusalOf_15 rfl rfl ?_
    refine V.icmp_le (t := 24) (q := 19) dX2_refusalOf_16 (by decide) rfl  (fun c16 => ?_) (fun c16 => ?_)
    · refine V.iconst (q := 25) (v := nI 0) dX2_refusalOf_24 rfl (by decide +kernel) ?_
      exact V.ret_int hB dX2_refusalOf_25 rfl ⟨_, rfl, ⟨rfl, Or.inr (Or.inr ⟨rfl, rof_in c8 c16 hac hc⟩)⟩⟩
    · refine V.bipush (q := 21) (v := (-6)) dX2_refusalOf_19 rfl (by decide +kernel) ?_
      refine V.goto (q := 25) dX2_refusalOf_21 (by decide) ?_
      exact V.ret_int hB dX2_refusalOf_25 rfl ⟨_, rfl, ⟨rfl, Or.inr (Or.inl ⟨by unfold rfN; rw [if_neg (fun h9 => absurd c8 (Int32.not_le.mpr h9)), if_pos (Int32.not_le.mp c16)], rfl⟩)⟩⟩
  · refine V.bipush (q := 13) (v := (-4)) dX2_refusalOf_11 rfl (by decide +kernel) ?_
    exact V.ret_int hB dX2_refusalOf_13 rfl ⟨_, rfl, ⟨rfl, Or.inl ⟨by unfold rfN; rw [if_pos (Int32.not_le.mp c8)], rfl⟩⟩⟩
end
section
theorem sN_or8 (w : Int32) : w = nI 0 ∨ w = nI 1 ∨ w = nI 2 ∨ w = nI 3 ∨ w = nI 4 ∨ w = nI 5 ∨ w = nI 6 ∨ w = nI 7 ∨ ¬ sN w 8 := by
  by_cases h : sN w 8
  · obtain ⟨j, hj, rfl⟩ := h
    have hj2 : j = 0 ∨ j = 1 ∨ j = 2 ∨ j = 3 ∨ j = 4 ∨ j = 5 ∨ j = 6 ∨ j = 7 := by omega
    rcases hj2 with rfl | rfl | rfl | rfl | rfl | rfl | rfl | rfl <;> simp
  · simp [h]
theorem sN_out {w : Int32} {n : Nat} (hn : n < 2 ^ 20) (h : ¬ sN w n) : w.toInt < 0 ∨ (n : Int) - 1 < w.toInt := by
  by_cases h1 : vp_in w n
  · exact absurd (vp_in_of h1 (by omega)) h
  · rw [vp_in_iff] at h1; omega
theorem sN_mono {w : Int32} {a b : Nat} (hab : a ≤ b) (h : ¬ sN w b) : ¬ sN w a := fun ⟨k, hk, e⟩ => h ⟨k, by omega, e⟩
theorem not7 : ¬ sN (nI 7) 7 := fun ⟨k, hk, e⟩ => by
  have := (nI_eq (by omega) (by omega)).mp e
  omega
theorem sN_m1 (n : Nat) (hn : n ≤ 1000) : ¬ sN (-1) n := fun ⟨k, hk, e⟩ => nI_m1 (by omega) e.symm
def XW (σ : Sg) (n y : Nat) (τ : Nat → Nat → Nat) (fl n2 y2 : Nat) (τ2 : Nat → Nat → Nat) (m : Nat) (cs : Nat → Nat) (rl : Nat) (ro rc : Nat → Nat) (q : Nat × Int32) : Int32 → Sg → Prop := fun r σ1 => r = rB q ∧ XR σ1 n y τ fl n2 y2 τ2 m cs rl ro (rU rc q) ∧ Fx σ σ1
theorem XW.no {σ : Sg} {n y : Nat} {τ : Nat → Nat → Nat} {fl n2 y2 : Nat} {τ2 : Nat → Nat → Nat} {m : Nat} {cs : Nat → Nat} {rl : Nat} {ro rc : Nat → Nat} {q : Nat × Int32} {k : Nat} {v : Int32} (h : XR σ n y τ fl n2 y2 τ2 m cs rl ro rc) (hq : q = (k, 0)) (hk : 0 < k) (hv : v = -(nI k)) : XW σ n y τ fl n2 y2 τ2 m cs rl ro rc q (1000000000 - v) (w2 σ 42 k (nI (rc k + 1))) := by
  obtain ⟨h1, h2, h3⟩ := XP.no (v := v) h hq hk hv
  refine ⟨?_, h2, h3⟩
  subst hq
  show _ = if k = 0 then 0 else 1000000000 - (-(nI k))
  rw [if_neg (by omega), hv]
theorem XW.yes {σ σ1 : Sg} {n y : Nat} {τ : Nat → Nat → Nat} {fl n2 y2 : Nat} {τ2 : Nat → Nat → Nat} {m : Nat} {cs : Nat → Nat} {rl : Nat} {ro rc : Nat → Nat} {q : Nat × Int32} {v : Int32} (h : XR σ n y τ fl n2 y2 τ2 m cs rl ro rc) (hF : Fs σ σ1) (hq : q = (0, v)) : XW σ n y τ fl n2 y2 τ2 m cs rl ro rc q v σ1 := by
  subst hq
  exact ⟨rfl, h.fs hF, hF.x⟩
theorem lwK_le (me : Nat → Nat) (i : Nat) : ∀ n, lwK me i n ≤ i
  | 0 => Nat.le_refl _
  | n + 1 => Nat.le_trans (Nat.min_le_left _ _) (lwK_le me i n)
-- street
set_option maxHeartbeats 4000000 in
set_option maxRecDepth 100000 in
theorem p_street {σ : Sg} {n y : Nat} {τ : Nat → Nat → Nat} {fl n2 y2 : Nat} {τ2 : Nat → Nat → Nat} {m : Nat} {cs : Nat → Nat} {rl : Nat} {ro rc : Nat → Nat} (hX : XR σ n y τ fl n2 y2 τ2 m cs rl ro rc) (v : Int32) (w : Int32) : Con 2 yX2_street cX2_street 3 (some .int) [.ref 0, .int v, .int w] σ (PI (XP σ n y τ fl n2 y2 τ2 m cs rl ro rc (q_street n τ v w))) := by
  refine Con.of (by decide) (by simp [Value.category]) (Nat.le_of_ble_eq_true rfl) (fun x hB => ?_)
  show V x RX2 cX2_street 3 0 [some (.ref 0), some (.int v), some (.int w)] [] _
  have hN := hX.now
  have hn6 := hN.n6
  have hy9 := hX.y9
  refine V.aload_n (q := 1) dX2_street_0 rfl rfl ?_
  refine V.getR (q := 4) dX2_street_1 rfl kf_X2_12 rfl (by decide) rfl ?_
  refine V.iload_n (q := 5) dX2_street_4 rfl rfl ?_
  refine V.cvi1 (q := 8) dX2_street_5 rfl kc_X2_69 rfl (by decide) rfl (hB.rm (by decide)) (Nat.le_of_ble_eq_true rfl) (c_isStreet t1 hN v) (fun r5 τ5 hp5 => ?_)
  obtain ⟨hz, ⟨rfl, k, hk, rfl⟩ | ⟨rfl, hsk⟩⟩ := hp5
  · rw [hz]
    refine V.ifN_ne (t := 17) (q := 11) dX2_street_8 (by decide) rfl (by omega) (fun c8 => ?_) (fun c8 => absurd c8 (by decide +kernel))
    refine V.iload_n (q := 18) dX2_street_17 rfl rfl ?_
    rcases sN_or8 w with rfl | rfl | rfl | rfl | rfl | rfl | rfl | rfl | hsw
    · refine V.tableIn (q := 64) (off := 46) dX2_street_18 (by decide +kernel) (by decide +kernel) rfl (by decide) ?_
      refine V.aload_n (q := 65) dX2_street_64 rfl rfl ?_
      refine V.getR (q := 68) dX2_street_65 rfl kf_X2_12 rfl (by decide) rfl ?_
      refine V.getRn (q := 71) dX2_street_68 rfl kf_X2_73 rfl (by decide) rfl ?_
      refine V.iload_n (q := 72) dX2_street_71 rfl rfl ?_
      refine V.ialdN (q := 73) dX2_street_72 rfl rfl (by decide) (by omega) (by decide) (TA.a hN 0 (by decide) (by omega)) ?_
      exact V.ret_int hB dX2_street_73 rfl ⟨_, rfl, XP.yes hX (Fs.rf) (by simp [q_street, stN_some hk (Nat.le_trans hn6 (by decide)), stN_some (show 0 < 7 by decide) (by decide)])⟩
    · refine V.tableIn (q := 74) (off := 56) dX2_street_18 (by decide +kernel) (by decide +kernel) rfl (by decide) ?_
      refine V.aload_n (q := 75) dX2_street_74 rfl rfl ?_
      refine V.getR (q := 78) dX2_street_75 rfl kf_X2_12 rfl (by decide) rfl ?_
      refine V.getRn (q := 81) dX2_street_78 rfl kf_X2_76 rfl (by decide) rfl ?_
      refine V.iload_n (q := 82) dX2_street_81 rfl rfl ?_
      refine V.ialdN (q := 83) dX2_street_82 rfl rfl (by decide) (by omega) (by decide) (TA.a hN 1 (by decide) (by omega)) ?_
      exact V.ret_int hB dX2_street_83 rfl ⟨_, rfl, XP.yes hX (Fs.rf) (by simp [q_street, stN_some hk (Nat.le_trans hn6 (by decide)), stN_some (show 1 < 7 by decide) (by decide)])⟩
    · refine V.tableIn (q := 84) (off := 66) dX2_street_18 (by decide +kernel) (by decide +kernel) rfl (by decide) ?_
      refine V.aload_n (q := 85) dX2_street_84 rfl rfl ?_
      refine V.getR (q := 88) dX2_street_85 rfl kf_X2_12 rfl (by decide) rfl ?_
      refine V.getRn (q := 91) dX2_street_88 rfl kf_X2_79 rfl (by decide) rfl ?_
      refine V.iload_n (q := 92) dX2_street_91 rfl rfl ?_
      refine V.ialdN (q := 93) dX2_street_92 rfl rfl (by decide) (by omega) (by decide) (TA.a hN 2 (by decide) (by omega)) ?_
      exact V.ret_int hB dX2_street_93 rfl ⟨_, rfl, XP.yes hX (Fs.rf) (by simp [q_street, stN_some hk (Nat.le_trans hn6 (by decide)), stN_some (show 2 < 7 by decide) (by decide)])⟩
    · refine V.tableIn (q := 94) (off := 76) dX2_street_18 (by decide +kernel) (by decide +kernel) rfl (by decide) ?_
      refine V.aload_n (q := 95) dX2_street_94 rfl rfl ?_
      refine V.getR (q := 98) dX2_street_95 rfl kf_X2_12 rfl (by decide) rfl ?_
      refine V.getRn (q := 101) dX2_street_98 rfl kf_X2_82 rfl (by decide) rfl ?_
      refine V.iload_n (q := 102) dX2_street_101 rfl rfl ?_
      refine V.ialdN (q := 103) dX2_street_102 rfl rfl (by decide) (by omega) (by decide) (TA.a hN 3 (by decide) (by omega)) ?_
      exact V.ret_int hB dX2_street_103 rfl ⟨_, rfl, XP.yes hX (Fs.rf) (by simp [q_street, stN_some hk (Nat.le_trans hn6 (by decide)), stN_some (show 3 < 7 by decide) (by decide)])⟩
    · refine V.tableIn (q := 104) (off := 86) dX2_street_18 (by decide +kernel) (by decide +kernel) rfl (by decide) ?_
      refine V.aload_n (q := 105) dX2_street_104 rfl rfl ?_
      refine V.getR (q := 108) dX2_street_105 rfl kf_X2_12 rfl (by decide) rfl ?_
      refine V.getRn (q := 111) dX2_street_108 rfl kf_X2_85 rfl (by decide) rfl ?_
      refine V.iload_n (q := 112) dX2_street_111 rfl rfl ?_
      refine V.ialdN (q := 113) dX2_street_112 rfl rfl (by decide) (by omega) (by decide) (TA.a hN 4 (by decide) (by omega)) ?_
      exact V.ret_int hB dX2_street_113 rfl ⟨_, rfl, XP.yes hX (Fs.rf) (by simp [q_street, stN_some hk (Nat.le_trans hn6 (by decide)), stN_some (show 4 < 7 by decide) (by decide)])⟩
    · refine V.tableIn (q := 114) (off := 96) dX2_street_18 (by decide +kernel) (by decide +kernel) rfl (by decide) ?_
      refine V.aload_n (q := 115) dX2_street_114 rfl rfl ?_
      refine V.getR (q := 118) dX2_street_115 rfl kf_X2_12 rfl (by decide) rfl ?_
      refine V.getRn (q := 121) dX2_street_118 rfl kf_X2_88 rfl (by decide) rfl ?_
      refine V.iload_n (q := 122) dX2_street_121 rfl rfl ?_
      refine V.ialdN (q := 123) dX2_street_122 rfl rfl (by decide) (by omega) (by decide) (TA.a hN 5 (by decide) (by omega)) ?_
      exact V.ret_int hB dX2_street_123 rfl ⟨_, rfl, XP.yes hX (Fs.rf) (by simp [q_street, stN_some hk (Nat.le_trans hn6 (by decide)), stN_some (show 5 < 7 by decide) (by decide)])⟩
    · refine V.tableIn (q := 124) (off := 106) dX2_street_18 (by decide +kernel) (by decide +kernel) rfl (by decide) ?_
      refine V.aload_n (q := 125) dX2_street_124 rfl rfl ?_
      refine V.getR (q := 128) dX2_street_125 rfl kf_X2_12 rfl (by decide) rfl ?_
      refine V.getRn (q := 131) dX2_street_128 rfl kf_X2_91 rfl (by decide) rfl ?_
      refine V.iload_n (q := 132) dX2_street_131 rfl rfl ?_
      refine V.ialdN (q := 133) dX2_street_132 rfl rfl (by decide) (by omega) (by decide) (TA.a hN 6 (by decide) (by omega)) ?_
      exact V.ret_int hB dX2_street_133 rfl ⟨_, rfl, XP.yes hX (Fs.rf) (by simp [q_street, stN_some hk (Nat.le_trans hn6 (by decide)), stN_some (show 6 < 7 by decide) (by decide)])⟩
    · refine V.tableIn (q := 134) (off := 116) dX2_street_18 (by decide +kernel) (by decide +kernel) rfl (by decide) ?_
      refine V.aload_n (q := 135) dX2_street_134 rfl rfl ?_
      refine V.getR (q := 138) dX2_street_135 rfl kf_X2_12 rfl (by decide) rfl ?_
      refine V.iload_n (q := 139) dX2_street_138 rfl rfl ?_
      refine V.cvi1 (q := 142) dX2_street_139 rfl kc_X2_94 rfl (by decide) rfl (hB.rm (by decide)) (Nat.le_of_ble_eq_true rfl) (c_fed t1 hN (i := k) (by omega)) (fun r139 τ139 hp139 => ?_)
      obtain ⟨rfl, hz⟩ := hp139
      rw [hz]
      exact V.ret_int hB dX2_street_142 rfl ⟨_, rfl, XP.yes hX (Fs.rf) (by simp [q_street, stN_some hk (Nat.le_trans hn6 (by decide)), stN_none not7])⟩
    · refine V.tableOut (q := 143) dX2_street_18 (by have := sN_out (by decide) hsw; omega) (by decide) ?_
      refine V.aload_n (q := 144) dX2_street_143 rfl rfl ?_
      refine V.bipush (q := 146) (v := (-2)) dX2_street_144 rfl (by decide +kernel) ?_
      refine V.cvi1 (q := 149) dX2_street_146 rfl kc_X2_53 rfl (by decide) rfl (hB.rm (by decide)) (Nat.le_of_ble_eq_true rfl) (p_refuse hX (k := 2) (v := -2) (by decide) (by decide) (by decide +kernel)) (fun r146 τ146 hp146 => ?_)
      obtain ⟨rfl, hz⟩ := hp146
      rw [hz]
      exact V.ret_int hB dX2_street_149 rfl ⟨_, rfl, XP.no hX (by simp [q_street, stN_some hk (Nat.le_trans hn6 (by decide)), stN_none (sN_mono (show 7 ≤ 8 by decide) hsw), show ¬ w = nI 7 from fun h9 => hsw ⟨7, by decide, h9⟩]) (by decide) (by decide +kernel)⟩
  · rw [hz]
    refine V.ifN_ne (t := 17) (q := 11) dX2_street_8 (by decide) rfl (by omega) (fun c8 => absurd c8 (by decide +kernel)) (fun c8 => ?_)
    refine V.aload_n (q := 12) dX2_street_11 rfl rfl ?_
    refine V.iconst (q := 13) (v := (-1)) dX2_street_12 rfl (by decide +kernel) ?_
    refine V.cvi1 (q := 16) dX2_street_13 rfl kc_X2_53 rfl (by decide) rfl (hB.rm (by decide)) (Nat.le_of_ble_eq_true rfl) (p_refuse hX (k := 1) (v := -1) (by decide) (by decide) (by decide +kernel)) (fun r13 τ13 hp13 => ?_)
    obtain ⟨rfl, hz⟩ := hp13
    rw [hz]
    exact V.ret_int hB dX2_street_16 rfl ⟨_, rfl, XP.no hX (by simp [q_street, stN_none hsk]) (by decide) (by decide +kernel)⟩

-- year
set_option maxHeartbeats 4000000 in
set_option maxRecDepth 100000 in
theorem p_year {σ : Sg} {n y : Nat} {τ : Nat → Nat → Nat} {fl n2 y2 : Nat} {τ2 : Nat → Nat → Nat} {m : Nat} {cs : Nat → Nat} {rl : Nat} {ro rc : Nat → Nat} (hX : XR σ n y τ fl n2 y2 τ2 m cs rl ro rc) : Con 4 yX2_year cX2_year 1 (some .int) [.ref 0] σ (PI (fun r σ1 => r = rA (q_year n y τ) ∧ XR σ1 n (if y = 999 then y else y + 1) (if y = 999 then τ else yM n y τ 1) fl n2 y2 τ2 m cs rl ro (rU rc (q_year n y τ)) ∧ Fx σ σ1)) := by
  refine Con.of (by decide) (by simp [Value.category]) (Nat.le_of_ble_eq_true rfl) (fun x hB => ?_)
  show V x RX2 cX2_year 1 0 [some (.ref 0)] [] _
  have hN := hX.now
  have hn6 := hN.n6
  have hy9 := hX.y9
  refine V.aload_n (q := 1) dX2_year_0 rfl rfl ?_
  refine V.getR (q := 4) dX2_year_1 rfl kf_X2_12 rfl (by decide) rfl ?_
  refine V.getIn (q := 7) dX2_year_4 rfl kf_X2_97 rfl (by decide) rfl (TA.n9 hN) ?_
  refine V.sipush (q := 10) (v := nI 999) dX2_year_7 rfl (by decide +kernel) ?_
  refine V.icmpN_lt (t := 20) (q := 13) dX2_year_10 (by decide) rfl (by omega) (by omega) (fun c10 => ?_) (fun c10 => ?_)
  · refine V.aload_n (q := 21) dX2_year_20 rfl rfl ?_
    refine V.getR (q := 24) dX2_year_21 rfl kf_X2_12 rfl (by decide) rfl ?_
    refine V.cvv0 (q := 27) dX2_year_24 rfl kc_X2_100 rfl (by decide) rfl (hB.rm (by decide)) (Nat.le_of_ble_eq_true rfl) (c_passYear t1 hN (by omega)) (fun τ24 hp24 => ?_)
    obtain ⟨hT1, hF1⟩ := hp24
    refine V.aload_n (q := 28) dX2_year_27 rfl rfl ?_
    refine V.getR (q := 31) dX2_year_28 rfl kf_X2_12 rfl (by decide) rfl ?_
    refine V.cvi0 (q := 34) dX2_year_31 rfl kc_X2_103 rfl (by decide) rfl (hB.rm (by decide)) (Nat.le_of_ble_eq_true rfl) (c_mudOfAll t1 hT1) (fun r31 τ31 hp31 => ?_)
    obtain ⟨rfl, hz⟩ := hp31
    rw [hz]
    exact V.ret_int hB dX2_year_34 rfl ⟨_, rfl, (by
    have ey : ¬ y = 999 := by omega
    have hq : q_year n y τ = (0, nI (sumK (yM n y τ 1 1) n)) := by unfold q_year; rw [if_neg ey]
    rw [if_neg ey, if_neg ey, hq]
    exact ⟨rfl, hX.wn hT1 (by omega) (fun o ho => hF1 o (by omega)), fun o ho => hF1 o (by omega)⟩)⟩
  · refine V.aload_n (q := 14) dX2_year_13 rfl rfl ?_
    refine V.bipush (q := 16) (v := (-6)) dX2_year_14 rfl (by decide +kernel) ?_
    refine V.cvi1 (q := 19) dX2_year_16 rfl kc_X2_53 rfl (by decide) rfl (hB.rm (by decide)) (Nat.le_of_ble_eq_true rfl) (p_refuse hX (k := 6) (v := -6) (by decide) (by decide) (by decide +kernel)) (fun r16 τ16 hp16 => ?_)
    obtain ⟨rfl, hz⟩ := hp16
    rw [hz]
    exact V.ret_int hB dX2_year_19 rfl ⟨_, rfl, (by
    have ey : y = 999 := by omega
    have hq : q_year n y τ = (6, 0) := by unfold q_year; rw [if_pos ey]
    obtain ⟨h1, h2, h3⟩ := XP.no (v := -6) hX hq (by decide) (by decide +kernel)
    rw [if_pos ey, if_pos ey]
    exact ⟨h1, h2, h3⟩)⟩

-- mud
set_option maxHeartbeats 4000000 in
set_option maxRecDepth 100000 in
theorem p_mud {σ : Sg} {n y : Nat} {τ : Nat → Nat → Nat} {fl n2 y2 : Nat} {τ2 : Nat → Nat → Nat} {m : Nat} {cs : Nat → Nat} {rl : Nat} {ro rc : Nat → Nat} (hX : XR σ n y τ fl n2 y2 τ2 m cs rl ro rc) (v : Int32) (w : Int32) : Con 5 yX2_mud cX2_mud 5 (some .int) [.ref 0, .int v, .int w] σ (PI (XP σ n y τ fl n2 y2 τ2 m cs rl ro rc (q_mud n y τ v w))) := by
  refine Con.of (by decide) (by simp [Value.category]) (Nat.le_of_ble_eq_true rfl) (fun x hB => ?_)
  show V x RX2 cX2_mud 5 0 [some (.ref 0), some (.int v), some (.int w), none, none] [] _
  have hN := hX.now
  have hn6 := hN.n6
  have hy9 := hX.y9
  refine V.iload_n (q := 1) dX2_mud_0 rfl rfl ?_
  refine V.iconst (q := 2) (v := (-1)) dX2_mud_1 rfl (by decide +kernel) ?_
  refine V.icmp_eq (t := 16) (q := 5) dX2_mud_2 (by decide) rfl  (fun c2 => ?_) (fun c2 => ?_)
  · subst c2
    refine V.iconst (q := 17) (v := nI 1) dX2_mud_16 rfl (by decide +kernel) ?_
    refine V.goto (q := 21) dX2_mud_17 (by decide) ?_
    refine V.iload_n (q := 22) dX2_mud_21 rfl rfl ?_
    refine V.iconst (q := 23) (v := nI 0) dX2_mud_22 rfl (by decide +kernel) ?_
    refine V.bipush (q := 25) (v := nI 60) dX2_mud_23 rfl (by decide +kernel) ?_
    refine V.csi4 (q := 28) dX2_mud_25 rfl kc_X2_45 (hB.rm (by decide)) (Nat.le_of_ble_eq_true rfl) (p_rof w 0 60 (by decide) (by decide)) (fun r25 τ25 hp25 => ?_)
    obtain ⟨hz, ⟨hrf, rfl⟩ | ⟨hrf, rfl⟩ | ⟨rfl, j, hj1, hj2, rfl⟩⟩ := hp25
    · rw [hz]
      refine V.ist3 (q := 29) dX2_mud_28 rfl ?_
      refine V.iload_n (q := 30) dX2_mud_29 rfl rfl ?_
      refine V.if_eq (t := 39) (q := 33) dX2_mud_30 (by decide) rfl  (fun c30 => absurd c30 (by decide +kernel)) (fun c30 => ?_)
      refine V.aload_n (q := 34) dX2_mud_33 rfl rfl ?_
      refine V.iload_n (q := 35) dX2_mud_34 rfl rfl ?_
      refine V.cvi1 (q := 38) dX2_mud_35 rfl kc_X2_53 rfl (by decide) rfl (hB.rm (by decide)) (Nat.le_of_ble_eq_true rfl) (p_refuse hX (k := 4) (v := -4) (by decide) (by decide) (by decide +kernel)) (fun r35 τ35 hp35 => ?_)
      obtain ⟨rfl, hz⟩ := hp35
      rw [hz]
      exact V.ret_int hB dX2_mud_38 rfl ⟨_, rfl, XP.no hX (by simp [q_mud, rfq_4 hrf]) (by decide) (by decide +kernel)⟩
    · rw [hz]
      refine V.ist3 (q := 29) dX2_mud_28 rfl ?_
      refine V.iload_n (q := 30) dX2_mud_29 rfl rfl ?_
      refine V.if_eq (t := 39) (q := 33) dX2_mud_30 (by decide) rfl  (fun c30 => absurd c30 (by decide +kernel)) (fun c30 => ?_)
      refine V.aload_n (q := 34) dX2_mud_33 rfl rfl ?_
      refine V.iload_n (q := 35) dX2_mud_34 rfl rfl ?_
      refine V.cvi1 (q := 38) dX2_mud_35 rfl kc_X2_53 rfl (by decide) rfl (hB.rm (by decide)) (Nat.le_of_ble_eq_true rfl) (p_refuse hX (k := 6) (v := -6) (by decide) (by decide) (by decide +kernel)) (fun r35 τ35 hp35 => ?_)
      obtain ⟨rfl, hz⟩ := hp35
      rw [hz]
      exact V.ret_int hB dX2_mud_38 rfl ⟨_, rfl, XP.no hX (by simp [q_mud, rfq_6 hrf]) (by decide) (by decide +kernel)⟩
    · rw [hz]
      refine V.ist3 (q := 29) dX2_mud_28 rfl ?_
      refine V.iload_n (q := 30) dX2_mud_29 rfl rfl ?_
      refine V.ifN_eq (t := 39) (q := 33) dX2_mud_30 (by decide) rfl (by omega) (fun c30 => ?_) (fun c30 => absurd c30 (by decide +kernel))
      refine V.aload_n (q := 40) dX2_mud_39 rfl rfl ?_
      refine V.getR (q := 43) dX2_mud_40 rfl kf_X2_19 rfl (by decide) rfl ?_
      refine V.aload_n (q := 44) dX2_mud_43 rfl rfl ?_
      refine V.getR (q := 47) dX2_mud_44 rfl kf_X2_12 rfl (by decide) rfl ?_
      refine V.cvv1 (q := 50) dX2_mud_47 rfl kc_X2_106 rfl (by decide) rfl (hB.rm (by decide)) (Nat.le_of_ble_eq_true rfl) (c_copyFrom t19 t1 (by decide) hN) (fun τ47 hp47 => ?_)
      obtain ⟨hT1, hF1⟩ := hp47
      have hN1 := hN.ot hF1 (by decide)
      refine V.aload_n (q := 51) dX2_mud_50 rfl rfl ?_
      refine V.getR (q := 54) dX2_mud_51 rfl kf_X2_19 rfl (by decide) rfl ?_
      refine V.iload_n (q := 55) dX2_mud_54 rfl rfl ?_
      refine V.cvi1 (q := 58) dX2_mud_55 rfl kc_X2_110 rfl (by decide) rfl (hB.rm (by decide)) (Nat.le_of_ble_eq_true rfl) (c_mudBehind t19 hT1 (k := j) (by omega)) (fun r55 τ55 hp55 => ?_)
      obtain ⟨rfl, hT2, hF2⟩ := hp55
      have hN2 := hN1.ot hF2 (by decide)
      refine V.ist4 (q := 60) dX2_mud_58 rfl ?_
      refine V.aload_n (q := 61) dX2_mud_60 rfl rfl ?_
      refine V.getR (q := 64) dX2_mud_61 rfl kf_X2_12 rfl (by decide) rfl ?_
      refine V.iload_n (q := 65) dX2_mud_64 rfl rfl ?_
      refine V.cvi1 (q := 68) dX2_mud_65 rfl kc_X2_69 rfl (by decide) rfl (hB.rm (by decide)) (Nat.le_of_ble_eq_true rfl) (c_isS0 t1 hN2.n6 hN2.n8 (v := -1) (sN_m1 n (by omega))) (fun r65 τ65 hp65 => ?_)
      obtain ⟨rfl, hz⟩ := hp65
      rw [hz]
      refine V.ifN_eq (t := 83) (q := 71) dX2_mud_68 (by decide) rfl (by omega) (fun c68 => ?_) (fun c68 => absurd c68 (by decide +kernel))
      refine V.iload (q := 85) dX2_mud_83 rfl rfl ?_
      exact V.ret_int hB dX2_mud_85 rfl ⟨_, rfl, XP.yes hX ((Fs.of hF1 (Or.inl rfl)).tr (Fs.of hF2 (Or.inl rfl))) (by simp [q_mud, rfq_in hj1 hj2 (show 60 < 2 ^ 20 by decide), tn_nI (show j < 2 ^ 31 by omega)]; rfl)⟩
  · refine V.aload_n (q := 6) dX2_mud_5 rfl rfl ?_
    refine V.getR (q := 9) dX2_mud_6 rfl kf_X2_12 rfl (by decide) rfl ?_
    refine V.iload_n (q := 10) dX2_mud_9 rfl rfl ?_
    refine V.cvi1 (q := 13) dX2_mud_10 rfl kc_X2_69 rfl (by decide) rfl (hB.rm (by decide)) (Nat.le_of_ble_eq_true rfl) (c_isStreet t1 hN v) (fun r10 τ10 hp10 => ?_)
    obtain ⟨hz, ⟨rfl, k, hk, rfl⟩ | ⟨rfl, hsk⟩⟩ := hp10
    · rw [hz]
      refine V.ifN_eq (t := 20) (q := 16) dX2_mud_13 (by decide) rfl (by omega) (fun c13 => absurd c13 (by decide +kernel)) (fun c13 => ?_)
      refine V.iconst (q := 17) (v := nI 1) dX2_mud_16 rfl (by decide +kernel) ?_
      refine V.goto (q := 21) dX2_mud_17 (by decide) ?_
      refine V.iload_n (q := 22) dX2_mud_21 rfl rfl ?_
      refine V.iconst (q := 23) (v := nI 0) dX2_mud_22 rfl (by decide +kernel) ?_
      refine V.bipush (q := 25) (v := nI 60) dX2_mud_23 rfl (by decide +kernel) ?_
      refine V.csi4 (q := 28) dX2_mud_25 rfl kc_X2_45 (hB.rm (by decide)) (Nat.le_of_ble_eq_true rfl) (p_rof w 0 60 (by decide) (by decide)) (fun r25 τ25 hp25 => ?_)
      obtain ⟨hz, ⟨hrf, rfl⟩ | ⟨hrf, rfl⟩ | ⟨rfl, j, hj1, hj2, rfl⟩⟩ := hp25
      · rw [hz]
        refine V.ist3 (q := 29) dX2_mud_28 rfl ?_
        refine V.iload_n (q := 30) dX2_mud_29 rfl rfl ?_
        refine V.if_eq (t := 39) (q := 33) dX2_mud_30 (by decide) rfl  (fun c30 => absurd c30 (by decide +kernel)) (fun c30 => ?_)
        refine V.aload_n (q := 34) dX2_mud_33 rfl rfl ?_
        refine V.iload_n (q := 35) dX2_mud_34 rfl rfl ?_
        refine V.cvi1 (q := 38) dX2_mud_35 rfl kc_X2_53 rfl (by decide) rfl (hB.rm (by decide)) (Nat.le_of_ble_eq_true rfl) (p_refuse hX (k := 4) (v := -4) (by decide) (by decide) (by decide +kernel)) (fun r35 τ35 hp35 => ?_)
        obtain ⟨rfl, hz⟩ := hp35
        rw [hz]
        exact V.ret_int hB dX2_mud_38 rfl ⟨_, rfl, XP.no hX (by simp [q_mud, nI_m1 (show k < 2 ^ 31 by omega), stN_some hk (Nat.le_trans hn6 (by decide)), rfq_4 hrf]) (by decide) (by decide +kernel)⟩
      · rw [hz]
        refine V.ist3 (q := 29) dX2_mud_28 rfl ?_
        refine V.iload_n (q := 30) dX2_mud_29 rfl rfl ?_
        refine V.if_eq (t := 39) (q := 33) dX2_mud_30 (by decide) rfl  (fun c30 => absurd c30 (by decide +kernel)) (fun c30 => ?_)
        refine V.aload_n (q := 34) dX2_mud_33 rfl rfl ?_
        refine V.iload_n (q := 35) dX2_mud_34 rfl rfl ?_
        refine V.cvi1 (q := 38) dX2_mud_35 rfl kc_X2_53 rfl (by decide) rfl (hB.rm (by decide)) (Nat.le_of_ble_eq_true rfl) (p_refuse hX (k := 6) (v := -6) (by decide) (by decide) (by decide +kernel)) (fun r35 τ35 hp35 => ?_)
        obtain ⟨rfl, hz⟩ := hp35
        rw [hz]
        exact V.ret_int hB dX2_mud_38 rfl ⟨_, rfl, XP.no hX (by simp [q_mud, nI_m1 (show k < 2 ^ 31 by omega), stN_some hk (Nat.le_trans hn6 (by decide)), rfq_6 hrf]) (by decide) (by decide +kernel)⟩
      · rw [hz]
        refine V.ist3 (q := 29) dX2_mud_28 rfl ?_
        refine V.iload_n (q := 30) dX2_mud_29 rfl rfl ?_
        refine V.ifN_eq (t := 39) (q := 33) dX2_mud_30 (by decide) rfl (by omega) (fun c30 => ?_) (fun c30 => absurd c30 (by decide +kernel))
        refine V.aload_n (q := 40) dX2_mud_39 rfl rfl ?_
        refine V.getR (q := 43) dX2_mud_40 rfl kf_X2_19 rfl (by decide) rfl ?_
        refine V.aload_n (q := 44) dX2_mud_43 rfl rfl ?_
        refine V.getR (q := 47) dX2_mud_44 rfl kf_X2_12 rfl (by decide) rfl ?_
        refine V.cvv1 (q := 50) dX2_mud_47 rfl kc_X2_106 rfl (by decide) rfl (hB.rm (by decide)) (Nat.le_of_ble_eq_true rfl) (c_copyFrom t19 t1 (by decide) hN) (fun τ47 hp47 => ?_)
        obtain ⟨hT1, hF1⟩ := hp47
        have hN1 := hN.ot hF1 (by decide)
        refine V.aload_n (q := 51) dX2_mud_50 rfl rfl ?_
        refine V.getR (q := 54) dX2_mud_51 rfl kf_X2_19 rfl (by decide) rfl ?_
        refine V.iload_n (q := 55) dX2_mud_54 rfl rfl ?_
        refine V.cvi1 (q := 58) dX2_mud_55 rfl kc_X2_110 rfl (by decide) rfl (hB.rm (by decide)) (Nat.le_of_ble_eq_true rfl) (c_mudBehind t19 hT1 (k := j) (by omega)) (fun r55 τ55 hp55 => ?_)
        obtain ⟨rfl, hT2, hF2⟩ := hp55
        have hN2 := hN1.ot hF2 (by decide)
        refine V.ist4 (q := 60) dX2_mud_58 rfl ?_
        refine V.aload_n (q := 61) dX2_mud_60 rfl rfl ?_
        refine V.getR (q := 64) dX2_mud_61 rfl kf_X2_12 rfl (by decide) rfl ?_
        refine V.iload_n (q := 65) dX2_mud_64 rfl rfl ?_
        refine V.cvi1 (q := 68) dX2_mud_65 rfl kc_X2_69 rfl (by decide) rfl (hB.rm (by decide)) (Nat.le_of_ble_eq_true rfl) (c_isS1 t1 hN2 hk) (fun r65 τ65 hp65 => ?_)
        obtain ⟨rfl, hz⟩ := hp65
        rw [hz]
        refine V.ifN_eq (t := 83) (q := 71) dX2_mud_68 (by decide) rfl (by omega) (fun c68 => absurd c68 (by decide +kernel)) (fun c68 => ?_)
        refine V.aload_n (q := 72) dX2_mud_71 rfl rfl ?_
        refine V.getR (q := 75) dX2_mud_72 rfl kf_X2_19 rfl (by decide) rfl ?_
        refine V.getRn (q := 78) dX2_mud_75 rfl kf_X2_76 rfl (by decide) rfl ?_
        refine V.iload_n (q := 79) dX2_mud_78 rfl rfl ?_
        refine V.ialdN (q := 80) dX2_mud_79 rfl rfl (by decide) (by omega) (by decide) (TA.a hT2 1 (by decide) (by omega)) ?_
        refine V.goto (q := 85) dX2_mud_80 (by decide) ?_
        exact V.ret_int hB dX2_mud_85 rfl ⟨_, rfl, XP.yes hX ((Fs.of hF1 (Or.inl rfl)).tr (Fs.of hF2 (Or.inl rfl))) (by simp [q_mud, nI_m1 (show k < 2 ^ 31 by omega), stN_some hk (Nat.le_trans hn6 (by decide)), rfq_in hj1 hj2 (show 60 < 2 ^ 20 by decide), tn_nI (show j < 2 ^ 31 by omega)]; rfl)⟩
    · rw [hz]
      refine V.ifN_eq (t := 20) (q := 16) dX2_mud_13 (by decide) rfl (by omega) (fun c13 => ?_) (fun c13 => absurd c13 (by decide +kernel))
      refine V.iconst (q := 21) (v := nI 0) dX2_mud_20 rfl (by decide +kernel) ?_
      refine V.iload_n (q := 22) dX2_mud_21 rfl rfl ?_
      refine V.iconst (q := 23) (v := nI 0) dX2_mud_22 rfl (by decide +kernel) ?_
      refine V.bipush (q := 25) (v := nI 60) dX2_mud_23 rfl (by decide +kernel) ?_
      refine V.csi4 (q := 28) dX2_mud_25 rfl kc_X2_45 (hB.rm (by decide)) (Nat.le_of_ble_eq_true rfl) (p_rof0) (fun r25 τ25 hp25 => ?_)
      obtain ⟨rfl, hz⟩ := hp25
      rw [hz]
      refine V.ist3 (q := 29) dX2_mud_28 rfl ?_
      refine V.iload_n (q := 30) dX2_mud_29 rfl rfl ?_
      refine V.if_eq (t := 39) (q := 33) dX2_mud_30 (by decide) rfl  (fun c30 => absurd c30 (by decide +kernel)) (fun c30 => ?_)
      refine V.aload_n (q := 34) dX2_mud_33 rfl rfl ?_
      refine V.iload_n (q := 35) dX2_mud_34 rfl rfl ?_
      refine V.cvi1 (q := 38) dX2_mud_35 rfl kc_X2_53 rfl (by decide) rfl (hB.rm (by decide)) (Nat.le_of_ble_eq_true rfl) (p_refuse hX (k := 1) (v := -1) (by decide) (by decide) (by decide +kernel)) (fun r35 τ35 hp35 => ?_)
      obtain ⟨rfl, hz⟩ := hp35
      rw [hz]
      exact V.ret_int hB dX2_mud_38 rfl ⟨_, rfl, XP.no hX (by simp [q_mud, c2, stN_none hsk]) (by decide) (by decide +kernel)⟩

-- worst
set_option maxHeartbeats 4000000 in
set_option maxRecDepth 100000 in
theorem p_worst {σ : Sg} {n y : Nat} {τ : Nat → Nat → Nat} {fl n2 y2 : Nat} {τ2 : Nat → Nat → Nat} {m : Nat} {cs : Nat → Nat} {rl : Nat} {ro rc : Nat → Nat} (hX : XR σ n y τ fl n2 y2 τ2 m cs rl ro rc) (v : Int32) (w : Int32) : Con 5 yX2_worst cX2_worst 5 (some .int) [.ref 0, .int v, .int w] σ (PI (XP σ n y τ fl n2 y2 τ2 m cs rl ro rc (q_worst n y τ v w))) := by
  refine Con.of (by decide) (by simp [Value.category]) (Nat.le_of_ble_eq_true rfl) (fun x hB => ?_)
  show V x RX2 cX2_worst 5 0 [some (.ref 0), some (.int v), some (.int w), none, none] [] _
  have hN := hX.now
  have hn6 := hN.n6
  have hy9 := hX.y9
  refine V.iconst (q := 1) (v := nI 1) dX2_worst_0 rfl (by decide +kernel) ?_
  refine V.iload_n (q := 2) dX2_worst_1 rfl rfl ?_
  refine V.iconst (q := 3) (v := nI 0) dX2_worst_2 rfl (by decide +kernel) ?_
  refine V.bipush (q := 5) (v := nI 60) dX2_worst_3 rfl (by decide +kernel) ?_
  refine V.csi4 (q := 8) dX2_worst_5 rfl kc_X2_45 (hB.rm (by decide)) (Nat.le_of_ble_eq_true rfl) (p_rof v 0 60 (by decide) (by decide)) (fun r5 τ5 hp5 => ?_)
  obtain ⟨hz, ⟨hrf, rfl⟩ | ⟨hrf, rfl⟩ | ⟨rfl, j, hj1, hj2, rfl⟩⟩ := hp5
  · rw [hz]
    refine V.ist3 (q := 9) dX2_worst_8 rfl ?_
    refine V.iload_n (q := 10) dX2_worst_9 rfl rfl ?_
    refine V.if_ne (t := 25) (q := 13) dX2_worst_10 (by decide) rfl  (fun c10 => ?_) (fun c10 => absurd c10 (by decide +kernel))
    refine V.iload_n (q := 26) dX2_worst_25 rfl rfl ?_
    refine V.if_eq (t := 35) (q := 29) dX2_worst_26 (by decide) rfl  (fun c26 => absurd c26 (by decide +kernel)) (fun c26 => ?_)
    refine V.aload_n (q := 30) dX2_worst_29 rfl rfl ?_
    refine V.iload_n (q := 31) dX2_worst_30 rfl rfl ?_
    refine V.cvi1 (q := 34) dX2_worst_31 rfl kc_X2_53 rfl (by decide) rfl (hB.rm (by decide)) (Nat.le_of_ble_eq_true rfl) (p_refuse hX (k := 4) (v := -4) (by decide) (by decide) (by decide +kernel)) (fun r31 τ31 hp31 => ?_)
    obtain ⟨rfl, hz⟩ := hp31
    rw [hz]
    exact V.ret_int hB dX2_worst_34 rfl ⟨_, rfl, XP.no hX (by simp [q_worst, hrf]) (by decide) (by decide +kernel)⟩
  · rw [hz]
    refine V.ist3 (q := 9) dX2_worst_8 rfl ?_
    refine V.iload_n (q := 10) dX2_worst_9 rfl rfl ?_
    refine V.if_ne (t := 25) (q := 13) dX2_worst_10 (by decide) rfl  (fun c10 => ?_) (fun c10 => absurd c10 (by decide +kernel))
    refine V.iload_n (q := 26) dX2_worst_25 rfl rfl ?_
    refine V.if_eq (t := 35) (q := 29) dX2_worst_26 (by decide) rfl  (fun c26 => absurd c26 (by decide +kernel)) (fun c26 => ?_)
    refine V.aload_n (q := 30) dX2_worst_29 rfl rfl ?_
    refine V.iload_n (q := 31) dX2_worst_30 rfl rfl ?_
    refine V.cvi1 (q := 34) dX2_worst_31 rfl kc_X2_53 rfl (by decide) rfl (hB.rm (by decide)) (Nat.le_of_ble_eq_true rfl) (p_refuse hX (k := 6) (v := -6) (by decide) (by decide) (by decide +kernel)) (fun r31 τ31 hp31 => ?_)
    obtain ⟨rfl, hz⟩ := hp31
    rw [hz]
    exact V.ret_int hB dX2_worst_34 rfl ⟨_, rfl, XP.no hX (by simp [q_worst, hrf]) (by decide) (by decide +kernel)⟩
  · rw [hz]
    refine V.ist3 (q := 9) dX2_worst_8 rfl ?_
    refine V.iload_n (q := 10) dX2_worst_9 rfl rfl ?_
    refine V.ifN_ne (t := 25) (q := 13) dX2_worst_10 (by decide) rfl (by omega) (fun c10 => absurd c10 (by decide +kernel)) (fun c10 => ?_)
    refine V.iload_n (q := 14) dX2_worst_13 rfl rfl ?_
    refine V.if_eq (t := 25) (q := 17) dX2_worst_14 (by decide) rfl  (fun c14 => ?_) (fun c14 => ?_)
    · subst c14
      refine V.iload_n (q := 26) dX2_worst_25 rfl rfl ?_
      refine V.ifN_eq (t := 35) (q := 29) dX2_worst_26 (by decide) rfl (by omega) (fun c26 => ?_) (fun c26 => absurd c26 (by decide +kernel))
      refine V.aload_n (q := 36) dX2_worst_35 rfl rfl ?_
      refine V.getR (q := 39) dX2_worst_36 rfl kf_X2_19 rfl (by decide) rfl ?_
      refine V.aload_n (q := 40) dX2_worst_39 rfl rfl ?_
      refine V.getR (q := 43) dX2_worst_40 rfl kf_X2_12 rfl (by decide) rfl ?_
      refine V.cvv1 (q := 46) dX2_worst_43 rfl kc_X2_106 rfl (by decide) rfl (hB.rm (by decide)) (Nat.le_of_ble_eq_true rfl) (c_copyFrom t19 t1 (by decide) hN) (fun τ43 hp43 => ?_)
      obtain ⟨hT1, hF1⟩ := hp43
      have hN1 := hN.ot hF1 (by decide)
      refine V.aload_n (q := 47) dX2_worst_46 rfl rfl ?_
      refine V.getR (q := 50) dX2_worst_47 rfl kf_X2_19 rfl (by decide) rfl ?_
      refine V.iload_n (q := 51) dX2_worst_50 rfl rfl ?_
      refine V.cvi1 (q := 54) dX2_worst_51 rfl kc_X2_110 rfl (by decide) rfl (hB.rm (by decide)) (Nat.le_of_ble_eq_true rfl) (c_mudBehind t19 hT1 (k := j) (by omega)) (fun r51 τ51 hp51 => ?_)
      obtain ⟨rfl, hT2, hF2⟩ := hp51
      have hN2 := hN1.ot hF2 (by decide)
      refine V.pop (q := 55) dX2_worst_54 rfl rfl ?_
      refine V.aload_n (q := 56) dX2_worst_55 rfl rfl ?_
      refine V.getR (q := 59) dX2_worst_56 rfl kf_X2_19 rfl (by decide) rfl ?_
      refine V.cvi0 (q := 62) dX2_worst_59 rfl kc_X2_113 rfl (by decide) rfl (hB.rm (by decide)) (Nat.le_of_ble_eq_true rfl) (c_muddiest t19 hT2) (fun r59 τ59 hp59 => ?_)
      obtain ⟨hz, ⟨hn0, rfl⟩ | ⟨hn0, rfl⟩⟩ := hp59
      · rw [hz]
        refine V.ist4 (q := 64) dX2_worst_62 rfl ?_
        refine V.iload_n (q := 65) dX2_worst_64 rfl rfl ?_
        refine V.iconst (q := 66) (v := nI 1) dX2_worst_65 rfl (by decide +kernel) ?_
        refine V.icmp_ne (t := 83) (q := 69) dX2_worst_66 (by decide) rfl  (fun c66 => ?_) (fun c66 => absurd c66 (by decide +kernel))
        refine V.aload_n (q := 84) dX2_worst_83 rfl rfl ?_
        refine V.getR (q := 87) dX2_worst_84 rfl kf_X2_19 rfl (by decide) rfl ?_
        refine V.iload (q := 89) dX2_worst_87 rfl rfl ?_
        refine V.cvi1 (q := 92) dX2_worst_89 rfl kc_X2_69 rfl (by decide) rfl (hB.rm (by decide)) (Nat.le_of_ble_eq_true rfl) (c_isS0 t19 hT2.n6 hT2.n8 (v := -1) (sN_m1 n (by omega))) (fun r89 τ89 hp89 => ?_)
        obtain ⟨rfl, hz⟩ := hp89
        rw [hz]
        refine V.ifN_eq (t := 108) (q := 95) dX2_worst_92 (by decide) rfl (by omega) (fun c92 => ?_) (fun c92 => absurd c92 (by decide +kernel))
        refine V.iconst (q := 109) (v := nI 0) dX2_worst_108 rfl (by decide +kernel) ?_
        exact V.ret_int hB dX2_worst_109 rfl ⟨_, rfl, XP.yes hX ((Fs.of hF1 (Or.inl rfl)).tr (Fs.of hF2 (Or.inl rfl))) (by simp [q_worst, rfN_in hj1 hj2 (show 60 < 2 ^ 20 by decide), tn_nI (show j < 2 ^ 31 by omega), nI_0, hn0])⟩
      · rw [hz]
        have hm9 := mxK_lt (g := yrsM n y 6 6 τ j 1) hn0
        refine V.ist4 (q := 64) dX2_worst_62 rfl ?_
        refine V.iload_n (q := 65) dX2_worst_64 rfl rfl ?_
        refine V.iconst (q := 66) (v := nI 1) dX2_worst_65 rfl (by decide +kernel) ?_
        refine V.icmp_ne (t := 83) (q := 69) dX2_worst_66 (by decide) rfl  (fun c66 => ?_) (fun c66 => absurd c66 (by decide +kernel))
        refine V.aload_n (q := 84) dX2_worst_83 rfl rfl ?_
        refine V.getR (q := 87) dX2_worst_84 rfl kf_X2_19 rfl (by decide) rfl ?_
        refine V.iload (q := 89) dX2_worst_87 rfl rfl ?_
        refine V.cvi1 (q := 92) dX2_worst_89 rfl kc_X2_69 rfl (by decide) rfl (hB.rm (by decide)) (Nat.le_of_ble_eq_true rfl) (c_isS1 t19 hT2 hm9) (fun r89 τ89 hp89 => ?_)
        obtain ⟨rfl, hz⟩ := hp89
        rw [hz]
        refine V.ifN_eq (t := 108) (q := 95) dX2_worst_92 (by decide) rfl (by omega) (fun c92 => absurd c92 (by decide +kernel)) (fun c92 => ?_)
        refine V.aload_n (q := 96) dX2_worst_95 rfl rfl ?_
        refine V.getR (q := 99) dX2_worst_96 rfl kf_X2_19 rfl (by decide) rfl ?_
        refine V.getRn (q := 102) dX2_worst_99 rfl kf_X2_76 rfl (by decide) rfl ?_
        refine V.iload (q := 104) dX2_worst_102 rfl rfl ?_
        refine V.ialdN (q := 105) dX2_worst_104 rfl rfl (by decide) (by omega) (by decide) (TA.a hT2 1 (by decide) (by omega)) ?_
        refine V.goto (q := 109) dX2_worst_105 (by decide) ?_
        exact V.ret_int hB dX2_worst_109 rfl ⟨_, rfl, XP.yes hX ((Fs.of hF1 (Or.inl rfl)).tr (Fs.of hF2 (Or.inl rfl))) (by simp [q_worst, rfN_in hj1 hj2 (show 60 < 2 ^ 20 by decide), tn_nI (show j < 2 ^ 31 by omega), nI_0, show ¬ n = 0 by omega]; rfl)⟩
    · refine V.iload_n (q := 18) dX2_worst_17 rfl rfl ?_
      refine V.iconst (q := 19) (v := nI 1) dX2_worst_18 rfl (by decide +kernel) ?_
      refine V.icmp_eq (t := 25) (q := 22) dX2_worst_19 (by decide) rfl  (fun c19 => ?_) (fun c19 => ?_)
      · subst c19
        refine V.iload_n (q := 26) dX2_worst_25 rfl rfl ?_
        refine V.ifN_eq (t := 35) (q := 29) dX2_worst_26 (by decide) rfl (by omega) (fun c26 => ?_) (fun c26 => absurd c26 (by decide +kernel))
        refine V.aload_n (q := 36) dX2_worst_35 rfl rfl ?_
        refine V.getR (q := 39) dX2_worst_36 rfl kf_X2_19 rfl (by decide) rfl ?_
        refine V.aload_n (q := 40) dX2_worst_39 rfl rfl ?_
        refine V.getR (q := 43) dX2_worst_40 rfl kf_X2_12 rfl (by decide) rfl ?_
        refine V.cvv1 (q := 46) dX2_worst_43 rfl kc_X2_106 rfl (by decide) rfl (hB.rm (by decide)) (Nat.le_of_ble_eq_true rfl) (c_copyFrom t19 t1 (by decide) hN) (fun τ43 hp43 => ?_)
        obtain ⟨hT1, hF1⟩ := hp43
        have hN1 := hN.ot hF1 (by decide)
        refine V.aload_n (q := 47) dX2_worst_46 rfl rfl ?_
        refine V.getR (q := 50) dX2_worst_47 rfl kf_X2_19 rfl (by decide) rfl ?_
        refine V.iload_n (q := 51) dX2_worst_50 rfl rfl ?_
        refine V.cvi1 (q := 54) dX2_worst_51 rfl kc_X2_110 rfl (by decide) rfl (hB.rm (by decide)) (Nat.le_of_ble_eq_true rfl) (c_mudBehind t19 hT1 (k := j) (by omega)) (fun r51 τ51 hp51 => ?_)
        obtain ⟨rfl, hT2, hF2⟩ := hp51
        have hN2 := hN1.ot hF2 (by decide)
        refine V.pop (q := 55) dX2_worst_54 rfl rfl ?_
        refine V.aload_n (q := 56) dX2_worst_55 rfl rfl ?_
        refine V.getR (q := 59) dX2_worst_56 rfl kf_X2_19 rfl (by decide) rfl ?_
        refine V.cvi0 (q := 62) dX2_worst_59 rfl kc_X2_113 rfl (by decide) rfl (hB.rm (by decide)) (Nat.le_of_ble_eq_true rfl) (c_muddiest t19 hT2) (fun r59 τ59 hp59 => ?_)
        obtain ⟨hz, ⟨hn0, rfl⟩ | ⟨hn0, rfl⟩⟩ := hp59
        · rw [hz]
          refine V.ist4 (q := 64) dX2_worst_62 rfl ?_
          refine V.iload_n (q := 65) dX2_worst_64 rfl rfl ?_
          refine V.iconst (q := 66) (v := nI 1) dX2_worst_65 rfl (by decide +kernel) ?_
          refine V.icmp_ne (t := 83) (q := 69) dX2_worst_66 (by decide) rfl  (fun c66 => absurd c66 (fun h9 => h9 rfl)) (fun c66 => ?_)
          refine V.iload (q := 71) dX2_worst_69 rfl rfl ?_
          refine V.iconst (q := 72) (v := (-1)) dX2_worst_71 rfl (by decide +kernel) ?_
          refine V.icmp_ne (t := 80) (q := 75) dX2_worst_72 (by decide) rfl  (fun c72 => absurd c72 (by decide +kernel)) (fun c72 => ?_)
          refine V.bipush (q := 77) (v := (-9)) dX2_worst_75 rfl (by decide +kernel) ?_
          refine V.goto (q := 82) dX2_worst_77 (by decide) ?_
          exact V.ret_int hB dX2_worst_82 rfl ⟨_, rfl, XP.yes hX ((Fs.of hF1 (Or.inl rfl)).tr (Fs.of hF2 (Or.inl rfl))) (by simp [q_worst, rfN_in hj1 hj2 (show 60 < 2 ^ 20 by decide), tn_nI (show j < 2 ^ 31 by omega), nI_0, hn0, c14])⟩
        · rw [hz]
          have hm9 := mxK_lt (g := yrsM n y 6 6 τ j 1) hn0
          refine V.ist4 (q := 64) dX2_worst_62 rfl ?_
          refine V.iload_n (q := 65) dX2_worst_64 rfl rfl ?_
          refine V.iconst (q := 66) (v := nI 1) dX2_worst_65 rfl (by decide +kernel) ?_
          refine V.icmp_ne (t := 83) (q := 69) dX2_worst_66 (by decide) rfl  (fun c66 => absurd c66 (fun h9 => h9 rfl)) (fun c66 => ?_)
          refine V.iload (q := 71) dX2_worst_69 rfl rfl ?_
          refine V.iconst (q := 72) (v := (-1)) dX2_worst_71 rfl (by decide +kernel) ?_
          refine V.icmp_ne (t := 80) (q := 75) dX2_worst_72 (by decide) rfl  (fun c72 => ?_) (fun c72 => absurd c72 (nI_m1 (by omega)))
          refine V.iload (q := 82) dX2_worst_80 rfl rfl ?_
          exact V.ret_int hB dX2_worst_82 rfl ⟨_, rfl, XP.yes hX ((Fs.of hF1 (Or.inl rfl)).tr (Fs.of hF2 (Or.inl rfl))) (by simp [q_worst, rfN_in hj1 hj2 (show 60 < 2 ^ 20 by decide), tn_nI (show j < 2 ^ 31 by omega), nI_0, c14, show ¬ n = 0 by omega]; rfl)⟩
      · refine V.bipush (q := 24) (v := (-2)) dX2_worst_22 rfl (by decide +kernel) ?_
        refine V.ist3 (q := 25) dX2_worst_24 rfl ?_
        refine V.iload_n (q := 26) dX2_worst_25 rfl rfl ?_
        refine V.if_eq (t := 35) (q := 29) dX2_worst_26 (by decide) rfl  (fun c26 => absurd c26 (by decide +kernel)) (fun c26 => ?_)
        refine V.aload_n (q := 30) dX2_worst_29 rfl rfl ?_
        refine V.iload_n (q := 31) dX2_worst_30 rfl rfl ?_
        refine V.cvi1 (q := 34) dX2_worst_31 rfl kc_X2_53 rfl (by decide) rfl (hB.rm (by decide)) (Nat.le_of_ble_eq_true rfl) (p_refuse hX (k := 2) (v := -2) (by decide) (by decide) (by decide +kernel)) (fun r31 τ31 hp31 => ?_)
        obtain ⟨rfl, hz⟩ := hp31
        rw [hz]
        exact V.ret_int hB dX2_worst_34 rfl ⟨_, rfl, XP.no hX (by simp [q_worst, rfN_in hj1 hj2 (show 60 < 2 ^ 20 by decide), nI_0, c14, c19]) (by decide) (by decide +kernel)⟩

-- again
set_option maxHeartbeats 4000000 in
set_option maxRecDepth 100000 in
theorem p_again {σ : Sg} {n y : Nat} {τ : Nat → Nat → Nat} {fl n2 y2 : Nat} {τ2 : Nat → Nat → Nat} {m : Nat} {cs : Nat → Nat} {rl : Nat} {ro rc : Nat → Nat} (hX : XR σ n y τ fl n2 y2 τ2 m cs rl ro rc) : Con 5 yX2_again cX2_again 2 (some .int) [.ref 0] σ (PI (XP σ n y τ fl n2 y2 τ2 m cs rl ro rc (q_again n y τ))) := by
  refine Con.of (by decide) (by simp [Value.category]) (Nat.le_of_ble_eq_true rfl) (fun x hB => ?_)
  show V x RX2 cX2_again 2 0 [some (.ref 0), none] [] _
  have hN := hX.now
  have hn6 := hN.n6
  have hy9 := hX.y9
  refine V.aload_n (q := 1) dX2_again_0 rfl rfl ?_
  refine V.getR (q := 4) dX2_again_1 rfl kf_X2_19 rfl (by decide) rfl ?_
  refine V.aload_n (q := 5) dX2_again_4 rfl rfl ?_
  refine V.getR (q := 8) dX2_again_5 rfl kf_X2_12 rfl (by decide) rfl ?_
  refine V.cvv1 (q := 11) dX2_again_8 rfl kc_X2_106 rfl (by decide) rfl (hB.rm (by decide)) (Nat.le_of_ble_eq_true rfl) (c_copyFrom t19 t1 (by decide) hN) (fun τ8 hp8 => ?_)
  obtain ⟨hT1, hF1⟩ := hp8
  have hN1 := hN.ot hF1 (by decide)
  refine V.aload_n (q := 12) dX2_again_11 rfl rfl ?_
  refine V.getR (q := 15) dX2_again_12 rfl kf_X2_19 rfl (by decide) rfl ?_
  refine V.bipush (q := 17) (v := nI 40) dX2_again_15 rfl (by decide +kernel) ?_
  refine V.cvi1 (q := 20) dX2_again_17 rfl kc_X2_110 rfl (by decide) rfl (hB.rm (by decide)) (Nat.le_of_ble_eq_true rfl) (c_mudBehind t19 hT1 (k := 40) (by omega)) (fun r17 τ17 hp17 => ?_)
  obtain ⟨rfl, hT2, hF2⟩ := hp17
  refine V.pop (q := 21) dX2_again_20 rfl rfl ?_
  refine V.aload_n (q := 22) dX2_again_21 rfl rfl ?_
  refine V.getR (q := 25) dX2_again_22 rfl kf_X2_22 rfl (by decide) rfl ?_
  refine V.aload_n (q := 26) dX2_again_25 rfl rfl ?_
  refine V.getR (q := 29) dX2_again_26 rfl kf_X2_19 rfl (by decide) rfl ?_
  refine V.cvv1 (q := 32) dX2_again_29 rfl kc_X2_106 rfl (by decide) rfl (hB.rm (by decide)) (Nat.le_of_ble_eq_true rfl) (c_copyFrom t28 t19 (by decide) hT2) (fun τ29 hp29 => ?_)
  obtain ⟨hR1, hF3⟩ := hp29
  have hT3 := hT2.ot hF3 (by decide)
  have hFs := ((Fs.of hF1 (Or.inl rfl)).tr (Fs.of hF2 (Or.inl rfl))).tr (Fs.of hF3 (Or.inr rfl))
  refine V.iconst (q := 33) (v := nI 1) dX2_again_32 rfl (by decide +kernel) ?_
  refine V.ist1 (q := 34) dX2_again_33 rfl ?_
  have loop : ∀ i, i ≤ 30 → ∀ σ1, TA σ1 28 n (y + (40 + i)) 6 6 (yM n y τ (40 + i)) → TA σ1 19 n (y + 40) 6 6 (yM n y τ 40) → Fs σ σ1 → fsK (fun j => alB n (yM n y τ (40 + (j + 1))) (yM n y τ 40)) i = none → V x RX2 cX2_again 2 34 [some (.ref 0), some (.int (nI (i + 1)))] [] σ1 := by
    refine down 30 (fun i hi ih σ1 hR hT hF hno => ?_)
    refine V.iload_n (q := 35) dX2_again_34 rfl rfl ?_
    refine V.bipush (q := 37) (v := nI 30) dX2_again_35 rfl (by decide +kernel) ?_
    refine V.icmpN_gt (t := 69) (q := 40) dX2_again_37 (by decide) rfl (by omega) (by omega) (fun c37 => ?_) (fun c37 => ?_)
    · have ei : i = 30 := by omega
      subst ei
      refine V.bipush (q := 71) (v := (-9)) dX2_again_69 rfl (by decide +kernel) ?_
      exact V.ret_int hB dX2_again_71 rfl ⟨_, rfl, XP.yes hX (hF) (by unfold q_again; rw [hno]; rfl)⟩
    · refine V.aload_n (q := 41) dX2_again_40 rfl rfl ?_
      refine V.getR (q := 44) dX2_again_41 rfl kf_X2_22 rfl (by decide) rfl ?_
      refine V.cvv0 (q := 47) dX2_again_44 rfl kc_X2_100 rfl (by decide) rfl (hB.rm (by decide)) (Nat.le_of_ble_eq_true rfl) (c_passYear t28 hR (by omega)) (fun τ44 hp44 => ?_)
      obtain ⟨hR2, hF4⟩ := hp44
      have hT4 := hT.ot hF4 (by decide)
      refine V.aload_n (q := 48) dX2_again_47 rfl rfl ?_
      refine V.getR (q := 51) dX2_again_48 rfl kf_X2_22 rfl (by decide) rfl ?_
      refine V.aload_n (q := 52) dX2_again_51 rfl rfl ?_
      refine V.getR (q := 55) dX2_again_52 rfl kf_X2_19 rfl (by decide) rfl ?_
      refine V.cvi1 (q := 58) dX2_again_55 rfl kc_X2_116 rfl (by decide) rfl (hB.rm (by decide)) (Nat.le_of_ble_eq_true rfl) (c_liesLike t28 hR2 t19 hT4) (fun r55 τ55 hp55 => ?_)
      obtain ⟨hz, ⟨rfl, hal⟩ | ⟨rfl, hal⟩⟩ := hp55
      · rw [hz]
        have hp9 := fsK_y hno (alB_iff.mpr hal)
        refine V.ifN_eq (t := 63) (q := 61) dX2_again_58 (by decide) rfl (by omega) (fun c58 => absurd c58 (by decide +kernel)) (fun c58 => ?_)
        refine V.iload_n (q := 62) dX2_again_61 rfl rfl ?_
        exact V.ret_int hB dX2_again_62 rfl ⟨_, rfl, XP.yes hX (hF.tr (Fs.of hF4 (Or.inr rfl))) (by unfold q_again; rw [fsK_up hp9 (show i + 1 ≤ 30 by omega)]; rfl)⟩
      · rw [hz]
        have hp9 := fsK_n hno (fun h9 => hal (alB_iff.mp h9))
        refine V.ifN_eq (t := 63) (q := 61) dX2_again_58 (by decide) rfl (by omega) (fun c58 => ?_) (fun c58 => absurd c58 (by decide +kernel))
        refine V.inc1 (q := 66) dX2_again_63 rfl (inc1 _) ?_
        refine V.goto (q := 34) dX2_again_66 (by decide) ?_
        exact ih (by omega) _ hR2 hT4 (hF.tr (Fs.of hF4 (Or.inr rfl))) hp9
  exact loop 0 (by decide) _ hR1 hT3 hFs rfl

-- way
set_option maxHeartbeats 4000000 in
set_option maxRecDepth 100000 in
theorem p_way {σ : Sg} {n y : Nat} {τ : Nat → Nat → Nat} {fl n2 y2 : Nat} {τ2 : Nat → Nat → Nat} {m : Nat} {cs : Nat → Nat} {rl : Nat} {ro rc : Nat → Nat} (hX : XR σ n y τ fl n2 y2 τ2 m cs rl ro rc) (v : Int32) (w : Int32) : Con 3 yX2_way cX2_way 5 (some .int) [.ref 0, .int v, .int w] σ (PI (XP σ n y τ fl n2 y2 τ2 m cs rl ro rc (q_way n τ v w))) := by
  refine Con.of (by decide) (by simp [Value.category]) (Nat.le_of_ble_eq_true rfl) (fun x hB => ?_)
  show V x RX2 cX2_way 5 0 [some (.ref 0), some (.int v), some (.int w), none, none] [] _
  have hN := hX.now
  have hn6 := hN.n6
  have hy9 := hX.y9
  refine V.aload_n (q := 1) dX2_way_0 rfl rfl ?_
  refine V.getR (q := 4) dX2_way_1 rfl kf_X2_12 rfl (by decide) rfl ?_
  refine V.iload_n (q := 5) dX2_way_4 rfl rfl ?_
  refine V.cvi1 (q := 8) dX2_way_5 rfl kc_X2_69 rfl (by decide) rfl (hB.rm (by decide)) (Nat.le_of_ble_eq_true rfl) (c_isStreet t1 hN v) (fun r5 τ5 hp5 => ?_)
  obtain ⟨hz, ⟨rfl, k, hk, rfl⟩ | ⟨rfl, hsk⟩⟩ := hp5
  · rw [hz]
    refine V.ifN_eq (t := 22) (q := 11) dX2_way_8 (by decide) rfl (by omega) (fun c8 => absurd c8 (by decide +kernel)) (fun c8 => ?_)
    refine V.aload_n (q := 12) dX2_way_11 rfl rfl ?_
    refine V.getR (q := 15) dX2_way_12 rfl kf_X2_12 rfl (by decide) rfl ?_
    refine V.iload_n (q := 16) dX2_way_15 rfl rfl ?_
    refine V.cvi1 (q := 19) dX2_way_16 rfl kc_X2_69 rfl (by decide) rfl (hB.rm (by decide)) (Nat.le_of_ble_eq_true rfl) (c_isStreet t1 hN w) (fun r16 τ16 hp16 => ?_)
    obtain ⟨hz, ⟨rfl, o, ho, rfl⟩ | ⟨rfl, hso⟩⟩ := hp16
    · rw [hz]
      refine V.ifN_ne (t := 28) (q := 22) dX2_way_19 (by decide) rfl (by omega) (fun c19 => ?_) (fun c19 => absurd c19 (by decide +kernel))
      refine V.iload_n (q := 29) dX2_way_28 rfl rfl ?_
      refine V.ist3 (q := 30) dX2_way_29 rfl ?_
      refine V.iconst (q := 31) (v := nI 0) dX2_way_30 rfl (by decide +kernel) ?_
      refine V.ist4 (q := 33) dX2_way_31 rfl ?_
      have hme : ∀ a, a < n → τ 5 a < n := fun a h9 => (hN.w a h9).2.2.2.2.2.1
      have loop : ∀ i, i ≤ n → ∀ a, a = itr (τ 5) i k → fsK (fun j => decide (itr (τ 5) j k = o)) i = none → V x RX2 cX2_way 5 33 [some (.ref 0), some (.int (nI k)), some (.int (nI o)), some (.int (nI a)), some (.int (nI i))] [] σ := by
        refine down n (fun i hi ih a ea hno => ?_)
        have ha : a < n := by rw [ea]; exact itr_lt hme hk i
        have ha2 := hme a ha
        refine V.iload (q := 35) dX2_way_33 rfl rfl ?_
        refine V.aload_n (q := 36) dX2_way_35 rfl rfl ?_
        refine V.getR (q := 39) dX2_way_36 rfl kf_X2_12 rfl (by decide) rfl ?_
        refine V.getIn (q := 42) dX2_way_39 rfl kf_X2_120 rfl (by decide) rfl (TA.n8 hN) ?_
        refine V.icmpN_ge (t := 68) (q := 45) dX2_way_42 (by decide) rfl (by omega) (by omega) (fun c42 => ?_) (fun c42 => ?_)
        · have ei : i = n := by omega
          subst ei
          refine V.bipush (q := 70) (v := (-9)) dX2_way_68 rfl (by decide +kernel) ?_
          exact V.ret_int hB dX2_way_70 rfl ⟨_, rfl, XP.yes hX (Fs.rf) (by simp [q_way, stN_some hk (Nat.le_trans hn6 (by decide)), stN_some ho (Nat.le_trans hn6 (by decide)), hno, oI])⟩
        · refine V.iload_n (q := 46) dX2_way_45 rfl rfl ?_
          refine V.iload_n (q := 47) dX2_way_46 rfl rfl ?_
          refine V.icmpN_ne (t := 53) (q := 50) dX2_way_47 (by decide) rfl (by omega) (by omega) (fun c47 => ?_) (fun c47 => ?_)
          · have hp9 := fsK_n hno (show ¬ decide (itr (τ 5) i k = o) = true by simp [← ea, c47])
            refine V.aload_n (q := 54) dX2_way_53 rfl rfl ?_
            refine V.getR (q := 57) dX2_way_54 rfl kf_X2_12 rfl (by decide) rfl ?_
            refine V.iload_n (q := 58) dX2_way_57 rfl rfl ?_
            refine V.cvi1 (q := 61) dX2_way_58 rfl kc_X2_123 rfl (by decide) rfl (hB.rm (by decide)) (Nat.le_of_ble_eq_true rfl) (c_stepFrom t1 hN ha) (fun r58 τ58 hp58 => ?_)
            obtain ⟨rfl, hz⟩ := hp58
            rw [hz]
            refine V.ist3 (q := 62) dX2_way_61 rfl ?_
            refine V.inc4 (q := 65) dX2_way_62 rfl (inc1 _) ?_
            refine V.goto (q := 33) dX2_way_65 (by decide) ?_
            exact ih (by omega) _ (by rw [ea]; rfl) hp9
          · have hp9 := fsK_y hno (show decide (itr (τ 5) i k = o) = true by simp [← ea, c47])
            refine V.iload (q := 52) dX2_way_50 rfl rfl ?_
            exact V.ret_int hB dX2_way_52 rfl ⟨_, rfl, XP.yes hX (Fs.rf) (by simp [q_way, stN_some hk (Nat.le_trans hn6 (by decide)), stN_some ho (Nat.le_trans hn6 (by decide)), fsK_up hp9 (show i + 1 ≤ n by omega), oI])⟩
      exact loop 0 (Nat.zero_le _) k rfl rfl
    · rw [hz]
      refine V.ifN_ne (t := 28) (q := 22) dX2_way_19 (by decide) rfl (by omega) (fun c19 => absurd c19 (by decide +kernel)) (fun c19 => ?_)
      refine V.aload_n (q := 23) dX2_way_22 rfl rfl ?_
      refine V.iconst (q := 24) (v := (-1)) dX2_way_23 rfl (by decide +kernel) ?_
      refine V.cvi1 (q := 27) dX2_way_24 rfl kc_X2_53 rfl (by decide) rfl (hB.rm (by decide)) (Nat.le_of_ble_eq_true rfl) (p_refuse hX (k := 1) (v := -1) (by decide) (by decide) (by decide +kernel)) (fun r24 τ24 hp24 => ?_)
      obtain ⟨rfl, hz⟩ := hp24
      rw [hz]
      exact V.ret_int hB dX2_way_27 rfl ⟨_, rfl, XP.no hX (by simp [q_way, stN_some hk (Nat.le_trans hn6 (by decide)), stN_none hso]) (by decide) (by decide +kernel)⟩
  · rw [hz]
    refine V.ifN_eq (t := 22) (q := 11) dX2_way_8 (by decide) rfl (by omega) (fun c8 => ?_) (fun c8 => absurd c8 (by decide +kernel))
    refine V.aload_n (q := 23) dX2_way_22 rfl rfl ?_
    refine V.iconst (q := 24) (v := (-1)) dX2_way_23 rfl (by decide +kernel) ?_
    refine V.cvi1 (q := 27) dX2_way_24 rfl kc_X2_53 rfl (by decide) rfl (hB.rm (by decide)) (Nat.le_of_ble_eq_true rfl) (p_refuse hX (k := 1) (v := -1) (by decide) (by decide) (by decide +kernel)) (fun r24 τ24 hp24 => ?_)
    obtain ⟨rfl, hz⟩ := hp24
    rw [hz]
    exact V.ret_int hB dX2_way_27 rfl ⟨_, rfl, XP.no hX (by simp [q_way, stN_none hsk]) (by decide) (by decide +kernel)⟩

-- ring
set_option maxHeartbeats 4000000 in
set_option maxRecDepth 100000 in
theorem p_ring {σ : Sg} {n y : Nat} {τ : Nat → Nat → Nat} {fl n2 y2 : Nat} {τ2 : Nat → Nat → Nat} {m : Nat} {cs : Nat → Nat} {rl : Nat} {ro rc : Nat → Nat} (hX : XR σ n y τ fl n2 y2 τ2 m cs rl ro rc) : Con 4 yX2_ring cX2_ring 3 (some .int) [.ref 0] σ (PI (XP σ n y τ fl n2 y2 τ2 m cs rl ro rc (q_ring n τ))) := by
  refine Con.of (by decide) (by simp [Value.category]) (Nat.le_of_ble_eq_true rfl) (fun x hB => ?_)
  show V x RX2 cX2_ring 3 0 [some (.ref 0), none, none] [] _
  have hN := hX.now
  have hn6 := hN.n6
  have hy9 := hX.y9
  refine V.iconst (q := 1) (v := nI 0) dX2_ring_0 rfl (by decide +kernel) ?_
  refine V.ist1 (q := 2) dX2_ring_1 rfl ?_
  refine V.iconst (q := 3) (v := nI 0) dX2_ring_2 rfl (by decide +kernel) ?_
  refine V.ist2 (q := 4) dX2_ring_3 rfl ?_
  have loop : ∀ j, j ≤ n → ∀ a, a = bsK (onB n (τ 5)) j → V x RX2 cX2_ring 3 4 [some (.ref 0), some (.int (nI a)), some (.int (nI j))] [] σ := by
    refine down n (fun j hj ih a ea => ?_)
    have ha := bsK_lt (onB n (τ 5)) j
    rw [← ea] at ha
    refine V.iload_n (q := 5) dX2_ring_4 rfl rfl ?_
    refine V.aload_n (q := 6) dX2_ring_5 rfl rfl ?_
    refine V.getR (q := 9) dX2_ring_6 rfl kf_X2_12 rfl (by decide) rfl ?_
    refine V.getIn (q := 12) dX2_ring_9 rfl kf_X2_120 rfl (by decide) rfl (TA.n8 hN) ?_
    refine V.icmpN_ge (t := 38) (q := 15) dX2_ring_12 (by decide) rfl (by omega) (by omega) (fun c12 => ?_) (fun c12 => ?_)
    · have ej : j = n := by omega
      subst ej
      refine V.iload_n (q := 39) dX2_ring_38 rfl rfl ?_
      exact V.ret_int hB dX2_ring_39 rfl ⟨_, rfl, XP.yes hX (Fs.rf) (by rw [ea]; rfl)⟩
    · refine V.aload_n (q := 16) dX2_ring_15 rfl rfl ?_
      refine V.getR (q := 19) dX2_ring_16 rfl kf_X2_12 rfl (by decide) rfl ?_
      refine V.iload_n (q := 20) dX2_ring_19 rfl rfl ?_
      refine V.cvi1 (q := 23) dX2_ring_20 rfl kc_X2_126 rfl (by decide) rfl (hB.rm (by decide)) (Nat.le_of_ble_eq_true rfl) (c_isOnRing t1 hN c12) (fun r20 τ20 hp20 => ?_)
      obtain ⟨hz, ⟨rfl, hon⟩ | ⟨rfl, hon⟩⟩ := hp20
      · rw [hz]
        refine V.ifN_eq (t := 32) (q := 26) dX2_ring_23 (by decide) rfl (by omega) (fun c23 => absurd c23 (by decide +kernel)) (fun c23 => ?_)
        refine V.iload_n (q := 27) dX2_ring_26 rfl rfl ?_
        refine V.iconst (q := 28) (v := nI 1) dX2_ring_27 rfl (by decide +kernel) ?_
        refine V.iload_n (q := 29) dX2_ring_28 rfl rfl ?_
        refine V.ishl (q := 30) dX2_ring_29 rfl ?_
        rw [shl1 (show j < 6 by omega)]
        refine V.ior (q := 31) dX2_ring_30 rfl ?_
        rw [ior_all j (by omega) a ha]
        refine V.ist1 (q := 32) dX2_ring_31 rfl ?_
        refine V.inc2 (q := 35) dX2_ring_32 rfl (inc1 _) ?_
        refine V.goto (q := 4) dX2_ring_35 (by decide) ?_
        exact ih c12 _ (by unfold bsK; rw [if_pos (onB_iff.mpr hon), ea])
      · rw [hz]
        refine V.ifN_eq (t := 32) (q := 26) dX2_ring_23 (by decide) rfl (by omega) (fun c23 => ?_) (fun c23 => absurd c23 (by decide +kernel))
        refine V.inc2 (q := 35) dX2_ring_32 rfl (inc1 _) ?_
        refine V.goto (q := 4) dX2_ring_35 (by decide) ?_
        exact ih c12 _ (by unfold bsK; rw [if_neg (fun h9 => hon (onB_iff.mp h9))]; exact ea)
  exact loop 0 (Nat.zero_le _) 0 rfl

-- never
set_option maxHeartbeats 4000000 in
set_option maxRecDepth 100000 in
theorem p_never {σ : Sg} {n y : Nat} {τ : Nat → Nat → Nat} {fl n2 y2 : Nat} {τ2 : Nat → Nat → Nat} {m : Nat} {cs : Nat → Nat} {rl : Nat} {ro rc : Nat → Nat} (hX : XR σ n y τ fl n2 y2 τ2 m cs rl ro rc) : Con 3 yX2_never cX2_never 3 (some .int) [.ref 0] σ (PI (XP σ n y τ fl n2 y2 τ2 m cs rl ro rc (q_never n τ))) := by
  refine Con.of (by decide) (by simp [Value.category]) (Nat.le_of_ble_eq_true rfl) (fun x hB => ?_)
  show V x RX2 cX2_never 3 0 [some (.ref 0), none, none] [] _
  have hN := hX.now
  have hn6 := hN.n6
  have hy9 := hX.y9
  refine V.iconst (q := 1) (v := nI 0) dX2_never_0 rfl (by decide +kernel) ?_
  refine V.ist1 (q := 2) dX2_never_1 rfl ?_
  refine V.iconst (q := 3) (v := nI 0) dX2_never_2 rfl (by decide +kernel) ?_
  refine V.ist2 (q := 4) dX2_never_3 rfl ?_
  have loop : ∀ j, j ≤ n → ∀ a, a = bsK (fun i => decide (fedK (τ 5) i n = 0)) j → V x RX2 cX2_never 3 4 [some (.ref 0), some (.int (nI a)), some (.int (nI j))] [] σ := by
    refine down n (fun j hj ih a ea => ?_)
    have ha := bsK_lt (fun i => decide (fedK (τ 5) i n = 0)) j
    rw [← ea] at ha
    refine V.iload_n (q := 5) dX2_never_4 rfl rfl ?_
    refine V.aload_n (q := 6) dX2_never_5 rfl rfl ?_
    refine V.getR (q := 9) dX2_never_6 rfl kf_X2_12 rfl (by decide) rfl ?_
    refine V.getIn (q := 12) dX2_never_9 rfl kf_X2_120 rfl (by decide) rfl (TA.n8 hN) ?_
    refine V.icmpN_ge (t := 38) (q := 15) dX2_never_12 (by decide) rfl (by omega) (by omega) (fun c12 => ?_) (fun c12 => ?_)
    · have ej : j = n := by omega
      subst ej
      refine V.iload_n (q := 39) dX2_never_38 rfl rfl ?_
      exact V.ret_int hB dX2_never_39 rfl ⟨_, rfl, XP.yes hX (Fs.rf) (by rw [ea]; rfl)⟩
    · have hfe := fedK_le (τ 5) j n
      refine V.aload_n (q := 16) dX2_never_15 rfl rfl ?_
      refine V.getR (q := 19) dX2_never_16 rfl kf_X2_12 rfl (by decide) rfl ?_
      refine V.iload_n (q := 20) dX2_never_19 rfl rfl ?_
      refine V.cvi1 (q := 23) dX2_never_20 rfl kc_X2_94 rfl (by decide) rfl (hB.rm (by decide)) (Nat.le_of_ble_eq_true rfl) (c_fed t1 hN (i := j) (by omega)) (fun r20 τ20 hp20 => ?_)
      obtain ⟨rfl, hz⟩ := hp20
      rw [hz]
      refine V.ifN_ne (t := 32) (q := 26) dX2_never_23 (by decide) rfl (by omega) (fun c23 => ?_) (fun c23 => ?_)
      · refine V.inc2 (q := 35) dX2_never_32 rfl (inc1 _) ?_
        refine V.goto (q := 4) dX2_never_35 (by decide) ?_
        exact ih c12 _ (by unfold bsK; rw [if_neg (by simp [c23])]; exact ea)
      · refine V.iload_n (q := 27) dX2_never_26 rfl rfl ?_
        refine V.iconst (q := 28) (v := nI 1) dX2_never_27 rfl (by decide +kernel) ?_
        refine V.iload_n (q := 29) dX2_never_28 rfl rfl ?_
        refine V.ishl (q := 30) dX2_never_29 rfl ?_
        rw [shl1 (show j < 6 by omega)]
        refine V.ior (q := 31) dX2_never_30 rfl ?_
        rw [ior_all j (by omega) a ha]
        refine V.ist1 (q := 32) dX2_never_31 rfl ?_
        refine V.inc2 (q := 35) dX2_never_32 rfl (inc1 _) ?_
        refine V.goto (q := 4) dX2_never_35 (by decide) ?_
        exact ih c12 _ (by unfold bsK; rw [if_pos (by simp [c23]), ea])
  exact loop 0 (Nat.zero_le _) 0 rfl

-- rings
set_option maxHeartbeats 4000000 in
set_option maxRecDepth 100000 in
theorem p_rings {σ : Sg} {n y : Nat} {τ : Nat → Nat → Nat} {fl n2 y2 : Nat} {τ2 : Nat → Nat → Nat} {m : Nat} {cs : Nat → Nat} {rl : Nat} {ro rc : Nat → Nat} (hX : XR σ n y τ fl n2 y2 τ2 m cs rl ro rc) : Con 4 yX2_rings cX2_rings 3 (some .int) [.ref 0] σ (PI (XP σ n y τ fl n2 y2 τ2 m cs rl ro rc (q_rings n τ))) := by
  refine Con.of (by decide) (by simp [Value.category]) (Nat.le_of_ble_eq_true rfl) (fun x hB => ?_)
  show V x RX2 cX2_rings 3 0 [some (.ref 0), none, none] [] _
  have hN := hX.now
  have hn6 := hN.n6
  have hy9 := hX.y9
  refine V.iconst (q := 1) (v := nI 0) dX2_rings_0 rfl (by decide +kernel) ?_
  refine V.ist1 (q := 2) dX2_rings_1 rfl ?_
  refine V.iconst (q := 3) (v := nI 0) dX2_rings_2 rfl (by decide +kernel) ?_
  refine V.ist2 (q := 4) dX2_rings_3 rfl ?_
  have loop : ∀ j, j ≤ n → ∀ a, a = cntK (fun i => onB n (τ 5) i && decide (lwK (τ 5) i n = i)) j → V x RX2 cX2_rings 3 4 [some (.ref 0), some (.int (nI a)), some (.int (nI j))] [] σ := by
    refine down n (fun j hj ih a ea => ?_)
    refine V.iload_n (q := 5) dX2_rings_4 rfl rfl ?_
    refine V.aload_n (q := 6) dX2_rings_5 rfl rfl ?_
    refine V.getR (q := 9) dX2_rings_6 rfl kf_X2_12 rfl (by decide) rfl ?_
    refine V.getIn (q := 12) dX2_rings_9 rfl kf_X2_120 rfl (by decide) rfl (TA.n8 hN) ?_
    refine V.icmpN_ge (t := 47) (q := 15) dX2_rings_12 (by decide) rfl (by omega) (by omega) (fun c12 => ?_) (fun c12 => ?_)
    · have ej : j = n := by omega
      subst ej
      refine V.iload_n (q := 48) dX2_rings_47 rfl rfl ?_
      exact V.ret_int hB dX2_rings_48 rfl ⟨_, rfl, XP.yes hX (Fs.rf) (by rw [ea]; rfl)⟩
    · refine V.aload_n (q := 16) dX2_rings_15 rfl rfl ?_
      refine V.getR (q := 19) dX2_rings_16 rfl kf_X2_12 rfl (by decide) rfl ?_
      refine V.iload_n (q := 20) dX2_rings_19 rfl rfl ?_
      refine V.cvi1 (q := 23) dX2_rings_20 rfl kc_X2_126 rfl (by decide) rfl (hB.rm (by decide)) (Nat.le_of_ble_eq_true rfl) (c_isOnRing t1 hN c12) (fun r20 τ20 hp20 => ?_)
      obtain ⟨hz, ⟨rfl, hon⟩ | ⟨rfl, hon⟩⟩ := hp20
      · rw [hz]
        have hlw : lwK (τ 5) j n ≤ j := lwK_le (τ 5) j n
        refine V.ifN_eq (t := 41) (q := 26) dX2_rings_23 (by decide) rfl (by omega) (fun c23 => absurd c23 (by decide +kernel)) (fun c23 => ?_)
        refine V.aload_n (q := 27) dX2_rings_26 rfl rfl ?_
        refine V.getR (q := 30) dX2_rings_27 rfl kf_X2_12 rfl (by decide) rfl ?_
        refine V.iload_n (q := 31) dX2_rings_30 rfl rfl ?_
        refine V.cvi1 (q := 34) dX2_rings_31 rfl kc_X2_129 rfl (by decide) rfl (hB.rm (by decide)) (Nat.le_of_ble_eq_true rfl) (c_least t1 hN c12) (fun r31 τ31 hp31 => ?_)
        obtain ⟨rfl, hz⟩ := hp31
        rw [hz]
        refine V.iload_n (q := 35) dX2_rings_34 rfl rfl ?_
        refine V.icmpN_ne (t := 41) (q := 38) dX2_rings_35 (by decide) rfl (by omega) (by omega) (fun c35 => ?_) (fun c35 => ?_)
        · refine V.inc2 (q := 44) dX2_rings_41 rfl (inc1 _) ?_
          refine V.goto (q := 4) dX2_rings_44 (by decide) ?_
          exact ih c12 _ (by unfold cntK; rw [if_neg (by simp [c35])]; exact ea)
        · refine V.inc1 (q := 41) dX2_rings_38 rfl (inc1 _) ?_
          refine V.inc2 (q := 44) dX2_rings_41 rfl (inc1 _) ?_
          refine V.goto (q := 4) dX2_rings_44 (by decide) ?_
          exact ih c12 _ (by unfold cntK; rw [if_pos (by simp [onB_iff.mpr hon, c35]), ea])
      · rw [hz]
        refine V.ifN_eq (t := 41) (q := 26) dX2_rings_23 (by decide) rfl (by omega) (fun c23 => ?_) (fun c23 => absurd c23 (by decide +kernel))
        refine V.inc2 (q := 44) dX2_rings_41 rfl (inc1 _) ?_
        refine V.goto (q := 4) dX2_rings_44 (by decide) ?_
        exact ih c12 _ (by unfold cntK; rw [if_neg (by simp; intro h9; exact absurd (onB_iff.mp h9) hon)]; exact ea)
  exact loop 0 (Nat.zero_le _) 0 rfl

-- tail
set_option maxHeartbeats 4000000 in
set_option maxRecDepth 100000 in
theorem p_tail {σ : Sg} {n y : Nat} {τ : Nat → Nat → Nat} {fl n2 y2 : Nat} {τ2 : Nat → Nat → Nat} {m : Nat} {cs : Nat → Nat} {rl : Nat} {ro rc : Nat → Nat} (hX : XR σ n y τ fl n2 y2 τ2 m cs rl ro rc) (v : Int32) : Con 4 yX2_tail cX2_tail 4 (some .int) [.ref 0, .int v] σ (PI (XP σ n y τ fl n2 y2 τ2 m cs rl ro rc (q_tail n τ v))) := by
  refine Con.of (by decide) (by simp [Value.category]) (Nat.le_of_ble_eq_true rfl) (fun x hB => ?_)
  show V x RX2 cX2_tail 4 0 [some (.ref 0), some (.int v), none, none] [] _
  have hN := hX.now
  have hn6 := hN.n6
  have hy9 := hX.y9
  refine V.aload_n (q := 1) dX2_tail_0 rfl rfl ?_
  refine V.getR (q := 4) dX2_tail_1 rfl kf_X2_12 rfl (by decide) rfl ?_
  refine V.iload_n (q := 5) dX2_tail_4 rfl rfl ?_
  refine V.cvi1 (q := 8) dX2_tail_5 rfl kc_X2_69 rfl (by decide) rfl (hB.rm (by decide)) (Nat.le_of_ble_eq_true rfl) (c_isStreet t1 hN v) (fun r5 τ5 hp5 => ?_)
  obtain ⟨hz, ⟨rfl, k, hk, rfl⟩ | ⟨rfl, hsk⟩⟩ := hp5
  · rw [hz]
    refine V.ifN_ne (t := 17) (q := 11) dX2_tail_8 (by decide) rfl (by omega) (fun c8 => ?_) (fun c8 => absurd c8 (by decide +kernel))
    refine V.iload_n (q := 18) dX2_tail_17 rfl rfl ?_
    refine V.ist2 (q := 19) dX2_tail_18 rfl ?_
    refine V.iconst (q := 20) (v := nI 0) dX2_tail_19 rfl (by decide +kernel) ?_
    refine V.ist3 (q := 21) dX2_tail_20 rfl ?_
    have hme : ∀ a, a < n → τ 5 a < n := fun a h9 => (hN.w a h9).2.2.2.2.2.1
    have loop : ∀ i, i ≤ n → ∀ a, a = itr (τ 5) i k → fsK (fun j => onB n (τ 5) (itr (τ 5) j k)) i = none → V x RX2 cX2_tail 4 21 [some (.ref 0), some (.int (nI k)), some (.int (nI a)), some (.int (nI i))] [] σ := by
      refine down n (fun i hi ih a ea hno => ?_)
      have ha : a < n := by rw [ea]; exact itr_lt hme hk i
      have ha2 := hme a ha
      refine V.iload_n (q := 22) dX2_tail_21 rfl rfl ?_
      refine V.aload_n (q := 23) dX2_tail_22 rfl rfl ?_
      refine V.getR (q := 26) dX2_tail_23 rfl kf_X2_12 rfl (by decide) rfl ?_
      refine V.getIn (q := 29) dX2_tail_26 rfl kf_X2_120 rfl (by decide) rfl (TA.n8 hN) ?_
      refine V.icmpN_ge (t := 58) (q := 32) dX2_tail_29 (by decide) rfl (by omega) (by omega) (fun c29 => ?_) (fun c29 => ?_)
      · have ei : i = n := by omega
        subst ei
        refine V.iload_n (q := 59) dX2_tail_58 rfl rfl ?_
        exact V.ret_int hB dX2_tail_59 rfl ⟨_, rfl, XP.yes hX (Fs.rf) (by simp [q_tail, stN_some hk (Nat.le_trans hn6 (by decide)), hno])⟩
      · refine V.aload_n (q := 33) dX2_tail_32 rfl rfl ?_
        refine V.getR (q := 36) dX2_tail_33 rfl kf_X2_12 rfl (by decide) rfl ?_
        refine V.iload_n (q := 37) dX2_tail_36 rfl rfl ?_
        refine V.cvi1 (q := 40) dX2_tail_37 rfl kc_X2_126 rfl (by decide) rfl (hB.rm (by decide)) (Nat.le_of_ble_eq_true rfl) (c_isOnRing t1 hN ha) (fun r37 τ37 hp37 => ?_)
        obtain ⟨hz, ⟨rfl, hon⟩ | ⟨rfl, hon⟩⟩ := hp37
        · rw [hz]
          have hp9 := fsK_y hno (show onB n (τ 5) (itr (τ 5) i k) = true by rw [← ea]; exact onB_iff.mpr hon)
          refine V.ifN_ne (t := 58) (q := 43) dX2_tail_40 (by decide) rfl (by omega) (fun c40 => ?_) (fun c40 => absurd c40 (by decide +kernel))
          refine V.iload_n (q := 59) dX2_tail_58 rfl rfl ?_
          exact V.ret_int hB dX2_tail_59 rfl ⟨_, rfl, XP.yes hX (Fs.rf) (by simp [q_tail, stN_some hk (Nat.le_trans hn6 (by decide)), fsK_up hp9 (show i + 1 ≤ n by omega)])⟩
        · rw [hz]
          have hp9 := fsK_n hno (show ¬ onB n (τ 5) (itr (τ 5) i k) = true by rw [← ea]; exact fun h9 => hon (onB_iff.mp h9))
          refine V.ifN_ne (t := 58) (q := 43) dX2_tail_40 (by decide) rfl (by omega) (fun c40 => absurd c40 (by decide +kernel)) (fun c40 => ?_)
          refine V.aload_n (q := 44) dX2_tail_43 rfl rfl ?_
          refine V.getR (q := 47) dX2_tail_44 rfl kf_X2_12 rfl (by decide) rfl ?_
          refine V.iload_n (q := 48) dX2_tail_47 rfl rfl ?_
          refine V.cvi1 (q := 51) dX2_tail_48 rfl kc_X2_123 rfl (by decide) rfl (hB.rm (by decide)) (Nat.le_of_ble_eq_true rfl) (c_stepFrom t1 hN ha) (fun r48 τ48 hp48 => ?_)
          obtain ⟨rfl, hz⟩ := hp48
          rw [hz]
          refine V.ist2 (q := 52) dX2_tail_51 rfl ?_
          refine V.inc3 (q := 55) dX2_tail_52 rfl (inc1 _) ?_
          refine V.goto (q := 21) dX2_tail_55 (by decide) ?_
          exact ih (by omega) _ (by rw [ea]; rfl) hp9
    exact loop 0 (Nat.zero_le _) k rfl rfl
  · rw [hz]
    refine V.ifN_ne (t := 17) (q := 11) dX2_tail_8 (by decide) rfl (by omega) (fun c8 => absurd c8 (by decide +kernel)) (fun c8 => ?_)
    refine V.aload_n (q := 12) dX2_tail_11 rfl rfl ?_
    refine V.iconst (q := 13) (v := (-1)) dX2_tail_12 rfl (by decide +kernel) ?_
    refine V.cvi1 (q := 16) dX2_tail_13 rfl kc_X2_53 rfl (by decide) rfl (hB.rm (by decide)) (Nat.le_of_ble_eq_true rfl) (p_refuse hX (k := 1) (v := -1) (by decide) (by decide) (by decide +kernel)) (fun r13 τ13 hp13 => ?_)
    obtain ⟨rfl, hz⟩ := hp13
    rw [hz]
    exact V.ret_int hB dX2_tail_16 rfl ⟨_, rfl, XP.no hX (by simp [q_tail, stN_none hsk]) (by decide) (by decide +kernel)⟩

-- felt
set_option maxHeartbeats 4000000 in
set_option maxRecDepth 100000 in
theorem p_felt {σ : Sg} {n y : Nat} {τ : Nat → Nat → Nat} {fl n2 y2 : Nat} {τ2 : Nat → Nat → Nat} {m : Nat} {cs : Nat → Nat} {rl : Nat} {ro rc : Nat → Nat} (hX : XR σ n y τ fl n2 y2 τ2 m cs rl ro rc) (v : Int32) (w : Int32) : Con 4 yX2_felt cX2_felt 4 (some .int) [.ref 0, .int v, .int w] σ (PI (XP σ n y τ fl n2 y2 τ2 m cs rl ro rc (q_felt n y τ v w))) := by
  refine Con.of (by decide) (by simp [Value.category]) (Nat.le_of_ble_eq_true rfl) (fun x hB => ?_)
  show V x RX2 cX2_felt 4 0 [some (.ref 0), some (.int v), some (.int w), none] [] _
  have hN := hX.now
  have hn6 := hN.n6
  have hy9 := hX.y9
  refine V.aload_n (q := 1) dX2_felt_0 rfl rfl ?_
  refine V.getR (q := 4) dX2_felt_1 rfl kf_X2_12 rfl (by decide) rfl ?_
  refine V.iload_n (q := 5) dX2_felt_4 rfl rfl ?_
  refine V.cvi1 (q := 8) dX2_felt_5 rfl kc_X2_69 rfl (by decide) rfl (hB.rm (by decide)) (Nat.le_of_ble_eq_true rfl) (c_isStreet t1 hN v) (fun r5 τ5 hp5 => ?_)
  obtain ⟨hz, ⟨rfl, k, hk, rfl⟩ | ⟨rfl, hsk⟩⟩ := hp5
  · rw [hz]
    refine V.ifN_eq (t := 22) (q := 11) dX2_felt_8 (by decide) rfl (by omega) (fun c8 => absurd c8 (by decide +kernel)) (fun c8 => ?_)
    refine V.aload_n (q := 12) dX2_felt_11 rfl rfl ?_
    refine V.getR (q := 15) dX2_felt_12 rfl kf_X2_12 rfl (by decide) rfl ?_
    refine V.iload_n (q := 16) dX2_felt_15 rfl rfl ?_
    refine V.cvi1 (q := 19) dX2_felt_16 rfl kc_X2_69 rfl (by decide) rfl (hB.rm (by decide)) (Nat.le_of_ble_eq_true rfl) (c_isStreet t1 hN w) (fun r16 τ16 hp16 => ?_)
    obtain ⟨hz, ⟨rfl, o, ho, rfl⟩ | ⟨rfl, hso⟩⟩ := hp16
    · rw [hz]
      refine V.ifN_ne (t := 28) (q := 22) dX2_felt_19 (by decide) rfl (by omega) (fun c19 => ?_) (fun c19 => absurd c19 (by decide +kernel))
      refine V.aload_n (q := 29) dX2_felt_28 rfl rfl ?_
      refine V.getR (q := 32) dX2_felt_29 rfl kf_X2_22 rfl (by decide) rfl ?_
      refine V.aload_n (q := 33) dX2_felt_32 rfl rfl ?_
      refine V.getR (q := 36) dX2_felt_33 rfl kf_X2_12 rfl (by decide) rfl ?_
      refine V.cvv1 (q := 39) dX2_felt_36 rfl kc_X2_106 rfl (by decide) rfl (hB.rm (by decide)) (Nat.le_of_ble_eq_true rfl) (c_copyFrom t28 t1 (by decide) hN) (fun τ36 hp36 => ?_)
      obtain ⟨hR1, hF1⟩ := hp36
      have hN1 := hN.ot hF1 (by decide)
      refine V.aload_n (q := 40) dX2_felt_39 rfl rfl ?_
      refine V.getR (q := 43) dX2_felt_40 rfl kf_X2_19 rfl (by decide) rfl ?_
      refine V.aload_n (q := 44) dX2_felt_43 rfl rfl ?_
      refine V.getR (q := 47) dX2_felt_44 rfl kf_X2_12 rfl (by decide) rfl ?_
      refine V.cvv1 (q := 50) dX2_felt_47 rfl kc_X2_106 rfl (by decide) rfl (hB.rm (by decide)) (Nat.le_of_ble_eq_true rfl) (c_copyFrom t19 t1 (by decide) hN1) (fun τ47 hp47 => ?_)
      obtain ⟨hT1, hF2⟩ := hp47
      have hR2 := hR1.ot hF2 (by decide)
      refine V.aload_n (q := 51) dX2_felt_50 rfl rfl ?_
      refine V.getR (q := 54) dX2_felt_51 rfl kf_X2_19 rfl (by decide) rfl ?_
      refine V.iload_n (q := 55) dX2_felt_54 rfl rfl ?_
      refine V.putIn (q := 58) dX2_felt_55 rfl kp_X2_132 rfl (by decide) rfl rfl rfl ?_
      have hT2 := hT1.wz (z2 := k)
      rw [nz_in (by omega)] at hT2
      have hR3 := hR2.wo (o := 19) (k := 10) (x := nI k) (fun h9 => by omega)
      have hFs := ((Fs.of hF1 (Or.inr rfl)).tr (Fs.of hF2 (Or.inl rfl))).w (o := 19) (k := 10) (v := nI k) (by decide) (by decide) (by decide) (by decide)
      refine V.iconst (q := 59) (v := nI 1) dX2_felt_58 rfl (by decide +kernel) ?_
      refine V.ist3 (q := 60) dX2_felt_59 rfl ?_
      have loop : ∀ i, i ≤ 40 → ∀ σ1, TA σ1 28 n (y + i) 6 6 (yM n y τ i) → TA σ1 19 n (y + i) k 6 (yrsM n y k 6 τ i) → Fs σ σ1 → fsK (fun j => decide (yrsM n y k 6 τ (j + 1) 1 o ≠ yM n y τ (j + 1) 1 o)) i = none → V x RX2 cX2_felt 4 60 [some (.ref 0), some (.int (nI k)), some (.int (nI o)), some (.int (nI (i + 1)))] [] σ1 := by
        refine down 40 (fun i hi ih σ1 hR hT hF hno => ?_)
        refine V.iload_n (q := 61) dX2_felt_60 rfl rfl ?_
        refine V.bipush (q := 63) (v := nI 40) dX2_felt_61 rfl (by decide +kernel) ?_
        refine V.icmpN_gt (t := 109) (q := 66) dX2_felt_63 (by decide) rfl (by omega) (by omega) (fun c63 => ?_) (fun c63 => ?_)
        · have ei : i = 40 := by omega
          subst ei
          refine V.bipush (q := 111) (v := (-9)) dX2_felt_109 rfl (by decide +kernel) ?_
          exact V.ret_int hB dX2_felt_111 rfl ⟨_, rfl, XP.yes hX (hF) (by unfold q_felt; simp only [stN_some hk (Nat.le_trans hn6 (by decide)), stN_some ho (Nat.le_trans hn6 (by decide))]; rw [hno]; rfl)⟩
        · refine V.aload_n (q := 67) dX2_felt_66 rfl rfl ?_
          refine V.getR (q := 70) dX2_felt_67 rfl kf_X2_22 rfl (by decide) rfl ?_
          refine V.cvv0 (q := 73) dX2_felt_70 rfl kc_X2_100 rfl (by decide) rfl (hB.rm (by decide)) (Nat.le_of_ble_eq_true rfl) (c_passYear t28 hR (by omega)) (fun τ70 hp70 => ?_)
          obtain ⟨hR4, hF4⟩ := hp70
          have hT4 := hT.ot hF4 (by decide)
          refine V.aload_n (q := 74) dX2_felt_73 rfl rfl ?_
          refine V.getR (q := 77) dX2_felt_74 rfl kf_X2_19 rfl (by decide) rfl ?_
          refine V.cvv0 (q := 80) dX2_felt_77 rfl kc_X2_100 rfl (by decide) rfl (hB.rm (by decide)) (Nat.le_of_ble_eq_true rfl) (c_passYear t19 hT4 (by omega)) (fun τ77 hp77 => ?_)
          obtain ⟨hT5, hF5⟩ := hp77
          have hR5 := hR4.ot hF5 (by decide)
          have hF6 := (hF.tr (Fs.of hF4 (Or.inr rfl))).tr (Fs.of hF5 (Or.inl rfl))
          have b1 := (hT5.w o ho).2.1
          have b2 := (hR5.w o ho).2.1
          refine V.aload_n (q := 81) dX2_felt_80 rfl rfl ?_
          refine V.getR (q := 84) dX2_felt_81 rfl kf_X2_19 rfl (by decide) rfl ?_
          refine V.getRn (q := 87) dX2_felt_84 rfl kf_X2_76 rfl (by decide) rfl ?_
          refine V.iload_n (q := 88) dX2_felt_87 rfl rfl ?_
          refine V.ialdN (q := 89) dX2_felt_88 rfl rfl (by decide) (by omega) (by decide) (TA.a hT5 1 (by decide) (by omega)) ?_
          refine V.aload_n (q := 90) dX2_felt_89 rfl rfl ?_
          refine V.getR (q := 93) dX2_felt_90 rfl kf_X2_22 rfl (by decide) rfl ?_
          refine V.getRn (q := 96) dX2_felt_93 rfl kf_X2_76 rfl (by decide) rfl ?_
          refine V.iload_n (q := 97) dX2_felt_96 rfl rfl ?_
          refine V.ialdN (q := 98) dX2_felt_97 rfl rfl (by decide) (by omega) (by decide) (TA.a hR5 1 (by decide) (by omega)) ?_
          refine V.icmpN_eq (t := 103) (q := 101) dX2_felt_98 (by decide) rfl (by omega) (by omega) (fun c98 => ?_) (fun c98 => ?_)
          · have hp9 := fsK_n hno (show ¬ decide (yrsM n y k 6 τ (i + 1) 1 o ≠ yM n y τ (i + 1) 1 o) = true from fun h9 => absurd c98 (of_decide_eq_true h9))
            refine V.inc3 (q := 106) dX2_felt_103 rfl (inc1 _) ?_
            refine V.goto (q := 60) dX2_felt_106 (by decide) ?_
            exact ih (by omega) _ hR5 hT5 hF6 hp9
          · have hp9 := fsK_y hno (show decide (yrsM n y k 6 τ (i + 1) 1 o ≠ yM n y τ (i + 1) 1 o) = true from decide_eq_true c98)
            refine V.iload_n (q := 102) dX2_felt_101 rfl rfl ?_
            exact V.ret_int hB dX2_felt_102 rfl ⟨_, rfl, XP.yes hX (hF6) (by unfold q_felt; simp only [stN_some hk (Nat.le_trans hn6 (by decide)), stN_some ho (Nat.le_trans hn6 (by decide))]; rw [fsK_up hp9 (show i + 1 ≤ 40 by omega)]; rfl)⟩
      exact loop 0 (by decide) _ hR3 hT2 hFs rfl
    · rw [hz]
      refine V.ifN_ne (t := 28) (q := 22) dX2_felt_19 (by decide) rfl (by omega) (fun c19 => absurd c19 (by decide +kernel)) (fun c19 => ?_)
      refine V.aload_n (q := 23) dX2_felt_22 rfl rfl ?_
      refine V.iconst (q := 24) (v := (-1)) dX2_felt_23 rfl (by decide +kernel) ?_
      refine V.cvi1 (q := 27) dX2_felt_24 rfl kc_X2_53 rfl (by decide) rfl (hB.rm (by decide)) (Nat.le_of_ble_eq_true rfl) (p_refuse hX (k := 1) (v := -1) (by decide) (by decide) (by decide +kernel)) (fun r24 τ24 hp24 => ?_)
      obtain ⟨rfl, hz⟩ := hp24
      rw [hz]
      exact V.ret_int hB dX2_felt_27 rfl ⟨_, rfl, XP.no hX (by simp [q_felt, stN_some hk (Nat.le_trans hn6 (by decide)), stN_none hso]) (by decide) (by decide +kernel)⟩
  · rw [hz]
    refine V.ifN_eq (t := 22) (q := 11) dX2_felt_8 (by decide) rfl (by omega) (fun c8 => ?_) (fun c8 => absurd c8 (by decide +kernel))
    refine V.aload_n (q := 23) dX2_felt_22 rfl rfl ?_
    refine V.iconst (q := 24) (v := (-1)) dX2_felt_23 rfl (by decide +kernel) ?_
    refine V.cvi1 (q := 27) dX2_felt_24 rfl kc_X2_53 rfl (by decide) rfl (hB.rm (by decide)) (Nat.le_of_ble_eq_true rfl) (p_refuse hX (k := 1) (v := -1) (by decide) (by decide) (by decide +kernel)) (fun r24 τ24 hp24 => ?_)
    obtain ⟨rfl, hz⟩ := hp24
    rw [hz]
    exact V.ret_int hB dX2_felt_27 rfl ⟨_, rfl, XP.no hX (by simp [q_felt, stN_none hsk]) (by decide) (by decide +kernel)⟩

-- worth
set_option maxHeartbeats 4000000 in
set_option maxRecDepth 100000 in
theorem p_worth {σ : Sg} {n y : Nat} {τ : Nat → Nat → Nat} {fl n2 y2 : Nat} {τ2 : Nat → Nat → Nat} {m : Nat} {cs : Nat → Nat} {rl : Nat} {ro rc : Nat → Nat} (hX : XR σ n y τ fl n2 y2 τ2 m cs rl ro rc) (v : Int32) (w : Int32) : Con 5 yX2_worth cX2_worth 4 (some .int) [.ref 0, .int v, .int w] σ (PI (XW σ n y τ fl n2 y2 τ2 m cs rl ro rc (q_worth n y τ v w))) := by
  refine Con.of (by decide) (by simp [Value.category]) (Nat.le_of_ble_eq_true rfl) (fun x hB => ?_)
  show V x RX2 cX2_worth 4 0 [some (.ref 0), some (.int v), some (.int w), none] [] _
  have hN := hX.now
  have hn6 := hN.n6
  have hy9 := hX.y9
  refine V.aload_n (q := 1) dX2_worth_0 rfl rfl ?_
  refine V.getR (q := 4) dX2_worth_1 rfl kf_X2_12 rfl (by decide) rfl ?_
  refine V.iload_n (q := 5) dX2_worth_4 rfl rfl ?_
  refine V.cvi1 (q := 8) dX2_worth_5 rfl kc_X2_69 rfl (by decide) rfl (hB.rm (by decide)) (Nat.le_of_ble_eq_true rfl) (c_isStreet t1 hN v) (fun r5 τ5 hp5 => ?_)
  obtain ⟨hz, ⟨rfl, k, hk, rfl⟩ | ⟨rfl, hsk⟩⟩ := hp5
  · rw [hz]
    refine V.iload_n (q := 9) dX2_worth_8 rfl rfl ?_
    refine V.iconst (q := 10) (v := nI 0) dX2_worth_9 rfl (by decide +kernel) ?_
    refine V.bipush (q := 12) (v := nI 60) dX2_worth_10 rfl (by decide +kernel) ?_
    refine V.csi4 (q := 15) dX2_worth_12 rfl kc_X2_45 (hB.rm (by decide)) (Nat.le_of_ble_eq_true rfl) (p_rof w 0 60 (by decide) (by decide)) (fun r12 τ12 hp12 => ?_)
    obtain ⟨hz, ⟨hrf, rfl⟩ | ⟨hrf, rfl⟩ | ⟨rfl, j, hj1, hj2, rfl⟩⟩ := hp12
    · rw [hz]
      refine V.ist3 (q := 16) dX2_worth_15 rfl ?_
      refine V.iload_n (q := 17) dX2_worth_16 rfl rfl ?_
      refine V.if_eq (t := 29) (q := 20) dX2_worth_17 (by decide) rfl  (fun c17 => absurd c17 (by decide +kernel)) (fun c17 => ?_)
      refine V.ldc (q := 22) dX2_worth_20 rfl kk_X2_135 ?_
      refine V.aload_n (q := 23) dX2_worth_22 rfl rfl ?_
      refine V.iload_n (q := 24) dX2_worth_23 rfl rfl ?_
      refine V.cvi1 (q := 27) dX2_worth_24 rfl kc_X2_53 rfl (by decide) rfl (hB.rm (by decide)) (Nat.le_of_ble_eq_true rfl) (p_refuse hX (k := 4) (v := -4) (by decide) (by decide) (by decide +kernel)) (fun r24 τ24 hp24 => ?_)
      obtain ⟨rfl, hz⟩ := hp24
      rw [hz]
      refine V.isub (q := 28) dX2_worth_27 rfl ?_
      exact V.ret_int hB dX2_worth_28 rfl ⟨_, rfl, XW.no hX (by simp [q_worth, stN_some hk (Nat.le_trans hn6 (by decide)), rfq_4 hrf]) (by decide) (by decide +kernel)⟩
    · rw [hz]
      refine V.ist3 (q := 16) dX2_worth_15 rfl ?_
      refine V.iload_n (q := 17) dX2_worth_16 rfl rfl ?_
      refine V.if_eq (t := 29) (q := 20) dX2_worth_17 (by decide) rfl  (fun c17 => absurd c17 (by decide +kernel)) (fun c17 => ?_)
      refine V.ldc (q := 22) dX2_worth_20 rfl kk_X2_135 ?_
      refine V.aload_n (q := 23) dX2_worth_22 rfl rfl ?_
      refine V.iload_n (q := 24) dX2_worth_23 rfl rfl ?_
      refine V.cvi1 (q := 27) dX2_worth_24 rfl kc_X2_53 rfl (by decide) rfl (hB.rm (by decide)) (Nat.le_of_ble_eq_true rfl) (p_refuse hX (k := 6) (v := -6) (by decide) (by decide) (by decide +kernel)) (fun r24 τ24 hp24 => ?_)
      obtain ⟨rfl, hz⟩ := hp24
      rw [hz]
      refine V.isub (q := 28) dX2_worth_27 rfl ?_
      exact V.ret_int hB dX2_worth_28 rfl ⟨_, rfl, XW.no hX (by simp [q_worth, stN_some hk (Nat.le_trans hn6 (by decide)), rfq_6 hrf]) (by decide) (by decide +kernel)⟩
    · rw [hz]
      refine V.ist3 (q := 16) dX2_worth_15 rfl ?_
      refine V.iload_n (q := 17) dX2_worth_16 rfl rfl ?_
      refine V.ifN_eq (t := 29) (q := 20) dX2_worth_17 (by decide) rfl (by omega) (fun c17 => ?_) (fun c17 => absurd c17 (by decide +kernel))
      refine V.aload_n (q := 30) dX2_worth_29 rfl rfl ?_
      refine V.getR (q := 33) dX2_worth_30 rfl kf_X2_22 rfl (by decide) rfl ?_
      refine V.aload_n (q := 34) dX2_worth_33 rfl rfl ?_
      refine V.getR (q := 37) dX2_worth_34 rfl kf_X2_12 rfl (by decide) rfl ?_
      refine V.cvv1 (q := 40) dX2_worth_37 rfl kc_X2_106 rfl (by decide) rfl (hB.rm (by decide)) (Nat.le_of_ble_eq_true rfl) (c_copyFrom t28 t1 (by decide) hN) (fun τ37 hp37 => ?_)
      obtain ⟨hR1, hF1⟩ := hp37
      have hN1 := hN.ot hF1 (by decide)
      refine V.aload_n (q := 41) dX2_worth_40 rfl rfl ?_
      refine V.getR (q := 44) dX2_worth_41 rfl kf_X2_19 rfl (by decide) rfl ?_
      refine V.aload_n (q := 45) dX2_worth_44 rfl rfl ?_
      refine V.getR (q := 48) dX2_worth_45 rfl kf_X2_12 rfl (by decide) rfl ?_
      refine V.cvv1 (q := 51) dX2_worth_48 rfl kc_X2_106 rfl (by decide) rfl (hB.rm (by decide)) (Nat.le_of_ble_eq_true rfl) (c_copyFrom t19 t1 (by decide) hN1) (fun τ48 hp48 => ?_)
      obtain ⟨hT1, hF2⟩ := hp48
      have hR2 := hR1.ot hF2 (by decide)
      refine V.aload_n (q := 52) dX2_worth_51 rfl rfl ?_
      refine V.getR (q := 55) dX2_worth_52 rfl kf_X2_19 rfl (by decide) rfl ?_
      refine V.iload_n (q := 56) dX2_worth_55 rfl rfl ?_
      refine V.putIn (q := 59) dX2_worth_56 rfl kp_X2_132 rfl (by decide) rfl rfl rfl ?_
      have hT2 := hT1.wz (z2 := k)
      rw [nz_in (by omega)] at hT2
      have hR3 := hR2.wo (o := 19) (k := 10) (x := nI k) (fun h9 => by omega)
      have hFs := ((Fs.of hF1 (Or.inr rfl)).tr (Fs.of hF2 (Or.inl rfl))).w (o := 19) (k := 10) (v := nI k) (by decide) (by decide) (by decide) (by decide)
      refine V.aload_n (q := 60) dX2_worth_59 rfl rfl ?_
      refine V.getR (q := 63) dX2_worth_60 rfl kf_X2_19 rfl (by decide) rfl ?_
      refine V.iload_n (q := 64) dX2_worth_63 rfl rfl ?_
      refine V.cvi1 (q := 67) dX2_worth_64 rfl kc_X2_110 rfl (by decide) rfl (hB.rm (by decide)) (Nat.le_of_ble_eq_true rfl) (c_mudBehind t19 hT2 (k := j) (by omega)) (fun r64 τ64 hp64 => ?_)
      obtain ⟨rfl, hT4, hF4⟩ := hp64
      have hR4 := hR3.ot hF4 (by decide)
      refine V.aload_n (q := 68) dX2_worth_67 rfl rfl ?_
      refine V.getR (q := 71) dX2_worth_68 rfl kf_X2_22 rfl (by decide) rfl ?_
      refine V.iload_n (q := 72) dX2_worth_71 rfl rfl ?_
      refine V.cvi1 (q := 75) dX2_worth_72 rfl kc_X2_110 rfl (by decide) rfl (hB.rm (by decide)) (Nat.le_of_ble_eq_true rfl) (c_mudBehind t28 hR4 (k := j) (by omega)) (fun r72 τ72 hp72 => ?_)
      obtain ⟨rfl, hR5, hF5⟩ := hp72
      refine V.isub (q := 76) dX2_worth_75 rfl ?_
      exact V.ret_int hB dX2_worth_76 rfl ⟨_, rfl, XW.yes hX ((hFs.tr (Fs.of hF4 (Or.inl rfl))).tr (Fs.of hF5 (Or.inr rfl))) (by unfold q_worth; simp only [stN_some hk (Nat.le_trans hn6 (by decide))]; rw [rfq_in hj1 hj2 (by decide), tn_nI (by omega)]; rfl)⟩
  · rw [hz]
    refine V.iload_n (q := 9) dX2_worth_8 rfl rfl ?_
    refine V.iconst (q := 10) (v := nI 0) dX2_worth_9 rfl (by decide +kernel) ?_
    refine V.bipush (q := 12) (v := nI 60) dX2_worth_10 rfl (by decide +kernel) ?_
    refine V.csi4 (q := 15) dX2_worth_12 rfl kc_X2_45 (hB.rm (by decide)) (Nat.le_of_ble_eq_true rfl) (p_rof0) (fun r12 τ12 hp12 => ?_)
    obtain ⟨rfl, hz⟩ := hp12
    rw [hz]
    refine V.ist3 (q := 16) dX2_worth_15 rfl ?_
    refine V.iload_n (q := 17) dX2_worth_16 rfl rfl ?_
    refine V.if_eq (t := 29) (q := 20) dX2_worth_17 (by decide) rfl  (fun c17 => absurd c17 (by decide +kernel)) (fun c17 => ?_)
    refine V.ldc (q := 22) dX2_worth_20 rfl kk_X2_135 ?_
    refine V.aload_n (q := 23) dX2_worth_22 rfl rfl ?_
    refine V.iload_n (q := 24) dX2_worth_23 rfl rfl ?_
    refine V.cvi1 (q := 27) dX2_worth_24 rfl kc_X2_53 rfl (by decide) rfl (hB.rm (by decide)) (Nat.le_of_ble_eq_true rfl) (p_refuse hX (k := 1) (v := -1) (by decide) (by decide) (by decide +kernel)) (fun r24 τ24 hp24 => ?_)
    obtain ⟨rfl, hz⟩ := hp24
    rw [hz]
    refine V.isub (q := 28) dX2_worth_27 rfl ?_
    exact V.ret_int hB dX2_worth_28 rfl ⟨_, rfl, XW.no hX (by simp [q_worth, stN_none hsk]) (by decide) (by decide +kernel)⟩
end
section
/-! more questions, and what changes -/
def chI (g : Nat → Nat → Nat) (one : Nat) (s : Nat × Int32) : Nat → Nat × Int32
  | 0 => s
  | o + 1 => if g one o < (chI g one s o).1 then (g one o, nI (10 * one + o)) else chI g one s o
def chO (g : Nat → Nat → Nat) (n : Nat) (s : Nat × Int32) : Nat → Nat × Int32
  | 0 => s
  | i + 1 => chI g i (chO g n s i) n
theorem chI_n {g : Nat → Nat → Nat} {one o : Nat} {s : Nat × Int32} (h : ¬ g one o < (chI g one s o).1) : chI g one s (o + 1) = chI g one s o := by
  conv => lhs; unfold chI
  rw [if_neg h]
theorem chI_y {g : Nat → Nat → Nat} {one o : Nat} {s : Nat × Int32} (h : g one o < (chI g one s o).1) : chI g one s (o + 1) = (g one o, nI (10 * one + o)) := by
  conv => lhs; unfold chI
  rw [if_pos h]
def chG (n y : Nat) (τ : Nat → Nat → Nat) (j : Nat) (a b : Nat) : Nat := sumK (yM n y (setF τ 5 (upN (τ 5) a b)) j 1) n
def q_change (n y : Nat) (τ : Nat → Nat → Nat) (v : Int32) : Nat × Int32 := rfq v 1 30 (chO (chG n y τ (tn v)) n (sumK (yM n y τ (tn v) 1) n, -9) n).2
def cuK (g : Nat → Nat) : Nat → Nat × Nat
  | 0 => (55, 0)
  | k + 1 => if g k < (cuK g k).1 then (g k, k) else cuK g k
theorem cuK_n {g : Nat → Nat} {k : Nat} (h : ¬ g k < (cuK g k).1) : cuK g (k + 1) = cuK g k := by
  conv => lhs; unfold cuK
  rw [if_neg h]
theorem cuK_y {g : Nat → Nat} {k : Nat} (h : g k < (cuK g k).1) : cuK g (k + 1) = (g k, k) := by
  conv => lhs; unfold cuK
  rw [if_pos h]
def cuG (n y : Nat) (τ : Nat → Nat → Nat) (j k : Nat) (a : Nat) : Nat := sumK (yM n y (setF τ 0 (upN (τ 0) k a)) j 1) n
def q_cure (n y : Nat) (τ : Nat → Nat → Nat) (v w : Int32) : Nat × Int32 := match stN v n with
  | none => (1, 0)
  | some k => rfq w 1 30 (nI (cuK (cuG n y τ (tn w) k) 6).2)
def q_putIn (n y : Nat) (τ : Nat → Nat → Nat) (v w u : Int32) : Nat × Int32 := match stN v n with
  | none => (1, 0)
  | some k => if w < 0 ∨ u < nI 1 then (4, 0) else if nI 4 < w ∨ nI 30 < u ∨ n = 6 then (6, 0)
    else (0, nI (sumK (yrsM (n + 1) y 6 6 (putM n τ k (tn w)) (tn u) 1) (n + 1)))
def q_takeOut (n y : Nat) (τ : Nat → Nat → Nat) (v w : Int32) : Nat × Int32 := match stN v n with
  | none => (1, 0)
  | some k => rfq w 1 30 (nI (sumK (yrsM n y 6 k (leaveM τ k) (tn w) 1) n) - nI (yrsM n y 6 k (leaveM τ k) (tn w) 1 k))
def ftB (n : Nat) (ro g : Nat → Nat) : Bool := (List.range n).all (fun i => decide (ro i = g i))
theorem ftB_iff {n : Nat} {ro g : Nat → Nat} : ftB n ro g = true ↔ ∀ i, i < n → ro i = g i := by
  unfold ftB
  rw [List.all_eq_true]
  constructor
  · intro h i hi; exact of_decide_eq_true (h i (List.mem_range.mpr hi))
  · intro h i hi; exact decide_eq_true (h i (List.mem_range.mp hi))
def q_fitting (n y : Nat) (τ : Nat → Nat → Nat) (rl : Nat) (ro : Nat → Nat) (v w : Int32) : Nat × Int32 := match stN v n with
  | none => (1, 0)
  | some k => if rfN w 1 30 = 0 then (if rl = n then (0, nI (bsK (fun a => ftB n ro (yM n y (setF τ 0 (upN (τ 0) k a)) (tn w) 1)) 6)) else (3, 0)) else (rfN w 1 30, 0)
def fnM (rl n : Nat) (ro g : Nat → Nat) : Int32 := match fsK (fun i => decide (ro i ≠ g i)) (min rl n) with
  | some i => nI i
  | none => if rl = n then -9 else nI (min rl n)
def wv (z : Int32) : Nat := z.toBitVec.toNat % 2 ^ 31 / 256 % 4
def z1 (z : Int32) : Int32 := z * 1664525 + 1013904223
def zK (z : Int32) : Nat → Int32
  | 0 => z
  | k + 1 => z1 (zK z k)
def sdM (n y : Nat) (τ : Nat → Nat → Nat) (z : Int32) : Nat → Int32 × (Nat → Nat → Nat)
  | 0 => (z, τ)
  | p + 1 => (zK (sdM n y τ z p).1 n, yrM n (y + p) 6 6 (setF (sdM n y τ z p).2 2 (fun s => wv (zK (sdM n y τ z p).1 (s + 1)))))
def q_seeds (n y : Nat) (τ : Nat → Nat → Nat) (v w : Int32) : Nat × Int32 := rfq v 1 30 (nI (sumK ((sdM n y τ w (tn v)).2 1) n))
def q_count (n y : Nat) (τ : Nat → Nat → Nat) (rl m : Nat) (rc : Nat → Nat) (v : Int32) : Nat × Int32 := match stN v 17 with
  | none => (0, -9)
  | some k => if 11 ≤ k then (0, nI (rc (k - 10))) else if k = 0 then (0, nI n) else if k = 1 then (0, nI y) else if k = 2 then (0, nI (sumK (τ 1) n))
    else if k = 3 then (0, nI (sumK (τ 4) n)) else if k = 4 then (0, nI rl) else if k = 5 then (0, nI m) else (0, -9)
def q_letter (m : Nat) (v : Int32) : Nat × Int32 := if rfN v 0 255 = 0 then (if m = 64 then (6, 0) else (0, nI (m + 1))) else (rfN v 0 255, 0)
def q_row (rl : Nat) (v : Int32) : Nat × Int32 := if rfN v 0 9 = 0 then (if rl = 6 then (6, 0) else (0, nI (rl + 1))) else (rfN v 0 9, 0)
theorem sumK_b {n : Nat} {τ : Nat → Nat → Nat} (h : WFt n τ) (hn : n ≤ 6) : sumK (τ 1) n ≤ 54 := by
  have := sumK_le (g := τ 1) (b := 9) (n := n) (fun i hi => (h i hi).2.1) n (Nat.le_refl n)
  omega
theorem wvI {z : Int32} : (z &&& 2147483647) / nI 256 - (z &&& 2147483647) / nI 256 / nI 4 * nI 4 = nI (wv z) := by
  have h := Nat.mod_lt z.toBitVec.toNat (show 2 ^ 31 > 0 by decide)
  rw [pk_and z 31 (by decide +kernel), pk_div (by omega) (by decide) (by decide), pk_rem (by omega) (by decide) (by decide)]
  rfl
theorem wv_le (z : Int32) : wv z ≤ 3 := by unfold wv; omega
theorem i2c_all : ∀ j, j < 256 → ((nI j).toUInt32 % 65536).toInt32 = nI j := by decide +kernel
section XS
variable {σ σ1 : Sg} {n y : Nat} {τ : Nat → Nat → Nat} {fl n2 y2 : Nat} {τ2 : Nat → Nat → Nat} {m : Nat} {cs : Nat → Nat} {rl : Nat} {ro rc : Nat → Nat}
theorem XR.app {c : Nat} (h : XR σ n y τ fl n2 y2 τ2 m cs rl ro rc) (hm : m < 64) (hc : c < 256) : XR (w2 (w2 σ 38 m (nI c)) 37 1 (nI (m + 1))) n y τ fl n2 y2 τ2 (m + 1) (upN cs m c) rl ro rc := by
  obtain ⟨⟨a1, a2⟩, ⟨b1, b2, b3⟩, c1, ⟨d1, d2, d3⟩, e⟩ := h
  refine ⟨⟨(a1.wo (fun h9 => by omega)).wo (fun h9 => by omega), a2⟩, ⟨?_, b2, fun h9 => ⟨((b3 h9).1.wo (fun h9 => by omega)).wo (fun h9 => by omega), (b3 h9).2⟩⟩, c1.app hm hc, ⟨?_, d2, ?_⟩, ?_⟩
  · rw [w2_ne (by decide), w2_ne (by decide)]; exact b1
  · rw [w2_ne (by decide), w2_ne (by decide)]; exact d1
  · rw [w2_ne (by decide), w2_ne (by decide)]; exact d3
  · rw [w2_ne (by decide), w2_ne (by decide)]; exact e
theorem XR.clr (h : XR σ n y τ fl n2 y2 τ2 m cs rl ro rc) : XR (w2 σ 37 1 (nI 0)) n y τ fl n2 y2 τ2 0 cs rl ro rc := by
  obtain ⟨⟨a1, a2⟩, ⟨b1, b2, b3⟩, c1, ⟨d1, d2, d3⟩, e⟩ := h
  refine ⟨⟨a1.wo (fun h9 => by omega), a2⟩, ⟨?_, b2, fun h9 => ⟨(b3 h9).1.wo (fun h9 => by omega), (b3 h9).2⟩⟩, ⟨by decide, by rw [w2_at], fun i hi => absurd hi (by omega)⟩, ⟨?_, d2, ?_⟩, ?_⟩
  · rw [w2_ne (by decide)]; exact b1
  · rw [w2_ne (by decide)]; exact d1
  · rw [w2_ne (by decide)]; exact d3
  · rw [w2_ne (by decide)]; exact e
theorem XR.row {c : Nat} (h : XR σ n y τ fl n2 y2 τ2 m cs rl ro rc) (hr : rl < 6) (hc : c ≤ 9) : XR (w2 (w2 σ 41 rl (nI c)) 0 9 (nI (rl + 1))) n y τ fl n2 y2 τ2 m cs (rl + 1) (upN ro rl c) rc := by
  obtain ⟨⟨a1, a2⟩, ⟨b1, b2, b3⟩, c1, ⟨d1, d2, d3⟩, e⟩ := h
  refine ⟨⟨(a1.wo (fun h9 => by omega)).wo (fun h9 => by omega), a2⟩, ⟨?_, b2, fun h9 => ⟨((b3 h9).1.wo (fun h9 => by omega)).wo (fun h9 => by omega), (b3 h9).2⟩⟩, ⟨c1.1, ?_, ?_⟩, ⟨by rw [w2_at], by omega, fun i hi => ?_⟩, ?_⟩
  · rw [w2_nk (by decide), w2_ne (by decide)]; exact b1
  · rw [w2_ne (by decide), w2_ne (by decide)]; exact c1.2.1
  · rw [w2_ne (by decide), w2_ne (by decide)]; exact c1.2.2
  · rw [w2_ne (by decide), w2_rd]; unfold upN
    by_cases h9 : i = rl
    · rw [if_pos ⟨rfl, h9⟩, if_pos h9]; exact ⟨rfl, hc⟩
    · rw [if_neg (fun q => h9 q.2), if_neg h9]; exact d3 i (by omega)
  · rw [w2_ne (by decide), w2_ne (by decide)]; exact e
theorem XR.rl00 (h : XR σ n y τ fl n2 y2 τ2 m cs rl ro rc) : XR (w2 σ 0 9 (nI 0)) n y τ fl n2 y2 τ2 m cs 0 ro rc := by
  obtain ⟨⟨a1, a2⟩, ⟨b1, b2, b3⟩, c1, ⟨d1, d2, d3⟩, e⟩ := h
  refine ⟨⟨a1.wo (fun h9 => by omega), a2⟩, ⟨?_, b2, fun h9 => ⟨(b3 h9).1.wo (fun h9 => by omega), (b3 h9).2⟩⟩, ⟨c1.1, ?_, ?_⟩, ⟨by rw [w2_at], by decide, fun i hi => absurd hi (by omega)⟩, ?_⟩
  · rw [w2_nk (by decide)]; exact b1
  · rw [w2_ne (by decide)]; exact c1.2.1
  · rw [w2_ne (by decide)]; exact c1.2.2
  · rw [w2_ne (by decide)]; exact e
theorem XR.img (h : XR σ n y τ fl n2 y2 τ2 m cs rl ro rc) (hT : TA σ1 10 n y 6 6 τ) (hF : Fr 10 σ σ1) : XR (w2 σ1 0 10 (nI 1)) n y τ 1 n y τ m cs rl ro rc := by
  obtain ⟨⟨a1, a2⟩, ⟨b1, b2, b3⟩, c1, ⟨d1, d2, d3⟩, e⟩ := h
  refine ⟨⟨(a1.ot hF (by decide)).wo (fun h9 => by omega), a2⟩, ⟨by rw [w2_at], Nat.le_refl 1, fun _ => ⟨hT.wo (fun h9 => by omega), a2⟩⟩, ⟨c1.1, ?_, ?_⟩, ⟨?_, d2, ?_⟩, ?_⟩
  · rw [w2_ne (by decide), hF 37 (by decide)]; exact c1.2.1
  · rw [w2_ne (by decide), hF 38 (by decide)]; exact c1.2.2
  · rw [w2_nk (by decide), hF 0 (by decide)]; exact d1
  · rw [w2_ne (by decide), hF 41 (by decide)]; exact d3
  · rw [w2_ne (by decide), hF 42 (by decide)]; exact e
theorem XR.bk (h : XR σ n y τ fl n2 y2 τ2 m cs rl ro rc) (hf : fl = 1) : TA σ 10 n2 y2 6 6 τ2 ∧ y2 ≤ 999 := h.2.1.2.2 hf
end XS
end
section
-- mends
set_option maxHeartbeats 4000000 in
set_option maxRecDepth 100000 in
theorem p_mends {σ : Sg} {n y : Nat} {τ : Nat → Nat → Nat} {fl n2 y2 : Nat} {τ2 : Nat → Nat → Nat} {m : Nat} {cs : Nat → Nat} {rl : Nat} {ro rc : Nat → Nat} (hX : XR σ n y τ fl n2 y2 τ2 m cs rl ro rc) (v : Int32) (w : Int32) : Con 3 yX2_mends cX2_mends 4 (some .int) [.ref 0, .int v, .int w] σ (PI (fun r σ1 => r = rA (q_mends n τ v w) ∧ XR σ1 n y (u_mends n τ v w) fl n2 y2 τ2 m cs rl ro (rU rc (q_mends n τ v w)) ∧ Fx σ σ1)) := by
  refine Con.of (by decide) (by simp [Value.category]) (Nat.le_of_ble_eq_true rfl) (fun x hB => ?_)
  show V x RX2 cX2_mends 4 0 [some (.ref 0), some (.int v), some (.int w), none] [] _
  have hN := hX.now
  have hn6 := hN.n6
  have hy9 := hX.y9
  refine V.aload_n (q := 1) dX2_mends_0 rfl rfl ?_
  refine V.getR (q := 4) dX2_mends_1 rfl kf_X2_12 rfl (by decide) rfl ?_
  refine V.iload_n (q := 5) dX2_mends_4 rfl rfl ?_
  refine V.cvi1 (q := 8) dX2_mends_5 rfl kc_X2_69 rfl (by decide) rfl (hB.rm (by decide)) (Nat.le_of_ble_eq_true rfl) (c_isStreet t1 hN v) (fun r5 τ5 hp5 => ?_)
  obtain ⟨hz, ⟨rfl, k, hk, rfl⟩ | ⟨rfl, hsk⟩⟩ := hp5
  · rw [hz]
    refine V.ifN_eq (t := 22) (q := 11) dX2_mends_8 (by decide) rfl (by omega) (fun c8 => absurd c8 (by decide +kernel)) (fun c8 => ?_)
    refine V.aload_n (q := 12) dX2_mends_11 rfl rfl ?_
    refine V.getR (q := 15) dX2_mends_12 rfl kf_X2_12 rfl (by decide) rfl ?_
    refine V.iload_n (q := 16) dX2_mends_15 rfl rfl ?_
    refine V.cvi1 (q := 19) dX2_mends_16 rfl kc_X2_69 rfl (by decide) rfl (hB.rm (by decide)) (Nat.le_of_ble_eq_true rfl) (c_isStreet t1 hN w) (fun r16 τ16 hp16 => ?_)
    obtain ⟨hz, ⟨rfl, o, ho, rfl⟩ | ⟨rfl, hso⟩⟩ := hp16
    · rw [hz]
      refine V.ifN_ne (t := 28) (q := 22) dX2_mends_19 (by decide) rfl (by omega) (fun c19 => ?_) (fun c19 => absurd c19 (by decide +kernel))
      refine V.aload_n (q := 29) dX2_mends_28 rfl rfl ?_
      refine V.getR (q := 32) dX2_mends_29 rfl kf_X2_12 rfl (by decide) rfl ?_
      refine V.getRn (q := 35) dX2_mends_32 rfl kf_X2_88 rfl (by decide) rfl ?_
      refine V.iload_n (q := 36) dX2_mends_35 rfl rfl ?_
      refine V.ialdN (q := 37) dX2_mends_36 rfl rfl (by decide) (by omega) (by decide) (TA.a hN 5 (by decide) (by omega)) ?_
      refine V.ist3 (q := 38) dX2_mends_37 rfl ?_
      refine V.aload_n (q := 39) dX2_mends_38 rfl rfl ?_
      refine V.getR (q := 42) dX2_mends_39 rfl kf_X2_12 rfl (by decide) rfl ?_
      refine V.getRn (q := 45) dX2_mends_42 rfl kf_X2_88 rfl (by decide) rfl ?_
      refine V.iload_n (q := 46) dX2_mends_45 rfl rfl ?_
      refine V.iload_n (q := 47) dX2_mends_46 rfl rfl ?_
      refine V.iastN (q := 48) dX2_mends_47 rfl rfl (by decide) (by omega) (by decide) ?_
      refine V.iload_n (q := 49) dX2_mends_48 rfl rfl ?_
      exact V.ret_int hB dX2_mends_49 rfl ⟨_, rfl, (by
    have hq : q_mends n τ (nI k) (nI o) = (0, nI (τ 5 k)) := by simp [q_mends, stN_some hk (Nat.le_trans hn6 (by decide)), stN_some ho (Nat.le_trans hn6 (by decide))]
    have hu : u_mends n τ (nI k) (nI o) = setF τ 5 (upN (τ 5) k o) := by simp [u_mends, stN_some hk (Nat.le_trans hn6 (by decide)), stN_some ho (Nat.le_trans hn6 (by decide))]
    rw [hq, hu]
    exact ⟨rfl, hX.wn (hN.wr (f := 5) (by decide) hk (by unfold okF; omega)) hy9 (fun q hq => w2_ne (by omega)), fun q hq => w2_ne (by omega)⟩)⟩
    · rw [hz]
      refine V.ifN_ne (t := 28) (q := 22) dX2_mends_19 (by decide) rfl (by omega) (fun c19 => absurd c19 (by decide +kernel)) (fun c19 => ?_)
      refine V.aload_n (q := 23) dX2_mends_22 rfl rfl ?_
      refine V.iconst (q := 24) (v := (-1)) dX2_mends_23 rfl (by decide +kernel) ?_
      refine V.cvi1 (q := 27) dX2_mends_24 rfl kc_X2_53 rfl (by decide) rfl (hB.rm (by decide)) (Nat.le_of_ble_eq_true rfl) (p_refuse hX (k := 1) (v := -1) (by decide) (by decide) (by decide +kernel)) (fun r24 τ24 hp24 => ?_)
      obtain ⟨rfl, hz⟩ := hp24
      rw [hz]
      exact V.ret_int hB dX2_mends_27 rfl ⟨_, rfl, (by
    have hq : q_mends n τ (nI k) w = (1, 0) := by simp [q_mends, stN_some hk (Nat.le_trans hn6 (by decide)), stN_none hso]
    have hu : u_mends n τ (nI k) w = τ := by simp [u_mends, stN_some hk (Nat.le_trans hn6 (by decide)), stN_none hso]
    rw [hu]; exact XP.no (v := -1) hX hq (by decide) (by decide +kernel))⟩
  · rw [hz]
    refine V.ifN_eq (t := 22) (q := 11) dX2_mends_8 (by decide) rfl (by omega) (fun c8 => ?_) (fun c8 => absurd c8 (by decide +kernel))
    refine V.aload_n (q := 23) dX2_mends_22 rfl rfl ?_
    refine V.iconst (q := 24) (v := (-1)) dX2_mends_23 rfl (by decide +kernel) ?_
    refine V.cvi1 (q := 27) dX2_mends_24 rfl kc_X2_53 rfl (by decide) rfl (hB.rm (by decide)) (Nat.le_of_ble_eq_true rfl) (p_refuse hX (k := 1) (v := -1) (by decide) (by decide) (by decide +kernel)) (fun r24 τ24 hp24 => ?_)
    obtain ⟨rfl, hz⟩ := hp24
    rw [hz]
    exact V.ret_int hB dX2_mends_27 rfl ⟨_, rfl, (by
    have hq : q_mends n τ v w = (1, 0) := by simp [q_mends, stN_none hsk]
    have hu : u_mends n τ v w = τ := by simp [u_mends, stN_none hsk]
    rw [hu]; exact XP.no (v := -1) hX hq (by decide) (by decide +kernel))⟩

-- pence
set_option maxHeartbeats 4000000 in
set_option maxRecDepth 100000 in
theorem p_pence {σ : Sg} {n y : Nat} {τ : Nat → Nat → Nat} {fl n2 y2 : Nat} {τ2 : Nat → Nat → Nat} {m : Nat} {cs : Nat → Nat} {rl : Nat} {ro rc : Nat → Nat} (hX : XR σ n y τ fl n2 y2 τ2 m cs rl ro rc) (v : Int32) (w : Int32) : Con 3 yX2_pence cX2_pence 5 (some .int) [.ref 0, .int v, .int w] σ (PI (fun r σ1 => r = rA (q_put 4 99 n τ v w) ∧ XR σ1 n y (u_put 4 99 n τ v w) fl n2 y2 τ2 m cs rl ro (rU rc (q_put 4 99 n τ v w)) ∧ Fx σ σ1)) := by
  refine Con.of (by decide) (by simp [Value.category]) (Nat.le_of_ble_eq_true rfl) (fun x hB => ?_)
  show V x RX2 cX2_pence 5 0 [some (.ref 0), some (.int v), some (.int w), none, none] [] _
  have hN := hX.now
  have hn6 := hN.n6
  have hy9 := hX.y9
  refine V.aload_n (q := 1) dX2_pence_0 rfl rfl ?_
  refine V.getR (q := 4) dX2_pence_1 rfl kf_X2_12 rfl (by decide) rfl ?_
  refine V.iload_n (q := 5) dX2_pence_4 rfl rfl ?_
  refine V.cvi1 (q := 8) dX2_pence_5 rfl kc_X2_69 rfl (by decide) rfl (hB.rm (by decide)) (Nat.le_of_ble_eq_true rfl) (c_isStreet t1 hN v) (fun r5 τ5 hp5 => ?_)
  obtain ⟨hz, ⟨rfl, k, hk, rfl⟩ | ⟨rfl, hsk⟩⟩ := hp5
  · rw [hz]
    refine V.iload_n (q := 9) dX2_pence_8 rfl rfl ?_
    refine V.iconst (q := 10) (v := nI 0) dX2_pence_9 rfl (by decide +kernel) ?_
    refine V.bipush (q := 12) (v := nI 99) dX2_pence_10 rfl (by decide +kernel) ?_
    refine V.csi4 (q := 15) dX2_pence_12 rfl kc_X2_45 (hB.rm (by decide)) (Nat.le_of_ble_eq_true rfl) (p_rof w 0 99 (by decide) (by decide)) (fun r12 τ12 hp12 => ?_)
    obtain ⟨hz, ⟨hrf, rfl⟩ | ⟨hrf, rfl⟩ | ⟨rfl, j, hj1, hj2, rfl⟩⟩ := hp12
    · rw [hz]
      refine V.ist3 (q := 16) dX2_pence_15 rfl ?_
      refine V.iload_n (q := 17) dX2_pence_16 rfl rfl ?_
      refine V.if_eq (t := 26) (q := 20) dX2_pence_17 (by decide) rfl  (fun c17 => absurd c17 (by decide +kernel)) (fun c17 => ?_)
      refine V.aload_n (q := 21) dX2_pence_20 rfl rfl ?_
      refine V.iload_n (q := 22) dX2_pence_21 rfl rfl ?_
      refine V.cvi1 (q := 25) dX2_pence_22 rfl kc_X2_53 rfl (by decide) rfl (hB.rm (by decide)) (Nat.le_of_ble_eq_true rfl) (p_refuse hX (k := 4) (v := -4) (by decide) (by decide) (by decide +kernel)) (fun r22 τ22 hp22 => ?_)
      obtain ⟨rfl, hz⟩ := hp22
      rw [hz]
      exact V.ret_int hB dX2_pence_25 rfl ⟨_, rfl, (by
    have hq : q_put 4 99 n τ (nI k) w = (4, 0) := by simp [q_put, stN_some hk (Nat.le_trans hn6 (by decide)), rfq_4 hrf]
    have hu : u_put 4 99 n τ (nI k) w = τ := by simp [u_put, stN_some hk (Nat.le_trans hn6 (by decide)), hrf]
    rw [hu]; exact XP.no (v := -4) hX hq (by decide) (by decide +kernel))⟩
    · rw [hz]
      refine V.ist3 (q := 16) dX2_pence_15 rfl ?_
      refine V.iload_n (q := 17) dX2_pence_16 rfl rfl ?_
      refine V.if_eq (t := 26) (q := 20) dX2_pence_17 (by decide) rfl  (fun c17 => absurd c17 (by decide +kernel)) (fun c17 => ?_)
      refine V.aload_n (q := 21) dX2_pence_20 rfl rfl ?_
      refine V.iload_n (q := 22) dX2_pence_21 rfl rfl ?_
      refine V.cvi1 (q := 25) dX2_pence_22 rfl kc_X2_53 rfl (by decide) rfl (hB.rm (by decide)) (Nat.le_of_ble_eq_true rfl) (p_refuse hX (k := 6) (v := -6) (by decide) (by decide) (by decide +kernel)) (fun r22 τ22 hp22 => ?_)
      obtain ⟨rfl, hz⟩ := hp22
      rw [hz]
      exact V.ret_int hB dX2_pence_25 rfl ⟨_, rfl, (by
    have hq : q_put 4 99 n τ (nI k) w = (6, 0) := by simp [q_put, stN_some hk (Nat.le_trans hn6 (by decide)), rfq_6 hrf]
    have hu : u_put 4 99 n τ (nI k) w = τ := by simp [u_put, stN_some hk (Nat.le_trans hn6 (by decide)), hrf]
    rw [hu]; exact XP.no (v := -6) hX hq (by decide) (by decide +kernel))⟩
    · rw [hz]
      refine V.ist3 (q := 16) dX2_pence_15 rfl ?_
      refine V.iload_n (q := 17) dX2_pence_16 rfl rfl ?_
      refine V.ifN_eq (t := 26) (q := 20) dX2_pence_17 (by decide) rfl (by omega) (fun c17 => ?_) (fun c17 => absurd c17 (by decide +kernel))
      refine V.aload_n (q := 27) dX2_pence_26 rfl rfl ?_
      refine V.getR (q := 30) dX2_pence_27 rfl kf_X2_12 rfl (by decide) rfl ?_
      refine V.getRn (q := 33) dX2_pence_30 rfl kf_X2_85 rfl (by decide) rfl ?_
      refine V.iload_n (q := 34) dX2_pence_33 rfl rfl ?_
      refine V.ialdN (q := 35) dX2_pence_34 rfl rfl (by decide) (by omega) (by decide) (TA.a hN 4 (by decide) (by omega)) ?_
      refine V.ist4 (q := 37) dX2_pence_35 rfl ?_
      refine V.aload_n (q := 38) dX2_pence_37 rfl rfl ?_
      refine V.getR (q := 41) dX2_pence_38 rfl kf_X2_12 rfl (by decide) rfl ?_
      refine V.getRn (q := 44) dX2_pence_41 rfl kf_X2_85 rfl (by decide) rfl ?_
      refine V.iload_n (q := 45) dX2_pence_44 rfl rfl ?_
      refine V.iload_n (q := 46) dX2_pence_45 rfl rfl ?_
      refine V.iastN (q := 47) dX2_pence_46 rfl rfl (by decide) (by omega) (by decide) ?_
      refine V.iload (q := 49) dX2_pence_47 rfl rfl ?_
      exact V.ret_int hB dX2_pence_49 rfl ⟨_, rfl, (by
    have hq : q_put 4 99 n τ (nI k) (nI j) = (0, nI (τ 4 k)) := by simp [q_put, stN_some hk (Nat.le_trans hn6 (by decide)), rfq_in hj1 hj2 (show 99 < 2 ^ 20 by decide)]
    have hu : u_put 4 99 n τ (nI k) (nI j) = setF τ 4 (upN (τ 4) k j) := by simp [u_put, stN_some hk (Nat.le_trans hn6 (by decide)), rfN_in hj1 hj2 (show 99 < 2 ^ 20 by decide), tn_nI (show j < 2 ^ 31 by omega)]
    rw [hq, hu]
    exact ⟨rfl, hX.wn (hN.wr (f := 4) (by decide) hk (by unfold okF; omega)) hy9 (fun q hq => w2_ne (by omega)), fun q hq => w2_ne (by omega)⟩)⟩
  · rw [hz]
    refine V.iload_n (q := 9) dX2_pence_8 rfl rfl ?_
    refine V.iconst (q := 10) (v := nI 0) dX2_pence_9 rfl (by decide +kernel) ?_
    refine V.bipush (q := 12) (v := nI 99) dX2_pence_10 rfl (by decide +kernel) ?_
    refine V.csi4 (q := 15) dX2_pence_12 rfl kc_X2_45 (hB.rm (by decide)) (Nat.le_of_ble_eq_true rfl) (p_rof0) (fun r12 τ12 hp12 => ?_)
    obtain ⟨rfl, hz⟩ := hp12
    rw [hz]
    refine V.ist3 (q := 16) dX2_pence_15 rfl ?_
    refine V.iload_n (q := 17) dX2_pence_16 rfl rfl ?_
    refine V.if_eq (t := 26) (q := 20) dX2_pence_17 (by decide) rfl  (fun c17 => absurd c17 (by decide +kernel)) (fun c17 => ?_)
    refine V.aload_n (q := 21) dX2_pence_20 rfl rfl ?_
    refine V.iload_n (q := 22) dX2_pence_21 rfl rfl ?_
    refine V.cvi1 (q := 25) dX2_pence_22 rfl kc_X2_53 rfl (by decide) rfl (hB.rm (by decide)) (Nat.le_of_ble_eq_true rfl) (p_refuse hX (k := 1) (v := -1) (by decide) (by decide) (by decide +kernel)) (fun r22 τ22 hp22 => ?_)
    obtain ⟨rfl, hz⟩ := hp22
    rw [hz]
    exact V.ret_int hB dX2_pence_25 rfl ⟨_, rfl, (by
    have hq : q_put 4 99 n τ v w = (1, 0) := by simp [q_put, stN_none hsk]
    have hu : u_put 4 99 n τ v w = τ := by simp [u_put, stN_none hsk]
    rw [hu]; exact XP.no (v := -1) hX hq (by decide) (by decide +kernel))⟩

-- hands
set_option maxHeartbeats 4000000 in
set_option maxRecDepth 100000 in
theorem p_hands {σ : Sg} {n y : Nat} {τ : Nat → Nat → Nat} {fl n2 y2 : Nat} {τ2 : Nat → Nat → Nat} {m : Nat} {cs : Nat → Nat} {rl : Nat} {ro rc : Nat → Nat} (hX : XR σ n y τ fl n2 y2 τ2 m cs rl ro rc) (v : Int32) (w : Int32) : Con 3 yX2_hands cX2_hands 5 (some .int) [.ref 0, .int v, .int w] σ (PI (fun r σ1 => r = rA (q_put 3 4 n τ v w) ∧ XR σ1 n y (u_put 3 4 n τ v w) fl n2 y2 τ2 m cs rl ro (rU rc (q_put 3 4 n τ v w)) ∧ Fx σ σ1)) := by
  refine Con.of (by decide) (by simp [Value.category]) (Nat.le_of_ble_eq_true rfl) (fun x hB => ?_)
  show V x RX2 cX2_hands 5 0 [some (.ref 0), some (.int v), some (.int w), none, none] [] _
  have hN := hX.now
  have hn6 := hN.n6
  have hy9 := hX.y9
  refine V.aload_n (q := 1) dX2_hands_0 rfl rfl ?_
  refine V.getR (q := 4) dX2_hands_1 rfl kf_X2_12 rfl (by decide) rfl ?_
  refine V.iload_n (q := 5) dX2_hands_4 rfl rfl ?_
  refine V.cvi1 (q := 8) dX2_hands_5 rfl kc_X2_69 rfl (by decide) rfl (hB.rm (by decide)) (Nat.le_of_ble_eq_true rfl) (c_isStreet t1 hN v) (fun r5 τ5 hp5 => ?_)
  obtain ⟨hz, ⟨rfl, k, hk, rfl⟩ | ⟨rfl, hsk⟩⟩ := hp5
  · rw [hz]
    refine V.iload_n (q := 9) dX2_hands_8 rfl rfl ?_
    refine V.iconst (q := 10) (v := nI 0) dX2_hands_9 rfl (by decide +kernel) ?_
    refine V.iconst (q := 11) (v := nI 4) dX2_hands_10 rfl (by decide +kernel) ?_
    refine V.csi4 (q := 14) dX2_hands_11 rfl kc_X2_45 (hB.rm (by decide)) (Nat.le_of_ble_eq_true rfl) (p_rof w 0 4 (by decide) (by decide)) (fun r11 τ11 hp11 => ?_)
    obtain ⟨hz, ⟨hrf, rfl⟩ | ⟨hrf, rfl⟩ | ⟨rfl, j, hj1, hj2, rfl⟩⟩ := hp11
    · rw [hz]
      refine V.ist3 (q := 15) dX2_hands_14 rfl ?_
      refine V.iload_n (q := 16) dX2_hands_15 rfl rfl ?_
      refine V.if_eq (t := 25) (q := 19) dX2_hands_16 (by decide) rfl  (fun c16 => absurd c16 (by decide +kernel)) (fun c16 => ?_)
      refine V.aload_n (q := 20) dX2_hands_19 rfl rfl ?_
      refine V.iload_n (q := 21) dX2_hands_20 rfl rfl ?_
      refine V.cvi1 (q := 24) dX2_hands_21 rfl kc_X2_53 rfl (by decide) rfl (hB.rm (by decide)) (Nat.le_of_ble_eq_true rfl) (p_refuse hX (k := 4) (v := -4) (by decide) (by decide) (by decide +kernel)) (fun r21 τ21 hp21 => ?_)
      obtain ⟨rfl, hz⟩ := hp21
      rw [hz]
      exact V.ret_int hB dX2_hands_24 rfl ⟨_, rfl, (by
    have hq : q_put 3 4 n τ (nI k) w = (4, 0) := by simp [q_put, stN_some hk (Nat.le_trans hn6 (by decide)), rfq_4 hrf]
    have hu : u_put 3 4 n τ (nI k) w = τ := by simp [u_put, stN_some hk (Nat.le_trans hn6 (by decide)), hrf]
    rw [hu]; exact XP.no (v := -4) hX hq (by decide) (by decide +kernel))⟩
    · rw [hz]
      refine V.ist3 (q := 15) dX2_hands_14 rfl ?_
      refine V.iload_n (q := 16) dX2_hands_15 rfl rfl ?_
      refine V.if_eq (t := 25) (q := 19) dX2_hands_16 (by decide) rfl  (fun c16 => absurd c16 (by decide +kernel)) (fun c16 => ?_)
      refine V.aload_n (q := 20) dX2_hands_19 rfl rfl ?_
      refine V.iload_n (q := 21) dX2_hands_20 rfl rfl ?_
      refine V.cvi1 (q := 24) dX2_hands_21 rfl kc_X2_53 rfl (by decide) rfl (hB.rm (by decide)) (Nat.le_of_ble_eq_true rfl) (p_refuse hX (k := 6) (v := -6) (by decide) (by decide) (by decide +kernel)) (fun r21 τ21 hp21 => ?_)
      obtain ⟨rfl, hz⟩ := hp21
      rw [hz]
      exact V.ret_int hB dX2_hands_24 rfl ⟨_, rfl, (by
    have hq : q_put 3 4 n τ (nI k) w = (6, 0) := by simp [q_put, stN_some hk (Nat.le_trans hn6 (by decide)), rfq_6 hrf]
    have hu : u_put 3 4 n τ (nI k) w = τ := by simp [u_put, stN_some hk (Nat.le_trans hn6 (by decide)), hrf]
    rw [hu]; exact XP.no (v := -6) hX hq (by decide) (by decide +kernel))⟩
    · rw [hz]
      refine V.ist3 (q := 15) dX2_hands_14 rfl ?_
      refine V.iload_n (q := 16) dX2_hands_15 rfl rfl ?_
      refine V.ifN_eq (t := 25) (q := 19) dX2_hands_16 (by decide) rfl (by omega) (fun c16 => ?_) (fun c16 => absurd c16 (by decide +kernel))
      refine V.aload_n (q := 26) dX2_hands_25 rfl rfl ?_
      refine V.getR (q := 29) dX2_hands_26 rfl kf_X2_12 rfl (by decide) rfl ?_
      refine V.getRn (q := 32) dX2_hands_29 rfl kf_X2_82 rfl (by decide) rfl ?_
      refine V.iload_n (q := 33) dX2_hands_32 rfl rfl ?_
      refine V.ialdN (q := 34) dX2_hands_33 rfl rfl (by decide) (by omega) (by decide) (TA.a hN 3 (by decide) (by omega)) ?_
      refine V.ist4 (q := 36) dX2_hands_34 rfl ?_
      refine V.aload_n (q := 37) dX2_hands_36 rfl rfl ?_
      refine V.getR (q := 40) dX2_hands_37 rfl kf_X2_12 rfl (by decide) rfl ?_
      refine V.getRn (q := 43) dX2_hands_40 rfl kf_X2_82 rfl (by decide) rfl ?_
      refine V.iload_n (q := 44) dX2_hands_43 rfl rfl ?_
      refine V.iload_n (q := 45) dX2_hands_44 rfl rfl ?_
      refine V.iastN (q := 46) dX2_hands_45 rfl rfl (by decide) (by omega) (by decide) ?_
      refine V.iload (q := 48) dX2_hands_46 rfl rfl ?_
      exact V.ret_int hB dX2_hands_48 rfl ⟨_, rfl, (by
    have hq : q_put 3 4 n τ (nI k) (nI j) = (0, nI (τ 3 k)) := by simp [q_put, stN_some hk (Nat.le_trans hn6 (by decide)), rfq_in hj1 hj2 (show 4 < 2 ^ 20 by decide)]
    have hu : u_put 3 4 n τ (nI k) (nI j) = setF τ 3 (upN (τ 3) k j) := by simp [u_put, stN_some hk (Nat.le_trans hn6 (by decide)), rfN_in hj1 hj2 (show 4 < 2 ^ 20 by decide), tn_nI (show j < 2 ^ 31 by omega)]
    rw [hq, hu]
    exact ⟨rfl, hX.wn (hN.wr (f := 3) (by decide) hk (by unfold okF; omega)) hy9 (fun q hq => w2_ne (by omega)), fun q hq => w2_ne (by omega)⟩)⟩
  · rw [hz]
    refine V.iload_n (q := 9) dX2_hands_8 rfl rfl ?_
    refine V.iconst (q := 10) (v := nI 0) dX2_hands_9 rfl (by decide +kernel) ?_
    refine V.iconst (q := 11) (v := nI 4) dX2_hands_10 rfl (by decide +kernel) ?_
    refine V.csi4 (q := 14) dX2_hands_11 rfl kc_X2_45 (hB.rm (by decide)) (Nat.le_of_ble_eq_true rfl) (p_rof0) (fun r11 τ11 hp11 => ?_)
    obtain ⟨rfl, hz⟩ := hp11
    rw [hz]
    refine V.ist3 (q := 15) dX2_hands_14 rfl ?_
    refine V.iload_n (q := 16) dX2_hands_15 rfl rfl ?_
    refine V.if_eq (t := 25) (q := 19) dX2_hands_16 (by decide) rfl  (fun c16 => absurd c16 (by decide +kernel)) (fun c16 => ?_)
    refine V.aload_n (q := 20) dX2_hands_19 rfl rfl ?_
    refine V.iload_n (q := 21) dX2_hands_20 rfl rfl ?_
    refine V.cvi1 (q := 24) dX2_hands_21 rfl kc_X2_53 rfl (by decide) rfl (hB.rm (by decide)) (Nat.le_of_ble_eq_true rfl) (p_refuse hX (k := 1) (v := -1) (by decide) (by decide) (by decide +kernel)) (fun r21 τ21 hp21 => ?_)
    obtain ⟨rfl, hz⟩ := hp21
    rw [hz]
    exact V.ret_int hB dX2_hands_24 rfl ⟨_, rfl, (by
    have hq : q_put 3 4 n τ v w = (1, 0) := by simp [q_put, stN_none hsk]
    have hu : u_put 3 4 n τ v w = τ := by simp [u_put, stN_none hsk]
    rw [hu]; exact XP.no (v := -1) hX hq (by decide) (by decide +kernel))⟩

-- change
set_option maxHeartbeats 4000000 in
set_option maxRecDepth 100000 in
theorem p_change {σ : Sg} {n y : Nat} {τ : Nat → Nat → Nat} {fl n2 y2 : Nat} {τ2 : Nat → Nat → Nat} {m : Nat} {cs : Nat → Nat} {rl : Nat} {ro rc : Nat → Nat} (hX : XR σ n y τ fl n2 y2 τ2 m cs rl ro rc) (v : Int32) : Con 5 yX2_change cX2_change 8 (some .int) [.ref 0, .int v] σ (PI (XP σ n y τ fl n2 y2 τ2 m cs rl ro rc (q_change n y τ v))) := by
  refine Con.of (by decide) (by simp [Value.category]) (Nat.le_of_ble_eq_true rfl) (fun x hB => ?_)
  show V x RX2 cX2_change 8 0 [some (.ref 0), some (.int v), none, none, none, none, none, none] [] _
  have hN := hX.now
  have hn6 := hN.n6
  have hy9 := hX.y9
  refine V.iconst (q := 1) (v := nI 1) dX2_change_0 rfl (by decide +kernel) ?_
  refine V.iload_n (q := 2) dX2_change_1 rfl rfl ?_
  refine V.iconst (q := 3) (v := nI 1) dX2_change_2 rfl (by decide +kernel) ?_
  refine V.bipush (q := 5) (v := nI 30) dX2_change_3 rfl (by decide +kernel) ?_
  refine V.csi4 (q := 8) dX2_change_5 rfl kc_X2_45 (hB.rm (by decide)) (Nat.le_of_ble_eq_true rfl) (p_rof v 1 30 (by decide) (by decide)) (fun r5 τ5 hp5 => ?_)
  obtain ⟨hz, ⟨hrf, rfl⟩ | ⟨hrf, rfl⟩ | ⟨rfl, j, hj1, hj2, rfl⟩⟩ := hp5
  · rw [hz]
    refine V.ist2 (q := 9) dX2_change_8 rfl ?_
    refine V.iload_n (q := 10) dX2_change_9 rfl rfl ?_
    refine V.if_eq (t := 19) (q := 13) dX2_change_10 (by decide) rfl  (fun c10 => absurd c10 (by decide +kernel)) (fun c10 => ?_)
    refine V.aload_n (q := 14) dX2_change_13 rfl rfl ?_
    refine V.iload_n (q := 15) dX2_change_14 rfl rfl ?_
    refine V.cvi1 (q := 18) dX2_change_15 rfl kc_X2_53 rfl (by decide) rfl (hB.rm (by decide)) (Nat.le_of_ble_eq_true rfl) (p_refuse hX (k := 4) (v := -4) (by decide) (by decide) (by decide +kernel)) (fun r15 τ15 hp15 => ?_)
    obtain ⟨rfl, hz⟩ := hp15
    rw [hz]
    exact V.ret_int hB dX2_change_18 rfl ⟨_, rfl, XP.no hX (by simp [q_change, rfq_4 hrf]) (by decide) (by decide +kernel)⟩
  · rw [hz]
    refine V.ist2 (q := 9) dX2_change_8 rfl ?_
    refine V.iload_n (q := 10) dX2_change_9 rfl rfl ?_
    refine V.if_eq (t := 19) (q := 13) dX2_change_10 (by decide) rfl  (fun c10 => absurd c10 (by decide +kernel)) (fun c10 => ?_)
    refine V.aload_n (q := 14) dX2_change_13 rfl rfl ?_
    refine V.iload_n (q := 15) dX2_change_14 rfl rfl ?_
    refine V.cvi1 (q := 18) dX2_change_15 rfl kc_X2_53 rfl (by decide) rfl (hB.rm (by decide)) (Nat.le_of_ble_eq_true rfl) (p_refuse hX (k := 6) (v := -6) (by decide) (by decide) (by decide +kernel)) (fun r15 τ15 hp15 => ?_)
    obtain ⟨rfl, hz⟩ := hp15
    rw [hz]
    exact V.ret_int hB dX2_change_18 rfl ⟨_, rfl, XP.no hX (by simp [q_change, rfq_6 hrf]) (by decide) (by decide +kernel)⟩
  · rw [hz]
    refine V.ist2 (q := 9) dX2_change_8 rfl ?_
    refine V.iload_n (q := 10) dX2_change_9 rfl rfl ?_
    refine V.ifN_eq (t := 19) (q := 13) dX2_change_10 (by decide) rfl (by omega) (fun c10 => ?_) (fun c10 => absurd c10 (by decide +kernel))
    refine V.aload_n (q := 20) dX2_change_19 rfl rfl ?_
    refine V.getR (q := 23) dX2_change_20 rfl kf_X2_19 rfl (by decide) rfl ?_
    refine V.aload_n (q := 24) dX2_change_23 rfl rfl ?_
    refine V.getR (q := 27) dX2_change_24 rfl kf_X2_12 rfl (by decide) rfl ?_
    refine V.cvv1 (q := 30) dX2_change_27 rfl kc_X2_106 rfl (by decide) rfl (hB.rm (by decide)) (Nat.le_of_ble_eq_true rfl) (c_copyFrom t19 t1 (by decide) hN) (fun τ27 hp27 => ?_)
    obtain ⟨hT1, hF1⟩ := hp27
    have hN1 := hN.ot hF1 (by decide)
    refine V.aload_n (q := 31) dX2_change_30 rfl rfl ?_
    refine V.getR (q := 34) dX2_change_31 rfl kf_X2_19 rfl (by decide) rfl ?_
    refine V.iload_n (q := 35) dX2_change_34 rfl rfl ?_
    refine V.cvi1 (q := 38) dX2_change_35 rfl kc_X2_110 rfl (by decide) rfl (hB.rm (by decide)) (Nat.le_of_ble_eq_true rfl) (c_mudBehind t19 hT1 (k := j) (by omega)) (fun r35 τ35 hp35 => ?_)
    obtain ⟨rfl, hT2, hF2⟩ := hp35
    have hN2 := hN1.ot hF2 (by decide)
    refine V.ist3 (q := 39) dX2_change_38 rfl ?_
    have hFs := (Fs.of hF1 (Or.inl rfl)).tr (Fs.of hF2 (Or.inl rfl))
    have hs0 := sumK_b hT2.w hn6
    refine V.bipush (q := 41) (v := (-9)) dX2_change_39 rfl (by decide +kernel) ?_
    refine V.ist4 (q := 43) dX2_change_41 rfl ?_
    refine V.iconst (q := 44) (v := nI 0) dX2_change_43 rfl (by decide +kernel) ?_
    refine V.ist5 (q := 46) dX2_change_44 rfl ?_
    have loop : ∀ i, i ≤ n → ∀ σ1, TA σ1 1 n y 6 6 τ → Fs σ σ1 → ∀ s : Nat × Int32, s = chO (chG n y τ j) n (sumK (yrsM n y 6 6 τ j 1) n, -9) i → s.1 ≤ 54 → ∀ o6 o7, V x RX2 cX2_change 8 46 [some (.ref 0), some (.int (nI j)), some (.int (nI 0)), some (.int (nI s.1)), some (.int s.2), some (.int (nI i)), o6, o7] [] σ1 := by
      refine down n (fun i hi ih σ1 hN3 hF s es hs o6 o7 => ?_)
      refine V.iload (q := 48) dX2_change_46 rfl rfl ?_
      refine V.aload_n (q := 49) dX2_change_48 rfl rfl ?_
      refine V.getR (q := 52) dX2_change_49 rfl kf_X2_12 rfl (by decide) rfl ?_
      refine V.getIn (q := 55) dX2_change_52 rfl kf_X2_120 rfl (by decide) rfl (TA.n8 hN3) ?_
      refine V.icmpN_ge (t := 137) (q := 58) dX2_change_55 (by decide) rfl (by omega) (by omega) (fun c55 => ?_) (fun c55 => ?_)
      · have ei : i = n := by omega
        subst ei
        refine V.iload (q := 139) dX2_change_137 rfl rfl ?_
        exact V.ret_int hB dX2_change_139 rfl ⟨_, rfl, XP.yes hX (hF) (by unfold q_change; rw [rfq_in hj1 hj2 (by decide), tn_nI (by omega), es]; rfl)⟩
      · refine V.iconst (q := 59) (v := nI 0) dX2_change_58 rfl (by decide +kernel) ?_
        refine V.ist6 (q := 61) dX2_change_59 rfl ?_
        have loop2 : ∀ o, o ≤ n → ∀ σ2, TA σ2 1 n y 6 6 τ → Fs σ σ2 → ∀ s2 : Nat × Int32, s2 = chI (chG n y τ j) i s o → s2.1 ≤ 54 → ∀ o7, V x RX2 cX2_change 8 61 [some (.ref 0), some (.int (nI j)), some (.int (nI 0)), some (.int (nI s2.1)), some (.int s2.2), some (.int (nI i)), some (.int (nI o)), o7] [] σ2 := by
          refine down n (fun o ho ih2 σ2 hN4 hF4 s2 es2 hs2 o7 => ?_)
          refine V.iload (q := 63) dX2_change_61 rfl rfl ?_
          refine V.aload_n (q := 64) dX2_change_63 rfl rfl ?_
          refine V.getR (q := 67) dX2_change_64 rfl kf_X2_12 rfl (by decide) rfl ?_
          refine V.getIn (q := 70) dX2_change_67 rfl kf_X2_120 rfl (by decide) rfl (TA.n8 hN4) ?_
          refine V.icmpN_ge (t := 131) (q := 73) dX2_change_70 (by decide) rfl (by omega) (by omega) (fun c70 => ?_) (fun c70 => ?_)
          · have eo : o = n := by omega
            subst eo
            refine V.inc5 (q := 134) dX2_change_131 rfl (inc1 _) ?_
            refine V.goto (q := 46) dX2_change_134 (by decide) ?_
            exact ih c55 _ hN4 hF4 s2 (by rw [es2, es]; rfl) hs2 _ _
          · refine V.aload_n (q := 74) dX2_change_73 rfl rfl ?_
            refine V.getR (q := 77) dX2_change_74 rfl kf_X2_19 rfl (by decide) rfl ?_
            refine V.aload_n (q := 78) dX2_change_77 rfl rfl ?_
            refine V.getR (q := 81) dX2_change_78 rfl kf_X2_12 rfl (by decide) rfl ?_
            refine V.cvv1 (q := 84) dX2_change_81 rfl kc_X2_106 rfl (by decide) rfl (hB.rm (by decide)) (Nat.le_of_ble_eq_true rfl) (c_copyFrom t19 t1 (by decide) hN4) (fun τ81 hp81 => ?_)
            obtain ⟨hT5, hF5⟩ := hp81
            have hN5 := hN4.ot hF5 (by decide)
            refine V.aload_n (q := 85) dX2_change_84 rfl rfl ?_
            refine V.getR (q := 88) dX2_change_85 rfl kf_X2_19 rfl (by decide) rfl ?_
            refine V.getRn (q := 91) dX2_change_88 rfl kf_X2_88 rfl (by decide) rfl ?_
            refine V.iload (q := 93) dX2_change_91 rfl rfl ?_
            refine V.iload (q := 95) dX2_change_93 rfl rfl ?_
            refine V.iastN (q := 96) dX2_change_95 rfl rfl (by decide) (by omega) (by decide) ?_
            have hT6 := hT5.wr (f := 5) (v := o) (by decide) c55 (by unfold okF; omega)
            have hN6 := hN5.wo (o := 25) (k := i) (x := nI o) (fun h9 => by omega)
            have hF6 := ((hF4.tr (Fs.of hF5 (Or.inl rfl))).w (o := 25) (k := i) (v := nI o) (by decide) (by decide) (by decide) (by decide))
            refine V.aload_n (q := 97) dX2_change_96 rfl rfl ?_
            refine V.getR (q := 100) dX2_change_97 rfl kf_X2_19 rfl (by decide) rfl ?_
            refine V.iload_n (q := 101) dX2_change_100 rfl rfl ?_
            refine V.cvi1 (q := 104) dX2_change_101 rfl kc_X2_110 rfl (by decide) rfl (hB.rm (by decide)) (Nat.le_of_ble_eq_true rfl) (c_mudBehind t19 hT6 (k := j) (by omega)) (fun r101 τ101 hp101 => ?_)
            obtain ⟨rfl, hT7, hF7⟩ := hp101
            have hN7 := hN6.ot hF7 (by decide)
            have hF8 := hF6.tr (Fs.of hF7 (Or.inl rfl))
            have hb7 := sumK_b hT7.w hn6
            refine V.ist7 (q := 106) dX2_change_104 rfl ?_
            refine V.iload (q := 108) dX2_change_106 rfl rfl ?_
            refine V.iload_n (q := 109) dX2_change_108 rfl rfl ?_
            refine V.icmpN_ge (t := 125) (q := 112) dX2_change_109 (by decide) rfl (by omega) (by omega) (fun c109 => ?_) (fun c109 => ?_)
            · refine V.inc6 (q := 128) dX2_change_125 rfl (inc1 _) ?_
              refine V.goto (q := 61) dX2_change_128 (by decide) ?_
              exact ih2 c70 _ hN7 hF8 s2 (by rw [chI_n (g := chG n y τ j) (by rw [← es2]; exact Nat.not_lt.mpr c109)]; exact es2) hs2 _
            · refine V.iload (q := 114) dX2_change_112 rfl rfl ?_
              refine V.ist3 (q := 115) dX2_change_114 rfl ?_
              refine V.bipush (q := 117) (v := nI 10) dX2_change_115 rfl (by decide +kernel) ?_
              refine V.iload (q := 119) dX2_change_117 rfl rfl ?_
              refine V.imulN (q := 120) dX2_change_119 rfl ?_
              refine V.iload (q := 122) dX2_change_120 rfl rfl ?_
              refine V.iaddN (q := 123) dX2_change_122 rfl ?_
              refine V.ist4 (q := 125) dX2_change_123 rfl ?_
              refine V.inc6 (q := 128) dX2_change_125 rfl (inc1 _) ?_
              refine V.goto (q := 61) dX2_change_128 (by decide) ?_
              exact ih2 c70 _ hN7 hF8 (sumK (yrsM n y 6 6 (setF τ 5 (upN (τ 5) i o)) j 1) n, nI (10 * i + o)) (by rw [chI_y (g := chG n y τ j) (by rw [← es2]; exact c109)]; rfl) hb7 _
        exact loop2 0 (Nat.zero_le _) σ1 hN3 hF s rfl hs _
    exact loop 0 (Nat.zero_le _) _ hN2 hFs (sumK (yrsM n y 6 6 τ j 1) n, -9) rfl hs0 _ _

-- cure
set_option maxHeartbeats 4000000 in
set_option maxRecDepth 100000 in
theorem p_cure {σ : Sg} {n y : Nat} {τ : Nat → Nat → Nat} {fl n2 y2 : Nat} {τ2 : Nat → Nat → Nat} {m : Nat} {cs : Nat → Nat} {rl : Nat} {ro rc : Nat → Nat} (hX : XR σ n y τ fl n2 y2 τ2 m cs rl ro rc) (v : Int32) (w : Int32) : Con 5 yX2_cure cX2_cure 8 (some .int) [.ref 0, .int v, .int w] σ (PI (XP σ n y τ fl n2 y2 τ2 m cs rl ro rc (q_cure n y τ v w))) := by
  refine Con.of (by decide) (by simp [Value.category]) (Nat.le_of_ble_eq_true rfl) (fun x hB => ?_)
  show V x RX2 cX2_cure 8 0 [some (.ref 0), some (.int v), some (.int w), none, none, none, none, none] [] _
  have hN := hX.now
  have hn6 := hN.n6
  have hy9 := hX.y9
  refine V.aload_n (q := 1) dX2_cure_0 rfl rfl ?_
  refine V.getR (q := 4) dX2_cure_1 rfl kf_X2_12 rfl (by decide) rfl ?_
  refine V.iload_n (q := 5) dX2_cure_4 rfl rfl ?_
  refine V.cvi1 (q := 8) dX2_cure_5 rfl kc_X2_69 rfl (by decide) rfl (hB.rm (by decide)) (Nat.le_of_ble_eq_true rfl) (c_isStreet t1 hN v) (fun r5 τ5 hp5 => ?_)
  obtain ⟨hz, ⟨rfl, k, hk, rfl⟩ | ⟨rfl, hsk⟩⟩ := hp5
  · rw [hz]
    refine V.iload_n (q := 9) dX2_cure_8 rfl rfl ?_
    refine V.iconst (q := 10) (v := nI 1) dX2_cure_9 rfl (by decide +kernel) ?_
    refine V.bipush (q := 12) (v := nI 30) dX2_cure_10 rfl (by decide +kernel) ?_
    refine V.csi4 (q := 15) dX2_cure_12 rfl kc_X2_45 (hB.rm (by decide)) (Nat.le_of_ble_eq_true rfl) (p_rof w 1 30 (by decide) (by decide)) (fun r12 τ12 hp12 => ?_)
    obtain ⟨hz, ⟨hrf, rfl⟩ | ⟨hrf, rfl⟩ | ⟨rfl, j, hj1, hj2, rfl⟩⟩ := hp12
    · rw [hz]
      refine V.ist3 (q := 16) dX2_cure_15 rfl ?_
      refine V.iload_n (q := 17) dX2_cure_16 rfl rfl ?_
      refine V.if_eq (t := 26) (q := 20) dX2_cure_17 (by decide) rfl  (fun c17 => absurd c17 (by decide +kernel)) (fun c17 => ?_)
      refine V.aload_n (q := 21) dX2_cure_20 rfl rfl ?_
      refine V.iload_n (q := 22) dX2_cure_21 rfl rfl ?_
      refine V.cvi1 (q := 25) dX2_cure_22 rfl kc_X2_53 rfl (by decide) rfl (hB.rm (by decide)) (Nat.le_of_ble_eq_true rfl) (p_refuse hX (k := 4) (v := -4) (by decide) (by decide) (by decide +kernel)) (fun r22 τ22 hp22 => ?_)
      obtain ⟨rfl, hz⟩ := hp22
      rw [hz]
      exact V.ret_int hB dX2_cure_25 rfl ⟨_, rfl, XP.no hX (by simp [q_cure, stN_some hk (Nat.le_trans hn6 (by decide)), rfq_4 hrf]) (by decide) (by decide +kernel)⟩
    · rw [hz]
      refine V.ist3 (q := 16) dX2_cure_15 rfl ?_
      refine V.iload_n (q := 17) dX2_cure_16 rfl rfl ?_
      refine V.if_eq (t := 26) (q := 20) dX2_cure_17 (by decide) rfl  (fun c17 => absurd c17 (by decide +kernel)) (fun c17 => ?_)
      refine V.aload_n (q := 21) dX2_cure_20 rfl rfl ?_
      refine V.iload_n (q := 22) dX2_cure_21 rfl rfl ?_
      refine V.cvi1 (q := 25) dX2_cure_22 rfl kc_X2_53 rfl (by decide) rfl (hB.rm (by decide)) (Nat.le_of_ble_eq_true rfl) (p_refuse hX (k := 6) (v := -6) (by decide) (by decide) (by decide +kernel)) (fun r22 τ22 hp22 => ?_)
      obtain ⟨rfl, hz⟩ := hp22
      rw [hz]
      exact V.ret_int hB dX2_cure_25 rfl ⟨_, rfl, XP.no hX (by simp [q_cure, stN_some hk (Nat.le_trans hn6 (by decide)), rfq_6 hrf]) (by decide) (by decide +kernel)⟩
    · rw [hz]
      refine V.ist3 (q := 16) dX2_cure_15 rfl ?_
      refine V.iload_n (q := 17) dX2_cure_16 rfl rfl ?_
      refine V.ifN_eq (t := 26) (q := 20) dX2_cure_17 (by decide) rfl (by omega) (fun c17 => ?_) (fun c17 => absurd c17 (by decide +kernel))
      refine V.bipush (q := 28) (v := nI 55) dX2_cure_26 rfl (by decide +kernel) ?_
      refine V.ist4 (q := 30) dX2_cure_28 rfl ?_
      refine V.iconst (q := 31) (v := nI 0) dX2_cure_30 rfl (by decide +kernel) ?_
      refine V.ist5 (q := 33) dX2_cure_31 rfl ?_
      refine V.iconst (q := 34) (v := nI 0) dX2_cure_33 rfl (by decide +kernel) ?_
      refine V.ist6 (q := 36) dX2_cure_34 rfl ?_
      have loop : ∀ a, a ≤ 6 → ∀ σ1, TA σ1 1 n y 6 6 τ → Fs σ σ1 → ∀ s : Nat × Nat, s = cuK (cuG n y τ j k) a → s.1 ≤ 55 → s.2 ≤ 6 → ∀ o7, V x RX2 cX2_cure 8 36 [some (.ref 0), some (.int (nI k)), some (.int (nI j)), some (.int (nI 0)), some (.int (nI s.1)), some (.int (nI s.2)), some (.int (nI a)), o7] [] σ1 := by
        refine down 6 (fun a ha ih σ1 hN4 hF4 s es hs hs2 o7 => ?_)
        refine V.iload (q := 38) dX2_cure_36 rfl rfl ?_
        refine V.bipush (q := 40) (v := nI 6) dX2_cure_38 rfl (by decide +kernel) ?_
        refine V.icmpN_ge (t := 96) (q := 43) dX2_cure_40 (by decide) rfl (by omega) (by omega) (fun c40 => ?_) (fun c40 => ?_)
        · have ea : a = 6 := by omega
          subst ea
          refine V.iload (q := 98) dX2_cure_96 rfl rfl ?_
          exact V.ret_int hB dX2_cure_98 rfl ⟨_, rfl, XP.yes hX (hF4) (by unfold q_cure; simp only [stN_some hk (Nat.le_trans hn6 (by decide))]; rw [rfq_in hj1 hj2 (by decide), tn_nI (by omega), es])⟩
        · refine V.aload_n (q := 44) dX2_cure_43 rfl rfl ?_
          refine V.getR (q := 47) dX2_cure_44 rfl kf_X2_19 rfl (by decide) rfl ?_
          refine V.aload_n (q := 48) dX2_cure_47 rfl rfl ?_
          refine V.getR (q := 51) dX2_cure_48 rfl kf_X2_12 rfl (by decide) rfl ?_
          refine V.cvv1 (q := 54) dX2_cure_51 rfl kc_X2_106 rfl (by decide) rfl (hB.rm (by decide)) (Nat.le_of_ble_eq_true rfl) (c_copyFrom t19 t1 (by decide) hN4) (fun τ51 hp51 => ?_)
          obtain ⟨hT5, hF5⟩ := hp51
          have hN5 := hN4.ot hF5 (by decide)
          refine V.aload_n (q := 55) dX2_cure_54 rfl rfl ?_
          refine V.getR (q := 58) dX2_cure_55 rfl kf_X2_19 rfl (by decide) rfl ?_
          refine V.getRn (q := 61) dX2_cure_58 rfl kf_X2_73 rfl (by decide) rfl ?_
          refine V.iload_n (q := 62) dX2_cure_61 rfl rfl ?_
          refine V.iload (q := 64) dX2_cure_62 rfl rfl ?_
          refine V.iastN (q := 65) dX2_cure_64 rfl rfl (by decide) (by omega) (by decide) ?_
          have hT6 := hT5.wr (f := 0) (v := a) (by decide) hk (by unfold okF; omega)
          have hN6 := hN5.wo (o := 20) (k := k) (x := nI a) (fun h9 => by omega)
          have hF6 := ((hF4.tr (Fs.of hF5 (Or.inl rfl))).w (o := 20) (k := k) (v := nI a) (by decide) (by decide) (by decide) (by decide))
          refine V.aload_n (q := 66) dX2_cure_65 rfl rfl ?_
          refine V.getR (q := 69) dX2_cure_66 rfl kf_X2_19 rfl (by decide) rfl ?_
          refine V.iload_n (q := 70) dX2_cure_69 rfl rfl ?_
          refine V.cvi1 (q := 73) dX2_cure_70 rfl kc_X2_110 rfl (by decide) rfl (hB.rm (by decide)) (Nat.le_of_ble_eq_true rfl) (c_mudBehind t19 hT6 (k := j) (by omega)) (fun r70 τ70 hp70 => ?_)
          obtain ⟨rfl, hT7, hF7⟩ := hp70
          have hN7 := hN6.ot hF7 (by decide)
          have hF8 := hF6.tr (Fs.of hF7 (Or.inl rfl))
          have hb7 := sumK_b hT7.w hn6
          refine V.ist7 (q := 75) dX2_cure_73 rfl ?_
          refine V.iload (q := 77) dX2_cure_75 rfl rfl ?_
          refine V.iload (q := 79) dX2_cure_77 rfl rfl ?_
          refine V.icmpN_ge (t := 90) (q := 82) dX2_cure_79 (by decide) rfl (by omega) (by omega) (fun c79 => ?_) (fun c79 => ?_)
          · refine V.inc6 (q := 93) dX2_cure_90 rfl (inc1 _) ?_
            refine V.goto (q := 36) dX2_cure_93 (by decide) ?_
            exact ih c40 _ hN7 hF8 s (by rw [cuK_n (g := cuG n y τ j k) (by rw [← es]; exact Nat.not_lt.mpr c79)]; exact es) hs hs2 _
          · refine V.iload (q := 84) dX2_cure_82 rfl rfl ?_
            refine V.ist4 (q := 86) dX2_cure_84 rfl ?_
            refine V.iload (q := 88) dX2_cure_86 rfl rfl ?_
            refine V.ist5 (q := 90) dX2_cure_88 rfl ?_
            refine V.inc6 (q := 93) dX2_cure_90 rfl (inc1 _) ?_
            refine V.goto (q := 36) dX2_cure_93 (by decide) ?_
            exact ih c40 _ hN7 hF8 (sumK (yrsM n y 6 6 (setF τ 0 (upN (τ 0) k a)) j 1) n, a) (by rw [cuK_y (g := cuG n y τ j k) (by rw [← es]; exact c79)]; rfl) (by show _ ≤ 55; omega) (by show a ≤ 6; omega) _
      exact loop 0 (by decide) σ hN Fs.rf (55, 0) rfl (by decide) (by decide) _
  · rw [hz]
    refine V.iload_n (q := 9) dX2_cure_8 rfl rfl ?_
    refine V.iconst (q := 10) (v := nI 1) dX2_cure_9 rfl (by decide +kernel) ?_
    refine V.bipush (q := 12) (v := nI 30) dX2_cure_10 rfl (by decide +kernel) ?_
    refine V.csi4 (q := 15) dX2_cure_12 rfl kc_X2_45 (hB.rm (by decide)) (Nat.le_of_ble_eq_true rfl) (p_rof0) (fun r12 τ12 hp12 => ?_)
    obtain ⟨rfl, hz⟩ := hp12
    rw [hz]
    refine V.ist3 (q := 16) dX2_cure_15 rfl ?_
    refine V.iload_n (q := 17) dX2_cure_16 rfl rfl ?_
    refine V.if_eq (t := 26) (q := 20) dX2_cure_17 (by decide) rfl  (fun c17 => absurd c17 (by decide +kernel)) (fun c17 => ?_)
    refine V.aload_n (q := 21) dX2_cure_20 rfl rfl ?_
    refine V.iload_n (q := 22) dX2_cure_21 rfl rfl ?_
    refine V.cvi1 (q := 25) dX2_cure_22 rfl kc_X2_53 rfl (by decide) rfl (hB.rm (by decide)) (Nat.le_of_ble_eq_true rfl) (p_refuse hX (k := 1) (v := -1) (by decide) (by decide) (by decide +kernel)) (fun r22 τ22 hp22 => ?_)
    obtain ⟨rfl, hz⟩ := hp22
    rw [hz]
    exact V.ret_int hB dX2_cure_25 rfl ⟨_, rfl, XP.no hX (by simp [q_cure, stN_none hsk]) (by decide) (by decide +kernel)⟩

-- putIn
set_option maxHeartbeats 4000000 in
set_option maxRecDepth 100000 in
theorem p_putIn {σ : Sg} {n y : Nat} {τ : Nat → Nat → Nat} {fl n2 y2 : Nat} {τ2 : Nat → Nat → Nat} {m : Nat} {cs : Nat → Nat} {rl : Nat} {ro rc : Nat → Nat} (hX : XR σ n y τ fl n2 y2 τ2 m cs rl ro rc) (v : Int32) (w : Int32) (u : Int32) : Con 5 yX2_putIn cX2_putIn 4 (some .int) [.ref 0, .int v, .int w, .int u] σ (PI (XP σ n y τ fl n2 y2 τ2 m cs rl ro rc (q_putIn n y τ v w u))) := by
  refine Con.of (by decide) (by simp [Value.category]) (Nat.le_of_ble_eq_true rfl) (fun x hB => ?_)
  show V x RX2 cX2_putIn 4 0 [some (.ref 0), some (.int v), some (.int w), some (.int u)] [] _
  have hN := hX.now
  have hn6 := hN.n6
  have hy9 := hX.y9
  refine V.aload_n (q := 1) dX2_putIn_0 rfl rfl ?_
  refine V.getR (q := 4) dX2_putIn_1 rfl kf_X2_12 rfl (by decide) rfl ?_
  refine V.iload_n (q := 5) dX2_putIn_4 rfl rfl ?_
  refine V.cvi1 (q := 8) dX2_putIn_5 rfl kc_X2_69 rfl (by decide) rfl (hB.rm (by decide)) (Nat.le_of_ble_eq_true rfl) (c_isStreet t1 hN v) (fun r5 τ5 hp5 => ?_)
  obtain ⟨hz, ⟨rfl, k, hk, rfl⟩ | ⟨rfl, hsk⟩⟩ := hp5
  · rw [hz]
    refine V.ifN_ne (t := 17) (q := 11) dX2_putIn_8 (by decide) rfl (by omega) (fun c8 => ?_) (fun c8 => absurd c8 (by decide +kernel))
    refine V.iload_n (q := 18) dX2_putIn_17 rfl rfl ?_
    refine V.if_lt (t := 26) (q := 21) dX2_putIn_18 (by decide) rfl  (fun c18 => ?_) (fun c18 => ?_)
    · refine V.aload_n (q := 27) dX2_putIn_26 rfl rfl ?_
      refine V.bipush (q := 29) (v := (-4)) dX2_putIn_27 rfl (by decide +kernel) ?_
      refine V.cvi1 (q := 32) dX2_putIn_29 rfl kc_X2_53 rfl (by decide) rfl (hB.rm (by decide)) (Nat.le_of_ble_eq_true rfl) (p_refuse hX (k := 4) (v := -4) (by decide) (by decide) (by decide +kernel)) (fun r29 τ29 hp29 => ?_)
      obtain ⟨rfl, hz⟩ := hp29
      rw [hz]
      exact V.ret_int hB dX2_putIn_32 rfl ⟨_, rfl, XP.no hX (by simp [q_putIn, stN_some hk (Nat.le_trans hn6 (by decide)), c18]) (by decide) (by decide +kernel)⟩
    · refine V.iload_n (q := 22) dX2_putIn_21 rfl rfl ?_
      refine V.iconst (q := 23) (v := nI 1) dX2_putIn_22 rfl (by decide +kernel) ?_
      refine V.icmp_ge (t := 33) (q := 26) dX2_putIn_23 (by decide) rfl  (fun c23 => ?_) (fun c23 => ?_)
      · have c23b : ¬ u < nI 1 := fun h9 => Int32.not_lt.mpr c23 h9
        refine V.iload_n (q := 34) dX2_putIn_33 rfl rfl ?_
        refine V.iconst (q := 35) (v := nI 4) dX2_putIn_34 rfl (by decide +kernel) ?_
        refine V.icmp_gt (t := 54) (q := 38) dX2_putIn_35 (by decide) rfl  (fun c35 => ?_) (fun c35 => ?_)
        · refine V.aload_n (q := 55) dX2_putIn_54 rfl rfl ?_
          refine V.bipush (q := 57) (v := (-6)) dX2_putIn_55 rfl (by decide +kernel) ?_
          refine V.cvi1 (q := 60) dX2_putIn_57 rfl kc_X2_53 rfl (by decide) rfl (hB.rm (by decide)) (Nat.le_of_ble_eq_true rfl) (p_refuse hX (k := 6) (v := -6) (by decide) (by decide) (by decide +kernel)) (fun r57 τ57 hp57 => ?_)
          obtain ⟨rfl, hz⟩ := hp57
          rw [hz]
          exact V.ret_int hB dX2_putIn_60 rfl ⟨_, rfl, XP.no hX (by simp [q_putIn, stN_some hk (Nat.le_trans hn6 (by decide)), c18, c23b, c35]) (by decide) (by decide +kernel)⟩
        · refine V.iload_n (q := 39) dX2_putIn_38 rfl rfl ?_
          refine V.bipush (q := 41) (v := nI 30) dX2_putIn_39 rfl (by decide +kernel) ?_
          refine V.icmp_gt (t := 54) (q := 44) dX2_putIn_41 (by decide) rfl  (fun c41 => ?_) (fun c41 => ?_)
          · refine V.aload_n (q := 55) dX2_putIn_54 rfl rfl ?_
            refine V.bipush (q := 57) (v := (-6)) dX2_putIn_55 rfl (by decide +kernel) ?_
            refine V.cvi1 (q := 60) dX2_putIn_57 rfl kc_X2_53 rfl (by decide) rfl (hB.rm (by decide)) (Nat.le_of_ble_eq_true rfl) (p_refuse hX (k := 6) (v := -6) (by decide) (by decide) (by decide +kernel)) (fun r57 τ57 hp57 => ?_)
            obtain ⟨rfl, hz⟩ := hp57
            rw [hz]
            exact V.ret_int hB dX2_putIn_60 rfl ⟨_, rfl, XP.no hX (by simp [q_putIn, stN_some hk (Nat.le_trans hn6 (by decide)), c18, c23b, c41]) (by decide) (by decide +kernel)⟩
          · refine V.aload_n (q := 45) dX2_putIn_44 rfl rfl ?_
            refine V.getR (q := 48) dX2_putIn_45 rfl kf_X2_12 rfl (by decide) rfl ?_
            refine V.cvi0 (q := 51) dX2_putIn_48 rfl kc_X2_139 rfl (by decide) rfl (hB.rm (by decide)) (Nat.le_of_ble_eq_true rfl) (c_isFull0 t1 hN.n6 hN.n8) (fun r48 τ48 hp48 => ?_)
            obtain ⟨hz, ⟨rfl, hs⟩ | ⟨rfl, hs⟩⟩ := hp48
            · rw [hz]
              refine V.ifN_eq (t := 61) (q := 54) dX2_putIn_51 (by decide) rfl (by omega) (fun c51 => absurd c51 (by decide +kernel)) (fun c51 => ?_)
              refine V.aload_n (q := 55) dX2_putIn_54 rfl rfl ?_
              refine V.bipush (q := 57) (v := (-6)) dX2_putIn_55 rfl (by decide +kernel) ?_
              refine V.cvi1 (q := 60) dX2_putIn_57 rfl kc_X2_53 rfl (by decide) rfl (hB.rm (by decide)) (Nat.le_of_ble_eq_true rfl) (p_refuse hX (k := 6) (v := -6) (by decide) (by decide) (by decide +kernel)) (fun r57 τ57 hp57 => ?_)
              obtain ⟨rfl, hz⟩ := hp57
              rw [hz]
              exact V.ret_int hB dX2_putIn_60 rfl ⟨_, rfl, XP.no hX (by unfold q_putIn; simp only [stN_some hk (Nat.le_trans hn6 (by decide))]; rw [if_neg (fun h9 => h9.elim c18 c23b), if_pos (Or.inr (Or.inr hs))]) (by decide) (by decide +kernel)⟩
            · rw [hz]
              obtain ⟨a, ha0, ha4, rfl⟩ : ∃ a, 0 ≤ a ∧ a ≤ 4 ∧ w = nI a := rof_in (by rw [nI_0]; exact Int32.not_lt.mp c18) (Int32.not_lt.mp c35) (by decide) (by decide)
              obtain ⟨j, hj1, hj2, rfl⟩ : ∃ j, 1 ≤ j ∧ j ≤ 30 ∧ u = nI j := rof_in c23 (Int32.not_lt.mp c41) (by decide) (by decide)
              refine V.ifN_eq (t := 61) (q := 54) dX2_putIn_51 (by decide) rfl (by omega) (fun c51 => ?_) (fun c51 => absurd c51 (by decide +kernel))
              refine V.aload_n (q := 62) dX2_putIn_61 rfl rfl ?_
              refine V.getR (q := 65) dX2_putIn_62 rfl kf_X2_19 rfl (by decide) rfl ?_
              refine V.aload_n (q := 66) dX2_putIn_65 rfl rfl ?_
              refine V.getR (q := 69) dX2_putIn_66 rfl kf_X2_12 rfl (by decide) rfl ?_
              refine V.cvv1 (q := 72) dX2_putIn_69 rfl kc_X2_106 rfl (by decide) rfl (hB.rm (by decide)) (Nat.le_of_ble_eq_true rfl) (c_copyFrom t19 t1 (by decide) hN) (fun τ69 hp69 => ?_)
              obtain ⟨hT1, hF1⟩ := hp69
              refine V.aload_n (q := 73) dX2_putIn_72 rfl rfl ?_
              refine V.getR (q := 76) dX2_putIn_73 rfl kf_X2_19 rfl (by decide) rfl ?_
              refine V.iload_n (q := 77) dX2_putIn_76 rfl rfl ?_
              refine V.iload_n (q := 78) dX2_putIn_77 rfl rfl ?_
              refine V.cvv2 (q := 81) dX2_putIn_78 rfl kc_X2_140 rfl (by decide) rfl (hB.rm (by decide)) (Nat.le_of_ble_eq_true rfl) (c_putBehind t19 hT1 hk hs ha4) (fun τ78 hp78 => ?_)
              obtain ⟨hT2, hF2⟩ := hp78
              refine V.aload_n (q := 82) dX2_putIn_81 rfl rfl ?_
              refine V.getR (q := 85) dX2_putIn_82 rfl kf_X2_19 rfl (by decide) rfl ?_
              refine V.iload_n (q := 86) dX2_putIn_85 rfl rfl ?_
              refine V.cvi1 (q := 89) dX2_putIn_86 rfl kc_X2_110 rfl (by decide) rfl (hB.rm (by decide)) (Nat.le_of_ble_eq_true rfl) (c_mudBehind t19 hT2 (k := j) (by omega)) (fun r86 τ86 hp86 => ?_)
              obtain ⟨rfl, hT3, hF3⟩ := hp86
              exact V.ret_int hB dX2_putIn_89 rfl ⟨_, rfl, XP.yes hX (((Fs.of hF1 (Or.inl rfl)).tr (Fs.of hF2 (Or.inl rfl))).tr (Fs.of hF3 (Or.inl rfl))) (by unfold q_putIn; simp only [stN_some hk (Nat.le_trans hn6 (by decide))]; rw [if_neg (fun h9 => h9.elim c18 c23b), if_neg (fun h9 => h9.elim c35 (fun h8 => h8.elim c41 (fun h7 => by omega))), tn_nI (by omega), tn_nI (by omega)])⟩
      · refine V.aload_n (q := 27) dX2_putIn_26 rfl rfl ?_
        refine V.bipush (q := 29) (v := (-4)) dX2_putIn_27 rfl (by decide +kernel) ?_
        refine V.cvi1 (q := 32) dX2_putIn_29 rfl kc_X2_53 rfl (by decide) rfl (hB.rm (by decide)) (Nat.le_of_ble_eq_true rfl) (p_refuse hX (k := 4) (v := -4) (by decide) (by decide) (by decide +kernel)) (fun r29 τ29 hp29 => ?_)
        obtain ⟨rfl, hz⟩ := hp29
        rw [hz]
        exact V.ret_int hB dX2_putIn_32 rfl ⟨_, rfl, XP.no hX (by simp [q_putIn, stN_some hk (Nat.le_trans hn6 (by decide)), Int32.not_le.mp c23]) (by decide) (by decide +kernel)⟩
  · rw [hz]
    refine V.ifN_ne (t := 17) (q := 11) dX2_putIn_8 (by decide) rfl (by omega) (fun c8 => absurd c8 (by decide +kernel)) (fun c8 => ?_)
    refine V.aload_n (q := 12) dX2_putIn_11 rfl rfl ?_
    refine V.iconst (q := 13) (v := (-1)) dX2_putIn_12 rfl (by decide +kernel) ?_
    refine V.cvi1 (q := 16) dX2_putIn_13 rfl kc_X2_53 rfl (by decide) rfl (hB.rm (by decide)) (Nat.le_of_ble_eq_true rfl) (p_refuse hX (k := 1) (v := -1) (by decide) (by decide) (by decide +kernel)) (fun r13 τ13 hp13 => ?_)
    obtain ⟨rfl, hz⟩ := hp13
    rw [hz]
    exact V.ret_int hB dX2_putIn_16 rfl ⟨_, rfl, XP.no hX (by simp [q_putIn, stN_none hsk]) (by decide) (by decide +kernel)⟩

-- takeOut
set_option maxHeartbeats 4000000 in
set_option maxRecDepth 100000 in
theorem p_takeOut {σ : Sg} {n y : Nat} {τ : Nat → Nat → Nat} {fl n2 y2 : Nat} {τ2 : Nat → Nat → Nat} {m : Nat} {cs : Nat → Nat} {rl : Nat} {ro rc : Nat → Nat} (hX : XR σ n y τ fl n2 y2 τ2 m cs rl ro rc) (v : Int32) (w : Int32) : Con 5 yX2_takeOut cX2_takeOut 5 (some .int) [.ref 0, .int v, .int w] σ (PI (XP σ n y τ fl n2 y2 τ2 m cs rl ro rc (q_takeOut n y τ v w))) := by
  refine Con.of (by decide) (by simp [Value.category]) (Nat.le_of_ble_eq_true rfl) (fun x hB => ?_)
  show V x RX2 cX2_takeOut 5 0 [some (.ref 0), some (.int v), some (.int w), none, none] [] _
  have hN := hX.now
  have hn6 := hN.n6
  have hy9 := hX.y9
  refine V.aload_n (q := 1) dX2_takeOut_0 rfl rfl ?_
  refine V.getR (q := 4) dX2_takeOut_1 rfl kf_X2_12 rfl (by decide) rfl ?_
  refine V.iload_n (q := 5) dX2_takeOut_4 rfl rfl ?_
  refine V.cvi1 (q := 8) dX2_takeOut_5 rfl kc_X2_69 rfl (by decide) rfl (hB.rm (by decide)) (Nat.le_of_ble_eq_true rfl) (c_isStreet t1 hN v) (fun r5 τ5 hp5 => ?_)
  obtain ⟨hz, ⟨rfl, k, hk, rfl⟩ | ⟨rfl, hsk⟩⟩ := hp5
  · rw [hz]
    refine V.iload_n (q := 9) dX2_takeOut_8 rfl rfl ?_
    refine V.iconst (q := 10) (v := nI 1) dX2_takeOut_9 rfl (by decide +kernel) ?_
    refine V.bipush (q := 12) (v := nI 30) dX2_takeOut_10 rfl (by decide +kernel) ?_
    refine V.csi4 (q := 15) dX2_takeOut_12 rfl kc_X2_45 (hB.rm (by decide)) (Nat.le_of_ble_eq_true rfl) (p_rof w 1 30 (by decide) (by decide)) (fun r12 τ12 hp12 => ?_)
    obtain ⟨hz, ⟨hrf, rfl⟩ | ⟨hrf, rfl⟩ | ⟨rfl, j, hj1, hj2, rfl⟩⟩ := hp12
    · rw [hz]
      refine V.ist3 (q := 16) dX2_takeOut_15 rfl ?_
      refine V.iload_n (q := 17) dX2_takeOut_16 rfl rfl ?_
      refine V.if_eq (t := 26) (q := 20) dX2_takeOut_17 (by decide) rfl  (fun c17 => absurd c17 (by decide +kernel)) (fun c17 => ?_)
      refine V.aload_n (q := 21) dX2_takeOut_20 rfl rfl ?_
      refine V.iload_n (q := 22) dX2_takeOut_21 rfl rfl ?_
      refine V.cvi1 (q := 25) dX2_takeOut_22 rfl kc_X2_53 rfl (by decide) rfl (hB.rm (by decide)) (Nat.le_of_ble_eq_true rfl) (p_refuse hX (k := 4) (v := -4) (by decide) (by decide) (by decide +kernel)) (fun r22 τ22 hp22 => ?_)
      obtain ⟨rfl, hz⟩ := hp22
      rw [hz]
      exact V.ret_int hB dX2_takeOut_25 rfl ⟨_, rfl, XP.no hX (by simp [q_takeOut, stN_some hk (Nat.le_trans hn6 (by decide)), rfq_4 hrf]) (by decide) (by decide +kernel)⟩
    · rw [hz]
      refine V.ist3 (q := 16) dX2_takeOut_15 rfl ?_
      refine V.iload_n (q := 17) dX2_takeOut_16 rfl rfl ?_
      refine V.if_eq (t := 26) (q := 20) dX2_takeOut_17 (by decide) rfl  (fun c17 => absurd c17 (by decide +kernel)) (fun c17 => ?_)
      refine V.aload_n (q := 21) dX2_takeOut_20 rfl rfl ?_
      refine V.iload_n (q := 22) dX2_takeOut_21 rfl rfl ?_
      refine V.cvi1 (q := 25) dX2_takeOut_22 rfl kc_X2_53 rfl (by decide) rfl (hB.rm (by decide)) (Nat.le_of_ble_eq_true rfl) (p_refuse hX (k := 6) (v := -6) (by decide) (by decide) (by decide +kernel)) (fun r22 τ22 hp22 => ?_)
      obtain ⟨rfl, hz⟩ := hp22
      rw [hz]
      exact V.ret_int hB dX2_takeOut_25 rfl ⟨_, rfl, XP.no hX (by simp [q_takeOut, stN_some hk (Nat.le_trans hn6 (by decide)), rfq_6 hrf]) (by decide) (by decide +kernel)⟩
    · rw [hz]
      refine V.ist3 (q := 16) dX2_takeOut_15 rfl ?_
      refine V.iload_n (q := 17) dX2_takeOut_16 rfl rfl ?_
      refine V.ifN_eq (t := 26) (q := 20) dX2_takeOut_17 (by decide) rfl (by omega) (fun c17 => ?_) (fun c17 => absurd c17 (by decide +kernel))
      refine V.aload_n (q := 27) dX2_takeOut_26 rfl rfl ?_
      refine V.getR (q := 30) dX2_takeOut_27 rfl kf_X2_19 rfl (by decide) rfl ?_
      refine V.aload_n (q := 31) dX2_takeOut_30 rfl rfl ?_
      refine V.getR (q := 34) dX2_takeOut_31 rfl kf_X2_12 rfl (by decide) rfl ?_
      refine V.cvv1 (q := 37) dX2_takeOut_34 rfl kc_X2_106 rfl (by decide) rfl (hB.rm (by decide)) (Nat.le_of_ble_eq_true rfl) (c_copyFrom t19 t1 (by decide) hN) (fun τ34 hp34 => ?_)
      obtain ⟨hT1, hF1⟩ := hp34
      refine V.aload_n (q := 38) dX2_takeOut_37 rfl rfl ?_
      refine V.getR (q := 41) dX2_takeOut_38 rfl kf_X2_19 rfl (by decide) rfl ?_
      refine V.iload_n (q := 42) dX2_takeOut_41 rfl rfl ?_
      refine V.cvv1 (q := 45) dX2_takeOut_42 rfl kc_X2_144 rfl (by decide) rfl (hB.rm (by decide)) (Nat.le_of_ble_eq_true rfl) (c_leave t19 hT1 hk) (fun τ42 hp42 => ?_)
      obtain ⟨hT2, hF2⟩ := hp42
      refine V.aload_n (q := 46) dX2_takeOut_45 rfl rfl ?_
      refine V.getR (q := 49) dX2_takeOut_46 rfl kf_X2_19 rfl (by decide) rfl ?_
      refine V.iload_n (q := 50) dX2_takeOut_49 rfl rfl ?_
      refine V.cvi1 (q := 53) dX2_takeOut_50 rfl kc_X2_110 rfl (by decide) rfl (hB.rm (by decide)) (Nat.le_of_ble_eq_true rfl) (c_mudBehind t19 hT2 (k := j) (by omega)) (fun r50 τ50 hp50 => ?_)
      obtain ⟨rfl, hT3, hF3⟩ := hp50
      refine V.ist4 (q := 55) dX2_takeOut_53 rfl ?_
      refine V.iload (q := 57) dX2_takeOut_55 rfl rfl ?_
      refine V.aload_n (q := 58) dX2_takeOut_57 rfl rfl ?_
      refine V.getR (q := 61) dX2_takeOut_58 rfl kf_X2_19 rfl (by decide) rfl ?_
      refine V.iload_n (q := 62) dX2_takeOut_61 rfl rfl ?_
      refine V.cvi1 (q := 65) dX2_takeOut_62 rfl kc_X2_148 rfl (by decide) rfl (hB.rm (by decide)) (Nat.le_of_ble_eq_true rfl) (c_mudOf t19 hT3 hk) (fun r62 τ62 hp62 => ?_)
      obtain ⟨rfl, hz⟩ := hp62
      rw [hz]
      refine V.isub (q := 66) dX2_takeOut_65 rfl ?_
      exact V.ret_int hB dX2_takeOut_66 rfl ⟨_, rfl, XP.yes hX (((Fs.of hF1 (Or.inl rfl)).tr (Fs.of hF2 (Or.inl rfl))).tr (Fs.of hF3 (Or.inl rfl))) (by unfold q_takeOut; simp only [stN_some hk (Nat.le_trans hn6 (by decide))]; rw [rfq_in hj1 hj2 (by decide), tn_nI (by omega)])⟩
  · rw [hz]
    refine V.iload_n (q := 9) dX2_takeOut_8 rfl rfl ?_
    refine V.iconst (q := 10) (v := nI 1) dX2_takeOut_9 rfl (by decide +kernel) ?_
    refine V.bipush (q := 12) (v := nI 30) dX2_takeOut_10 rfl (by decide +kernel) ?_
    refine V.csi4 (q := 15) dX2_takeOut_12 rfl kc_X2_45 (hB.rm (by decide)) (Nat.le_of_ble_eq_true rfl) (p_rof0) (fun r12 τ12 hp12 => ?_)
    obtain ⟨rfl, hz⟩ := hp12
    rw [hz]
    refine V.ist3 (q := 16) dX2_takeOut_15 rfl ?_
    refine V.iload_n (q := 17) dX2_takeOut_16 rfl rfl ?_
    refine V.if_eq (t := 26) (q := 20) dX2_takeOut_17 (by decide) rfl  (fun c17 => absurd c17 (by decide +kernel)) (fun c17 => ?_)
    refine V.aload_n (q := 21) dX2_takeOut_20 rfl rfl ?_
    refine V.iload_n (q := 22) dX2_takeOut_21 rfl rfl ?_
    refine V.cvi1 (q := 25) dX2_takeOut_22 rfl kc_X2_53 rfl (by decide) rfl (hB.rm (by decide)) (Nat.le_of_ble_eq_true rfl) (p_refuse hX (k := 1) (v := -1) (by decide) (by decide) (by decide +kernel)) (fun r22 τ22 hp22 => ?_)
    obtain ⟨rfl, hz⟩ := hp22
    rw [hz]
    exact V.ret_int hB dX2_takeOut_25 rfl ⟨_, rfl, XP.no hX (by simp [q_takeOut, stN_none hsk]) (by decide) (by decide +kernel)⟩
end
