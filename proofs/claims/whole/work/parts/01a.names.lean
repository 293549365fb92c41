-- ===== PART A: goes FIRST, ahead of the names: the tables' words, and 'selects' of the private methods out of them =====
/-- a private method of a class that the tables say can be made, by its rows of tables_1 -/
def lw_okq (q : MethodName × Nat) : Prop := (q.1.cls ≠ "java/lang/invoke/MethodHandle" ∧ q.1.cls ≠ "java/lang/invoke/VarHandle") ∧ Cond.instantiable q.1.cls q.2 ∈ tables_1 ∧ Cond.privateMethod q.1 ∈ tables_1 ∧ Cond.instanceMethod q.1 ∈ tables_1
theorem lw_p0 : lw_okq (⟨"PavedByNext", "refuse", "(I)I"⟩, 11) := ⟨⟨by decide +kernel, by decide +kernel⟩, List.mem_of_getElem? (i := 13) (by decide +kernel), List.mem_of_getElem? (i := 135) (by decide +kernel), List.mem_of_getElem? (i := 136) (by decide +kernel)⟩
theorem lw_p1 : lw_okq (⟨"PavedByNext", "readTown", "()I"⟩, 11) := ⟨⟨by decide +kernel, by decide +kernel⟩, List.mem_of_getElem? (i := 13) (by decide +kernel), List.mem_of_getElem? (i := 148) (by decide +kernel), List.mem_of_getElem? (i := 149) (by decide +kernel)⟩
theorem lw_p2 : lw_okq (⟨"PavedByNext", "comesToTrial", "(I)Z"⟩, 11) := ⟨⟨by decide +kernel, by decide +kernel⟩, List.mem_of_getElem? (i := 13) (by decide +kernel), List.mem_of_getElem? (i := 267) (by decide +kernel), List.mem_of_getElem? (i := 268) (by decide +kernel)⟩
theorem lw_p3 : lw_okq (⟨"PavedByNext$Town", "add", "(IIII)V"⟩, 12) := ⟨⟨by decide +kernel, by decide +kernel⟩, List.mem_of_getElem? (i := 21) (by decide +kernel), List.mem_of_getElem? (i := 289) (by decide +kernel), List.mem_of_getElem? (i := 290) (by decide +kernel)⟩
theorem lw_p4 : lw_okq (⟨"PavedByNext$Town", "workOf", "(II)I"⟩, 12) := ⟨⟨by decide +kernel, by decide +kernel⟩, List.mem_of_getElem? (i := 21) (by decide +kernel), List.mem_of_getElem? (i := 337) (by decide +kernel), List.mem_of_getElem? (i := 338) (by decide +kernel)⟩
theorem lw_p5 : lw_okq (⟨"PavedByNext$Town", "trustOf", "(I)I"⟩, 12) := ⟨⟨by decide +kernel, by decide +kernel⟩, List.mem_of_getElem? (i := 21) (by decide +kernel), List.mem_of_getElem? (i := 341) (by decide +kernel), List.mem_of_getElem? (i := 342) (by decide +kernel)⟩
theorem lw_p6 : lw_okq (⟨"PavedByNext$Town", "payAll", "()V"⟩, 12) := ⟨⟨by decide +kernel, by decide +kernel⟩, List.mem_of_getElem? (i := 21) (by decide +kernel), List.mem_of_getElem? (i := 346) (by decide +kernel), List.mem_of_getElem? (i := 347) (by decide +kernel)⟩
theorem lw_p7 : lw_okq (⟨"PavedByNext$Town", "pay", "(I)V"⟩, 12) := ⟨⟨by decide +kernel, by decide +kernel⟩, List.mem_of_getElem? (i := 21) (by decide +kernel), List.mem_of_getElem? (i := 350) (by decide +kernel), List.mem_of_getElem? (i := 351) (by decide +kernel)⟩
theorem lw_p8 : lw_okq (⟨"PavedByNext", "findBestMap", "(I)I"⟩, 11) := ⟨⟨by decide +kernel, by decide +kernel⟩, List.mem_of_getElem? (i := 13) (by decide +kernel), List.mem_of_getElem? (i := 434) (by decide +kernel), List.mem_of_getElem? (i := 435) (by decide +kernel)⟩
theorem lw_p9 : lw_okq (⟨"PavedByNext", "goToNextMap", "(I)Z"⟩, 11) := ⟨⟨by decide +kernel, by decide +kernel⟩, List.mem_of_getElem? (i := 13) (by decide +kernel), List.mem_of_getElem? (i := 439) (by decide +kernel), List.mem_of_getElem? (i := 440) (by decide +kernel)⟩
theorem lw_p10 : lw_okq (⟨"PavedByNext", "swapInMap", "(II)V"⟩, 11) := ⟨⟨by decide +kernel, by decide +kernel⟩, List.mem_of_getElem? (i := 13) (by decide +kernel), List.mem_of_getElem? (i := 443) (by decide +kernel), List.mem_of_getElem? (i := 444) (by decide +kernel)⟩
theorem lw_p11 : lw_okq (⟨"PavedByNext", "firstNotAsTold", "(LPavedByNext$Town;)I"⟩, 11) := ⟨⟨by decide +kernel, by decide +kernel⟩, List.mem_of_getElem? (i := 13) (by decide +kernel), List.mem_of_getElem? (i := 481) (by decide +kernel), List.mem_of_getElem? (i := 482) (by decide +kernel)⟩
theorem lw_p12 : lw_okq (⟨"PavedByNextModel", "refuse", "(I)I"⟩, 20) := ⟨⟨by decide +kernel, by decide +kernel⟩, List.mem_of_getElem? (i := 513) (by decide +kernel), List.mem_of_getElem? (i := 587) (by decide +kernel), List.mem_of_getElem? (i := 588) (by decide +kernel)⟩
theorem lw_p13 : lw_okq (⟨"PavedByNextModel", "reads", "()I"⟩, 20) := ⟨⟨by decide +kernel, by decide +kernel⟩, List.mem_of_getElem? (i := 513) (by decide +kernel), List.mem_of_getElem? (i := 595) (by decide +kernel), List.mem_of_getElem? (i := 596) (by decide +kernel)⟩
theorem lw_p14 : lw_okq (⟨"PavedByNextModel", "readsStatement", "()Z"⟩, 20) := ⟨⟨by decide +kernel, by decide +kernel⟩, List.mem_of_getElem? (i := 513) (by decide +kernel), List.mem_of_getElem? (i := 599) (by decide +kernel), List.mem_of_getElem? (i := 600) (by decide +kernel)⟩
theorem lw_p15 : lw_okq (⟨"PavedByNextModel", "sign", "()I"⟩, 20) := ⟨⟨by decide +kernel, by decide +kernel⟩, List.mem_of_getElem? (i := 513) (by decide +kernel), List.mem_of_getElem? (i := 603) (by decide +kernel), List.mem_of_getElem? (i := 604) (by decide +kernel)⟩
def lw_privs_1 : List (MethodName × Nat) := [(⟨"PavedByNext", "refuse", "(I)I"⟩, 11), (⟨"PavedByNext", "readTown", "()I"⟩, 11), (⟨"PavedByNext", "comesToTrial", "(I)Z"⟩, 11), (⟨"PavedByNext$Town", "add", "(IIII)V"⟩, 12), (⟨"PavedByNext$Town", "workOf", "(II)I"⟩, 12), (⟨"PavedByNext$Town", "trustOf", "(I)I"⟩, 12), (⟨"PavedByNext$Town", "payAll", "()V"⟩, 12), (⟨"PavedByNext$Town", "pay", "(I)V"⟩, 12), (⟨"PavedByNext", "findBestMap", "(I)I"⟩, 11), (⟨"PavedByNext", "goToNextMap", "(I)Z"⟩, 11), (⟨"PavedByNext", "swapInMap", "(II)V"⟩, 11), (⟨"PavedByNext", "firstNotAsTold", "(LPavedByNext$Town;)I"⟩, 11), (⟨"PavedByNextModel", "refuse", "(I)I"⟩, 20), (⟨"PavedByNextModel", "reads", "()I"⟩, 20), (⟨"PavedByNextModel", "readsStatement", "()Z"⟩, 20), (⟨"PavedByNextModel", "sign", "()I"⟩, 20)]
theorem lw_r1 : ∀ q ∈ lw_privs_1, lw_okq q := List.forall_mem_cons.mpr ⟨lw_p0, List.forall_mem_cons.mpr ⟨lw_p1, List.forall_mem_cons.mpr ⟨lw_p2, List.forall_mem_cons.mpr ⟨lw_p3, List.forall_mem_cons.mpr ⟨lw_p4, List.forall_mem_cons.mpr ⟨lw_p5, List.forall_mem_cons.mpr ⟨lw_p6, List.forall_mem_cons.mpr ⟨lw_p7, List.forall_mem_cons.mpr ⟨lw_p8, List.forall_mem_cons.mpr ⟨lw_p9, List.forall_mem_cons.mpr ⟨lw_p10, List.forall_mem_cons.mpr ⟨lw_p11, List.forall_mem_cons.mpr ⟨lw_p12, List.forall_mem_cons.mpr ⟨lw_p13, List.forall_mem_cons.mpr ⟨lw_p14, List.forall_mem_cons.mpr ⟨lw_p15, fun _ h => absurd h List.not_mem_nil⟩⟩⟩⟩⟩⟩⟩⟩⟩⟩⟩⟩⟩⟩⟩⟩
theorem lw_p16 : lw_okq (⟨"PavedByNextModel", "readsKind", "()Z"⟩, 20) := ⟨⟨by decide +kernel, by decide +kernel⟩, List.mem_of_getElem? (i := 513) (by decide +kernel), List.mem_of_getElem? (i := 607) (by decide +kernel), List.mem_of_getElem? (i := 608) (by decide +kernel)⟩
theorem lw_p17 : lw_okq (⟨"PavedByNextModel", "readsNumber", "(II)Z"⟩, 20) := ⟨⟨by decide +kernel, by decide +kernel⟩, List.mem_of_getElem? (i := 513) (by decide +kernel), List.mem_of_getElem? (i := 614) (by decide +kernel), List.mem_of_getElem? (i := 615) (by decide +kernel)⟩
theorem lw_p18 : lw_okq (⟨"PavedByNextModel", "takes", "(I)Z"⟩, 20) := ⟨⟨by decide +kernel, by decide +kernel⟩, List.mem_of_getElem? (i := 513) (by decide +kernel), List.mem_of_getElem? (i := 621) (by decide +kernel), List.mem_of_getElem? (i := 622) (by decide +kernel)⟩
theorem lw_p19 : lw_okq (⟨"PavedByNextModel", "comes", "(I)Z"⟩, 20) := ⟨⟨by decide +kernel, by decide +kernel⟩, List.mem_of_getElem? (i := 513) (by decide +kernel), List.mem_of_getElem? (i := 628) (by decide +kernel), List.mem_of_getElem? (i := 629) (by decide +kernel)⟩
theorem lw_p20 : lw_okq (⟨"PavedByNextModel", "isStreet", "(I)Z"⟩, 20) := ⟨⟨by decide +kernel, by decide +kernel⟩, List.mem_of_getElem? (i := 513) (by decide +kernel), List.mem_of_getElem? (i := 639) (by decide +kernel), List.mem_of_getElem? (i := 640) (by decide +kernel)⟩
theorem lw_p21 : lw_okq (⟨"PavedByNextModel", "fed", "(I)I"⟩, 20) := ⟨⟨by decide +kernel, by decide +kernel⟩, List.mem_of_getElem? (i := 513) (by decide +kernel), List.mem_of_getElem? (i := 643) (by decide +kernel), List.mem_of_getElem? (i := 644) (by decide +kernel)⟩
theorem lw_p22 : lw_okq (⟨"PavedByNextModel", "get", "(II)I"⟩, 20) := ⟨⟨by decide +kernel, by decide +kernel⟩, List.mem_of_getElem? (i := 513) (by decide +kernel), List.mem_of_getElem? (i := 647) (by decide +kernel), List.mem_of_getElem? (i := 648) (by decide +kernel)⟩
theorem lw_p23 : lw_okq (⟨"PavedByNextModel", "puts", "(III)V"⟩, 20) := ⟨⟨by decide +kernel, by decide +kernel⟩, List.mem_of_getElem? (i := 513) (by decide +kernel), List.mem_of_getElem? (i := 655) (by decide +kernel), List.mem_of_getElem? (i := 656) (by decide +kernel)⟩
theorem lw_p24 : lw_okq (⟨"PavedByNextModel", "becomes", "(IIII)I"⟩, 20) := ⟨⟨by decide +kernel, by decide +kernel⟩, List.mem_of_getElem? (i := 513) (by decide +kernel), List.mem_of_getElem? (i := 663) (by decide +kernel), List.mem_of_getElem? (i := 664) (by decide +kernel)⟩
theorem lw_p25 : lw_okq (⟨"PavedByNextModel", "goes", "()V"⟩, 20) := ⟨⟨by decide +kernel, by decide +kernel⟩, List.mem_of_getElem? (i := 513) (by decide +kernel), List.mem_of_getElem? (i := 675) (by decide +kernel), List.mem_of_getElem? (i := 676) (by decide +kernel)⟩
theorem lw_p26 : lw_okq (⟨"PavedByNextModel", "mendsBy", "(I)I"⟩, 20) := ⟨⟨by decide +kernel, by decide +kernel⟩, List.mem_of_getElem? (i := 513) (by decide +kernel), List.mem_of_getElem? (i := 679) (by decide +kernel), List.mem_of_getElem? (i := 680) (by decide +kernel)⟩
theorem lw_p27 : lw_okq (⟨"PavedByNextModel", "trustOf", "(I)I"⟩, 20) := ⟨⟨by decide +kernel, by decide +kernel⟩, List.mem_of_getElem? (i := 513) (by decide +kernel), List.mem_of_getElem? (i := 683) (by decide +kernel), List.mem_of_getElem? (i := 684) (by decide +kernel)⟩
theorem lw_p28 : lw_okq (⟨"PavedByNextModel", "paysFor", "(I)V"⟩, 20) := ⟨⟨by decide +kernel, by decide +kernel⟩, List.mem_of_getElem? (i := 513) (by decide +kernel), List.mem_of_getElem? (i := 687) (by decide +kernel), List.mem_of_getElem? (i := 688) (by decide +kernel)⟩
theorem lw_p29 : lw_okq (⟨"PavedByNextModel", "allMud", "()I"⟩, 20) := ⟨⟨by decide +kernel, by decide +kernel⟩, List.mem_of_getElem? (i := 513) (by decide +kernel), List.mem_of_getElem? (i := 691) (by decide +kernel), List.mem_of_getElem? (i := 692) (by decide +kernel)⟩
theorem lw_p30 : lw_okq (⟨"PavedByNextModel", "mudOf", "(I)I"⟩, 20) := ⟨⟨by decide +kernel, by decide +kernel⟩, List.mem_of_getElem? (i := 513) (by decide +kernel), List.mem_of_getElem? (i := 695) (by decide +kernel), List.mem_of_getElem? (i := 696) (by decide +kernel)⟩
theorem lw_p31 : lw_okq (⟨"PavedByNextModel", "begins", "()V"⟩, 20) := ⟨⟨by decide +kernel, by decide +kernel⟩, List.mem_of_getElem? (i := 513) (by decide +kernel), List.mem_of_getElem? (i := 703) (by decide +kernel), List.mem_of_getElem? (i := 704) (by decide +kernel)⟩
def lw_privs_2 : List (MethodName × Nat) := [(⟨"PavedByNextModel", "readsKind", "()Z"⟩, 20), (⟨"PavedByNextModel", "readsNumber", "(II)Z"⟩, 20), (⟨"PavedByNextModel", "takes", "(I)Z"⟩, 20), (⟨"PavedByNextModel", "comes", "(I)Z"⟩, 20), (⟨"PavedByNextModel", "isStreet", "(I)Z"⟩, 20), (⟨"PavedByNextModel", "fed", "(I)I"⟩, 20), (⟨"PavedByNextModel", "get", "(II)I"⟩, 20), (⟨"PavedByNextModel", "puts", "(III)V"⟩, 20), (⟨"PavedByNextModel", "becomes", "(IIII)I"⟩, 20), (⟨"PavedByNextModel", "goes", "()V"⟩, 20), (⟨"PavedByNextModel", "mendsBy", "(I)I"⟩, 20), (⟨"PavedByNextModel", "trustOf", "(I)I"⟩, 20), (⟨"PavedByNextModel", "paysFor", "(I)V"⟩, 20), (⟨"PavedByNextModel", "allMud", "()I"⟩, 20), (⟨"PavedByNextModel", "mudOf", "(I)I"⟩, 20), (⟨"PavedByNextModel", "begins", "()V"⟩, 20)]
theorem lw_r2 : ∀ q ∈ lw_privs_2, lw_okq q := List.forall_mem_cons.mpr ⟨lw_p16, List.forall_mem_cons.mpr ⟨lw_p17, List.forall_mem_cons.mpr ⟨lw_p18, List.forall_mem_cons.mpr ⟨lw_p19, List.forall_mem_cons.mpr ⟨lw_p20, List.forall_mem_cons.mpr ⟨lw_p21, List.forall_mem_cons.mpr ⟨lw_p22, List.forall_mem_cons.mpr ⟨lw_p23, List.forall_mem_cons.mpr ⟨lw_p24, List.forall_mem_cons.mpr ⟨lw_p25, List.forall_mem_cons.mpr ⟨lw_p26, List.forall_mem_cons.mpr ⟨lw_p27, List.forall_mem_cons.mpr ⟨lw_p28, List.forall_mem_cons.mpr ⟨lw_p29, List.forall_mem_cons.mpr ⟨lw_p30, List.forall_mem_cons.mpr ⟨lw_p31, fun _ h => absurd h List.not_mem_nil⟩⟩⟩⟩⟩⟩⟩⟩⟩⟩⟩⟩⟩⟩⟩⟩
theorem lw_p32 : lw_okq (⟨"PavedByNextModel", "goesFor", "(I)V"⟩, 20) := ⟨⟨by decide +kernel, by decide +kernel⟩, List.mem_of_getElem? (i := 513) (by decide +kernel), List.mem_of_getElem? (i := 707) (by decide +kernel), List.mem_of_getElem? (i := 708) (by decide +kernel)⟩
theorem lw_p33 : lw_okq (⟨"PavedByNextModel", "ends", "()V"⟩, 20) := ⟨⟨by decide +kernel, by decide +kernel⟩, List.mem_of_getElem? (i := 513) (by decide +kernel), List.mem_of_getElem? (i := 711) (by decide +kernel), List.mem_of_getElem? (i := 712) (by decide +kernel)⟩
theorem lw_p34 : lw_okq (⟨"PavedByNextModel", "isAsThen", "()Z"⟩, 20) := ⟨⟨by decide +kernel, by decide +kernel⟩, List.mem_of_getElem? (i := 513) (by decide +kernel), List.mem_of_getElem? (i := 723) (by decide +kernel), List.mem_of_getElem? (i := 724) (by decide +kernel)⟩
theorem lw_p35 : lw_okq (⟨"PavedByNextModel", "wayOf", "(II)I"⟩, 20) := ⟨⟨by decide +kernel, by decide +kernel⟩, List.mem_of_getElem? (i := 513) (by decide +kernel), List.mem_of_getElem? (i := 731) (by decide +kernel), List.mem_of_getElem? (i := 732) (by decide +kernel)⟩
theorem lw_p36 : lw_okq (⟨"PavedByNextModel", "isOnRing", "(I)Z"⟩, 20) := ⟨⟨by decide +kernel, by decide +kernel⟩, List.mem_of_getElem? (i := 513) (by decide +kernel), List.mem_of_getElem? (i := 739) (by decide +kernel), List.mem_of_getElem? (i := 740) (by decide +kernel)⟩
theorem lw_p37 : lw_okq (⟨"PavedByNextModel", "mudBehind", "(I)I"⟩, 20) := ⟨⟨by decide +kernel, by decide +kernel⟩, List.mem_of_getElem? (i := 513) (by decide +kernel), List.mem_of_getElem? (i := 764) (by decide +kernel), List.mem_of_getElem? (i := 765) (by decide +kernel)⟩
theorem lw_p38 : lw_okq (⟨"PavedByNextModel", "maps", "(III)V"⟩, 20) := ⟨⟨by decide +kernel, by decide +kernel⟩, List.mem_of_getElem? (i := 513) (by decide +kernel), List.mem_of_getElem? (i := 772) (by decide +kernel), List.mem_of_getElem? (i := 773) (by decide +kernel)⟩
theorem lw_p39 : lw_okq (⟨"PavedByNextModel", "isAsTold", "()Z"⟩, 20) := ⟨⟨by decide +kernel, by decide +kernel⟩, List.mem_of_getElem? (i := 513) (by decide +kernel), List.mem_of_getElem? (i := 800) (by decide +kernel), List.mem_of_getElem? (i := 801) (by decide +kernel)⟩
def lw_privs_3 : List (MethodName × Nat) := [(⟨"PavedByNextModel", "goesFor", "(I)V"⟩, 20), (⟨"PavedByNextModel", "ends", "()V"⟩, 20), (⟨"PavedByNextModel", "isAsThen", "()Z"⟩, 20), (⟨"PavedByNextModel", "wayOf", "(II)I"⟩, 20), (⟨"PavedByNextModel", "isOnRing", "(I)Z"⟩, 20), (⟨"PavedByNextModel", "mudBehind", "(I)I"⟩, 20), (⟨"PavedByNextModel", "maps", "(III)V"⟩, 20), (⟨"PavedByNextModel", "isAsTold", "()Z"⟩, 20)]
theorem lw_r3 : ∀ q ∈ lw_privs_3, lw_okq q := List.forall_mem_cons.mpr ⟨lw_p32, List.forall_mem_cons.mpr ⟨lw_p33, List.forall_mem_cons.mpr ⟨lw_p34, List.forall_mem_cons.mpr ⟨lw_p35, List.forall_mem_cons.mpr ⟨lw_p36, List.forall_mem_cons.mpr ⟨lw_p37, List.forall_mem_cons.mpr ⟨lw_p38, List.forall_mem_cons.mpr ⟨lw_p39, fun _ h => absurd h List.not_mem_nil⟩⟩⟩⟩⟩⟩⟩⟩
def lw_privs : List (MethodName × Nat) := lw_privs_1 ++ (lw_privs_2 ++ (lw_privs_3))
def lw_tbl : List Cond := k2_sels lw_privs ++ tables_1
theorem lw_privs_ok : ∀ q ∈ lw_privs, lw_okq q := by
  show ∀ q ∈ lw_privs_1 ++ (lw_privs_2 ++ (lw_privs_3)), lw_okq q
  exact List.forall_mem_append.mpr ⟨lw_r1, List.forall_mem_append.mpr ⟨lw_r2, lw_r3⟩⟩
/-! ===== BEGIN words of one list among another's, by their places ===== -/
theorem goodIn_r {big : List Cond} (ws : List Cond) (ps : List Nat) (hp : ws = ps.filterMap (fun i => big[i]?)) (h : ws.all goodWord = true) : GoodIn big ws := by
  intro w hw
  have h1 := List.all_eq_true.mp h w hw
  rw [hp] at hw
  obtain ⟨i, -, hi⟩ := List.mem_filterMap.mp hw
  have hm : w ∈ big := by first | exact List.mem_of_getElem? hi | exact List.getElem?_mem hi
  exact ⟨hm, good_of_word h1⟩
theorem goodIn_app {big a b : List Cond} (ha : GoodIn big a) (hb : GoodIn big b) : GoodIn big (a ++ b) := fun w h => (List.mem_append.mp h).elim (ha w) (hb w)
theorem goodIn_ca {big a b : List Cond} {c : Cond} (ha : GoodIn big (c :: a)) (hb : GoodIn big b) : GoodIn big (c :: (a ++ b)) := fun w h => (List.mem_cons.mp h).elim (fun e => ha w (List.mem_cons.mpr (Or.inl e))) (fun h => (List.mem_append.mp h).elim (fun h => ha w (List.mem_cons.mpr (Or.inr h))) (hb w))
theorem goodIn_sub {big ws : List Cond} (hm : ∀ w ∈ ws, w ∈ big) (h : ws.all goodWord = true) : GoodIn big ws := fun w hw => ⟨hm w hw, good_of_word (List.all_eq_true.mp h w hw)⟩
/-! ===== END ===== -/

/-! ===== BEGIN printed: names, fields, word lists, decode rows ===== -/
def RX0 : String := "PavedByNext$Text"
def TX0 : u_T := fun k => match k with
  | 0 => ("PavedByNext$Text", "letters", "[C", true)
  | _ => ("PavedByNext$Text", "length", "I", false)
def tyX0 : Nat → FieldType := fun k => match k with
  | 0 => .array .char
  | _ => .int
abbrev wsX00 : List Cond := u_ws RX0 TX0 2
theorem nmX0 : ∀ a, a < 2 → ∀ b, b < 2 → a ≠ b → (TX0 a).2.1 ≠ (TX0 b).2.1 := by decide +kernel
theorem tyX0_ok : ∀ k, k < 2 → parseFieldDescriptor (TX0 k).2.2.1 = some (tyX0 k) := by decide +kernel
abbrev cX0_init : ByteArray := prog_2_method_1_code
def yX0_init : MethodName := ⟨RX0, "<init>", "()V"⟩
abbrev cX0_isFull : ByteArray := prog_2_method_2_code
def yX0_isFull : MethodName := ⟨RX0, "isFull", "()Z"⟩
abbrev cX0_append : ByteArray := prog_2_method_3_code
def yX0_append : MethodName := ⟨RX0, "append", "(C)V"⟩
abbrev cX0_at : ByteArray := prog_2_method_4_code
def yX0_at : MethodName := ⟨RX0, "at", "(I)C"⟩
abbrev cX0_digit : ByteArray := prog_2_method_5_code
def yX0_digit : MethodName := ⟨RX0, "digit", "(I)I"⟩
abbrev cX0_oneOrTwoDigits : ByteArray := prog_2_method_6_code
def yX0_oneOrTwoDigits : MethodName := ⟨RX0, "oneOrTwoDigits", "(I)I"⟩
abbrev cX0_formFault : ByteArray := prog_2_method_7_code
def yX0_formFault : MethodName := ⟨RX0, "formFault", "()I"⟩
abbrev cX0_dueBehind : ByteArray := prog_2_method_8_code
def yX0_dueBehind : MethodName := ⟨RX0, "dueBehind", "(IC)I"⟩
abbrev cX0_dueAtEnd : ByteArray := prog_2_method_9_code
def yX0_dueAtEnd : MethodName := ⟨RX0, "dueAtEnd", "(C)I"⟩
abbrev cX0_dueInStatement : ByteArray := prog_2_method_10_code
def yX0_dueInStatement : MethodName := ⟨RX0, "dueInStatement", "(C)I"⟩
abbrev cX0_isDigit : ByteArray := prog_2_method_11_code
def yX0_isDigit : MethodName := ⟨RX0, "isDigit", "(C)Z"⟩
def RX1 : String := "PavedByNext$Town"
def TX1 : u_T := fun k => match k with
  | 0 => ("PavedByNext$Town", "kind", "[I", true)
  | 1 => ("PavedByNext$Town", "mud", "[I", true)
  | 2 => ("PavedByNext$Town", "wear", "[I", true)
  | 3 => ("PavedByNext$Town", "hands", "[I", true)
  | 4 => ("PavedByNext$Town", "pence", "[I", true)
  | 5 => ("PavedByNext$Town", "mends", "[I", true)
  | 6 => ("PavedByNext$Town", "mended", "[I", true)
  | 7 => ("PavedByNext$Town", "work", "[I", true)
  | 8 => ("PavedByNext$Town", "count", "I", false)
  | 9 => ("PavedByNext$Town", "year", "I", false)
  | 10 => ("PavedByNext$Town", "lazed", "I", false)
  | _ => ("PavedByNext$Town", "left", "I", false)
def tyX1 : Nat → FieldType := fun k => match k with
  | 0 => .array .int
  | 1 => .array .int
  | 2 => .array .int
  | 3 => .array .int
  | 4 => .array .int
  | 5 => .array .int
  | 6 => .array .int
  | 7 => .array .int
  | 8 => .int
  | 9 => .int
  | 10 => .int
  | _ => .int
abbrev wsX10 : List Cond := u_ws RX1 TX1 12
theorem nmX1 : ∀ a, a < 12 → ∀ b, b < 12 → a ≠ b → (TX1 a).2.1 ≠ (TX1 b).2.1 := by decide +kernel
theorem tyX1_ok : ∀ k, k < 12 → parseFieldDescriptor (TX1 k).2.2.1 = some (tyX1 k) := by decide +kernel
abbrev cX1_init : ByteArray := prog_3_method_1_code
def yX1_init : MethodName := ⟨RX1, "<init>", "()V"⟩
abbrev cX1_copyFrom : ByteArray := prog_3_method_2_code
def yX1_copyFrom : MethodName := ⟨RX1, "copyFrom", "(LPavedByNext$Town;)V"⟩
abbrev cX1_isStreet : ByteArray := prog_3_method_3_code
def yX1_isStreet : MethodName := ⟨RX1, "isStreet", "(I)Z"⟩
abbrev cX1_isFull : ByteArray := prog_3_method_4_code
def yX1_isFull : MethodName := ⟨RX1, "isFull", "()Z"⟩
abbrev cX1_tell : ByteArray := prog_3_method_5_code
def yX1_tell : MethodName := ⟨RX1, "tell", "(IIII)Z"⟩
abbrev cX1_add : ByteArray := prog_3_method_6_code
def yX1_add : MethodName := ⟨RX1, "add", "(IIII)V"⟩
abbrev cX1_tellWhoMends : ByteArray := prog_3_method_7_code
def yX1_tellWhoMends : MethodName := ⟨RX1, "tellWhoMends", "(II)Z"⟩
abbrev cX1_tellPence : ByteArray := prog_3_method_8_code
def yX1_tellPence : MethodName := ⟨RX1, "tellPence", "(II)Z"⟩
abbrev cX1_putBehind : ByteArray := prog_3_method_9_code
def yX1_putBehind : MethodName := ⟨RX1, "putBehind", "(II)V"⟩
abbrev cX1_leave : ByteArray := prog_3_method_10_code
def yX1_leave : MethodName := ⟨RX1, "leave", "(I)V"⟩
abbrev cX1_mudBehind : ByteArray := prog_3_method_11_code
def yX1_mudBehind : MethodName := ⟨RX1, "mudBehind", "(I)I"⟩
abbrev cX1_passYear : ByteArray := prog_3_method_12_code
def yX1_passYear : MethodName := ⟨RX1, "passYear", "()V"⟩
abbrev cX1_workOf : ByteArray := prog_3_method_13_code
def yX1_workOf : MethodName := ⟨RX1, "workOf", "(II)I"⟩
abbrev cX1_trustOf : ByteArray := prog_3_method_14_code
def yX1_trustOf : MethodName := ⟨RX1, "trustOf", "(I)I"⟩
abbrev cX1_payAll : ByteArray := prog_3_method_15_code
def yX1_payAll : MethodName := ⟨RX1, "payAll", "()V"⟩
abbrev cX1_pay : ByteArray := prog_3_method_16_code
def yX1_pay : MethodName := ⟨RX1, "pay", "(I)V"⟩
abbrev cX1_mudOf : ByteArray := prog_3_method_17_code
def yX1_mudOf : MethodName := ⟨RX1, "mudOf", "(I)I"⟩
abbrev cX1_mudOfAll : ByteArray := prog_3_method_18_code
def yX1_mudOfAll : MethodName := ⟨RX1, "mudOfAll", "()I"⟩
abbrev cX1_penceOfAll : ByteArray := prog_3_method_19_code
def yX1_penceOfAll : MethodName := ⟨RX1, "penceOfAll", "()I"⟩
abbrev cX1_muddiest : ByteArray := prog_3_method_20_code
def yX1_muddiest : MethodName := ⟨RX1, "muddiest", "()I"⟩
abbrev cX1_liesLike : ByteArray := prog_3_method_21_code
def yX1_liesLike : MethodName := ⟨RX1, "liesLike", "(LPavedByNext$Town;)Z"⟩
abbrev cX1_fed : ByteArray := prog_3_method_22_code
def yX1_fed : MethodName := ⟨RX1, "fed", "(I)I"⟩
abbrev cX1_stepFrom : ByteArray := prog_3_method_23_code
def yX1_stepFrom : MethodName := ⟨RX1, "stepFrom", "(I)I"⟩
abbrev cX1_isOnRing : ByteArray := prog_3_method_24_code
def yX1_isOnRing : MethodName := ⟨RX1, "isOnRing", "(I)Z"⟩
abbrev cX1_leastOnTheWayFrom : ByteArray := prog_3_method_25_code
def yX1_leastOnTheWayFrom : MethodName := ⟨RX1, "leastOnTheWayFrom", "(I)I"⟩
def RX2 : String := "PavedByNext"
def TX2 : u_T := fun k => match k with
  | 0 => ("PavedByNext", "now", "LPavedByNext$Town;", true)
  | 1 => ("PavedByNext", "kept", "LPavedByNext$Town;", true)
  | 2 => ("PavedByNext", "trial", "LPavedByNext$Town;", true)
  | 3 => ("PavedByNext", "rival", "LPavedByNext$Town;", true)
  | 4 => ("PavedByNext", "text", "LPavedByNext$Text;", true)
  | 5 => ("PavedByNext", "map", "[I", true)
  | 6 => ("PavedByNext", "bestOfMaps", "[I", true)
  | 7 => ("PavedByNext", "told", "[I", true)
  | 8 => ("PavedByNext", "refused", "[I", true)
  | 9 => ("PavedByNext", "toldLength", "I", false)
  | _ => ("PavedByNext", "imageTaken", "Z", false)
def tyX2 : Nat → FieldType := fun k => match k with
  | 0 => .object "PavedByNext$Town"
  | 1 => .object "PavedByNext$Town"
  | 2 => .object "PavedByNext$Town"
  | 3 => .object "PavedByNext$Town"
  | 4 => .object "PavedByNext$Text"
  | 5 => .array .int
  | 6 => .array .int
  | 7 => .array .int
  | 8 => .array .int
  | 9 => .int
  | _ => .boolean
abbrev wsX20 : List Cond := u_ws RX2 TX2 11
theorem nmX2 : ∀ a, a < 11 → ∀ b, b < 11 → a ≠ b → (TX2 a).2.1 ≠ (TX2 b).2.1 := by decide +kernel
theorem tyX2_ok : ∀ k, k < 11 → parseFieldDescriptor (TX2 k).2.2.1 = some (tyX2 k) := by decide +kernel
abbrev cX2_init : ByteArray := prog_1_method_1_code
def yX2_init : MethodName := ⟨RX2, "<init>", "()V"⟩
abbrev cX2_letter : ByteArray := prog_1_method_2_code
def yX2_letter : MethodName := ⟨RX2, "letter", "(I)I"⟩
abbrev cX2_town : ByteArray := prog_1_method_3_code
def yX2_town : MethodName := ⟨RX2, "town", "()I"⟩
abbrev cX2_street : ByteArray := prog_1_method_4_code
def yX2_street : MethodName := ⟨RX2, "street", "(II)I"⟩
abbrev cX2_mends : ByteArray := prog_1_method_5_code
def yX2_mends : MethodName := ⟨RX2, "mends", "(II)I"⟩
abbrev cX2_pence : ByteArray := prog_1_method_6_code
def yX2_pence : MethodName := ⟨RX2, "pence", "(II)I"⟩
abbrev cX2_hands : ByteArray := prog_1_method_7_code
def yX2_hands : MethodName := ⟨RX2, "hands", "(II)I"⟩
abbrev cX2_year : ByteArray := prog_1_method_8_code
def yX2_year : MethodName := ⟨RX2, "year", "()I"⟩
abbrev cX2_mud : ByteArray := prog_1_method_9_code
def yX2_mud : MethodName := ⟨RX2, "mud", "(II)I"⟩
abbrev cX2_worst : ByteArray := prog_1_method_10_code
def yX2_worst : MethodName := ⟨RX2, "worst", "(II)I"⟩
abbrev cX2_again : ByteArray := prog_1_method_11_code
def yX2_again : MethodName := ⟨RX2, "again", "()I"⟩
abbrev cX2_way : ByteArray := prog_1_method_12_code
def yX2_way : MethodName := ⟨RX2, "way", "(II)I"⟩
abbrev cX2_ring : ByteArray := prog_1_method_13_code
def yX2_ring : MethodName := ⟨RX2, "ring", "()I"⟩
abbrev cX2_tail : ByteArray := prog_1_method_14_code
def yX2_tail : MethodName := ⟨RX2, "tail", "(I)I"⟩
abbrev cX2_rings : ByteArray := prog_1_method_15_code
def yX2_rings : MethodName := ⟨RX2, "rings", "()I"⟩
abbrev cX2_never : ByteArray := prog_1_method_16_code
def yX2_never : MethodName := ⟨RX2, "never", "()I"⟩
abbrev cX2_felt : ByteArray := prog_1_method_17_code
def yX2_felt : MethodName := ⟨RX2, "felt", "(II)I"⟩
abbrev cX2_worth : ByteArray := prog_1_method_18_code
def yX2_worth : MethodName := ⟨RX2, "worth", "(II)I"⟩
abbrev cX2_bestMap : ByteArray := prog_1_method_19_code
def yX2_bestMap : MethodName := ⟨RX2, "bestMap", "(II)I"⟩
abbrev cX2_change : ByteArray := prog_1_method_20_code
def yX2_change : MethodName := ⟨RX2, "change", "(I)I"⟩
abbrev cX2_cure : ByteArray := prog_1_method_21_code
def yX2_cure : MethodName := ⟨RX2, "cure", "(II)I"⟩
abbrev cX2_putIn : ByteArray := prog_1_method_22_code
def yX2_putIn : MethodName := ⟨RX2, "putIn", "(III)I"⟩
abbrev cX2_takeOut : ByteArray := prog_1_method_23_code
def yX2_takeOut : MethodName := ⟨RX2, "takeOut", "(II)I"⟩
abbrev cX2_row : ByteArray := prog_1_method_24_code
def yX2_row : MethodName := ⟨RX2, "row", "(I)I"⟩
abbrev cX2_fitting : ByteArray := prog_1_method_25_code
def yX2_fitting : MethodName := ⟨RX2, "fitting", "(II)I"⟩
abbrev cX2_judge : ByteArray := prog_1_method_26_code
def yX2_judge : MethodName := ⟨RX2, "judge", "()I"⟩
abbrev cX2_seeds : ByteArray := prog_1_method_27_code
def yX2_seeds : MethodName := ⟨RX2, "seeds", "(II)I"⟩
abbrev cX2_image : ByteArray := prog_1_method_28_code
def yX2_image : MethodName := ⟨RX2, "image", "()I"⟩
abbrev cX2_on : ByteArray := prog_1_method_29_code
def yX2_on : MethodName := ⟨RX2, "on", "()I"⟩
abbrev cX2_count : ByteArray := prog_1_method_30_code
def yX2_count : MethodName := ⟨RX2, "count", "(I)I"⟩
abbrev cX2_refuse : ByteArray := prog_1_method_31_code
def yX2_refuse : MethodName := ⟨RX2, "refuse", "(I)I"⟩
abbrev cX2_refusalOf : ByteArray := prog_1_method_32_code
def yX2_refusalOf : MethodName := ⟨RX2, "refusalOf", "(ZIII)I"⟩
abbrev cX2_readTown : ByteArray := prog_1_method_33_code
def yX2_readTown : MethodName := ⟨RX2, "readTown", "()I"⟩
abbrev cX2_comesToTrial : ByteArray := prog_1_method_34_code
def yX2_comesToTrial : MethodName := ⟨RX2, "comesToTrial", "(I)Z"⟩
abbrev cX2_firstNotAsTold : ByteArray := prog_1_method_35_code
def yX2_firstNotAsTold : MethodName := ⟨RX2, "firstNotAsTold", "(LPavedByNext$Town;)I"⟩
abbrev cX2_findBestMap : ByteArray := prog_1_method_36_code
def yX2_findBestMap : MethodName := ⟨RX2, "findBestMap", "(I)I"⟩
abbrev cX2_goToNextMap : ByteArray := prog_1_method_37_code
def yX2_goToNextMap : MethodName := ⟨RX2, "goToNextMap", "(I)Z"⟩
abbrev cX2_swapInMap : ByteArray := prog_1_method_38_code
def yX2_swapInMap : MethodName := ⟨RX2, "swapInMap", "(II)V"⟩
def RX3 : String := "PavedByNextModel"
def TX3 : u_T := fun k => match k with
  | 0 => ("PavedByNextModel", "refusals", "[I", true)
  | 1 => ("PavedByNextModel", "s", "[I", true)
  | 2 => ("PavedByNextModel", "image", "[I", true)
  | 3 => ("PavedByNextModel", "read", "[I", true)
  | 4 => ("PavedByNextModel", "mind", "[I", true)
  | 5 => ("PavedByNextModel", "isImage", "Z", false)
  | 6 => ("PavedByNextModel", "lazed", "I", false)
  | 7 => ("PavedByNextModel", "empty", "I", false)
  | 8 => ("PavedByNextModel", "tape", "[I", true)
  | 9 => ("PavedByNextModel", "told", "[I", true)
  | 10 => ("PavedByNextModel", "taped", "I", false)
  | 11 => ("PavedByNextModel", "at", "I", false)
  | 12 => ("PavedByNextModel", "mended", "[I", true)
  | 13 => ("PavedByNextModel", "then", "[I", true)
  | 14 => ("PavedByNextModel", "muds", "[I", true)
  | 15 => ("PavedByNextModel", "map", "[I", true)
  | 16 => ("PavedByNextModel", "bestMap", "[I", true)
  | 17 => ("PavedByNextModel", "leastMud", "I", false)
  | 18 => ("PavedByNextModel", "row", "[I", true)
  | _ => ("PavedByNextModel", "rowed", "I", false)
def tyX3 : Nat → FieldType := fun k => match k with
  | 0 => .array .int
  | 1 => .array .int
  | 2 => .array .int
  | 3 => .array .int
  | 4 => .array .int
  | 5 => .boolean
  | 6 => .int
  | 7 => .int
  | 8 => .array .int
  | 9 => .array .int
  | 10 => .int
  | 11 => .int
  | 12 => .array .int
  | 13 => .array .int
  | 14 => .array .int
  | 15 => .array .int
  | 16 => .array .int
  | 17 => .int
  | 18 => .array .int
  | _ => .int
abbrev wsX30 : List Cond := u_ws RX3 TX3 20
theorem nmX3 : ∀ a, a < 20 → ∀ b, b < 20 → a ≠ b → (TX3 a).2.1 ≠ (TX3 b).2.1 := by decide +kernel
theorem tyX3_ok : ∀ k, k < 20 → parseFieldDescriptor (TX3 k).2.2.1 = some (tyX3 k) := by decide +kernel
abbrev cX3_init : ByteArray := prog_5_method_1_code
def yX3_init : MethodName := ⟨RX3, "<init>", "()V"⟩
abbrev cX3_refuse : ByteArray := prog_5_method_2_code
def yX3_refuse : MethodName := ⟨RX3, "refuse", "(I)I"⟩
abbrev cX3_isIn : ByteArray := prog_5_method_3_code
def yX3_isIn : MethodName := ⟨RX3, "isIn", "(II)Z"⟩
abbrev cX3_within : ByteArray := prog_5_method_4_code
def yX3_within : MethodName := ⟨RX3, "within", "(III)I"⟩
abbrev cX3_lays : ByteArray := prog_5_method_5_code
def yX3_lays : MethodName := ⟨RX3, "lays", "([I[I)V"⟩
abbrev cX3_begins : ByteArray := prog_5_method_6_code
def yX3_begins : MethodName := ⟨RX3, "begins", "()V"⟩
abbrev cX3_ends : ByteArray := prog_5_method_7_code
def yX3_ends : MethodName := ⟨RX3, "ends", "()V"⟩
abbrev cX3_isStreet : ByteArray := prog_5_method_8_code
def yX3_isStreet : MethodName := ⟨RX3, "isStreet", "(I)Z"⟩
abbrev cX3_get : ByteArray := prog_5_method_9_code
def yX3_get : MethodName := ⟨RX3, "get", "(II)I"⟩
abbrev cX3_puts : ByteArray := prog_5_method_10_code
def yX3_puts : MethodName := ⟨RX3, "puts", "(III)V"⟩
abbrev cX3_letter : ByteArray := prog_5_method_11_code
def yX3_letter : MethodName := ⟨RX3, "letter", "(I)I"⟩
abbrev cX3_sign : ByteArray := prog_5_method_12_code
def yX3_sign : MethodName := ⟨RX3, "sign", "()I"⟩
abbrev cX3_takes : ByteArray := prog_5_method_13_code
def yX3_takes : MethodName := ⟨RX3, "takes", "(I)Z"⟩
abbrev cX3_readsNumber : ByteArray := prog_5_method_14_code
def yX3_readsNumber : MethodName := ⟨RX3, "readsNumber", "(II)Z"⟩
abbrev cX3_kindOf : ByteArray := prog_5_method_15_code
def yX3_kindOf : MethodName := ⟨RX3, "kindOf", "(I)I"⟩
abbrev cX3_readsKind : ByteArray := prog_5_method_16_code
def yX3_readsKind : MethodName := ⟨RX3, "readsKind", "()Z"⟩
abbrev cX3_readsStatement : ByteArray := prog_5_method_17_code
def yX3_readsStatement : MethodName := ⟨RX3, "readsStatement", "()Z"⟩
abbrev cX3_setIn : ByteArray := prog_5_method_18_code
def yX3_setIn : MethodName := ⟨RX3, "setIn", "([IIII)V"⟩
abbrev cX3_comes : ByteArray := prog_5_method_19_code
def yX3_comes : MethodName := ⟨RX3, "comes", "(I)Z"⟩
abbrev cX3_reads : ByteArray := prog_5_method_20_code
def yX3_reads : MethodName := ⟨RX3, "reads", "()I"⟩
abbrev cX3_town : ByteArray := prog_5_method_21_code
def yX3_town : MethodName := ⟨RX3, "town", "()I"⟩
abbrev cX3_trustOf : ByteArray := prog_5_method_22_code
def yX3_trustOf : MethodName := ⟨RX3, "trustOf", "(I)I"⟩
abbrev cX3_mendsBy : ByteArray := prog_5_method_23_code
def yX3_mendsBy : MethodName := ⟨RX3, "mendsBy", "(I)I"⟩
abbrev cX3_paysFor : ByteArray := prog_5_method_24_code
def yX3_paysFor : MethodName := ⟨RX3, "paysFor", "(I)V"⟩
abbrev cX3_goes : ByteArray := prog_5_method_25_code
def yX3_goes : MethodName := ⟨RX3, "goes", "()V"⟩
abbrev cX3_goesFor : ByteArray := prog_5_method_26_code
def yX3_goesFor : MethodName := ⟨RX3, "goesFor", "(I)V"⟩
abbrev cX3_mudOf : ByteArray := prog_5_method_27_code
def yX3_mudOf : MethodName := ⟨RX3, "mudOf", "(I)I"⟩
abbrev cX3_allMud : ByteArray := prog_5_method_28_code
def yX3_allMud : MethodName := ⟨RX3, "allMud", "()I"⟩
abbrev cX3_mudBehind : ByteArray := prog_5_method_29_code
def yX3_mudBehind : MethodName := ⟨RX3, "mudBehind", "(I)I"⟩
abbrev cX3_fed : ByteArray := prog_5_method_30_code
def yX3_fed : MethodName := ⟨RX3, "fed", "(I)I"⟩
abbrev cX3_street : ByteArray := prog_5_method_31_code
def yX3_street : MethodName := ⟨RX3, "street", "(II)I"⟩
abbrev cX3_mends : ByteArray := prog_5_method_32_code
def yX3_mends : MethodName := ⟨RX3, "mends", "(II)I"⟩
abbrev cX3_becomes : ByteArray := prog_5_method_33_code
def yX3_becomes : MethodName := ⟨RX3, "becomes", "(IIII)I"⟩
abbrev cX3_pence : ByteArray := prog_5_method_34_code
def yX3_pence : MethodName := ⟨RX3, "pence", "(II)I"⟩
abbrev cX3_hands : ByteArray := prog_5_method_35_code
def yX3_hands : MethodName := ⟨RX3, "hands", "(II)I"⟩
abbrev cX3_year : ByteArray := prog_5_method_36_code
def yX3_year : MethodName := ⟨RX3, "year", "()I"⟩
abbrev cX3_mud : ByteArray := prog_5_method_37_code
def yX3_mud : MethodName := ⟨RX3, "mud", "(II)I"⟩
abbrev cX3_worst : ByteArray := prog_5_method_38_code
def yX3_worst : MethodName := ⟨RX3, "worst", "(II)I"⟩
abbrev cX3_isAsThen : ByteArray := prog_5_method_39_code
def yX3_isAsThen : MethodName := ⟨RX3, "isAsThen", "()Z"⟩
abbrev cX3_again : ByteArray := prog_5_method_40_code
def yX3_again : MethodName := ⟨RX3, "again", "()I"⟩
abbrev cX3_wayOf : ByteArray := prog_5_method_41_code
def yX3_wayOf : MethodName := ⟨RX3, "wayOf", "(II)I"⟩
abbrev cX3_isOnRing : ByteArray := prog_5_method_42_code
def yX3_isOnRing : MethodName := ⟨RX3, "isOnRing", "(I)Z"⟩
abbrev cX3_way : ByteArray := prog_5_method_43_code
def yX3_way : MethodName := ⟨RX3, "way", "(II)I"⟩
abbrev cX3_ring : ByteArray := prog_5_method_44_code
def yX3_ring : MethodName := ⟨RX3, "ring", "()I"⟩
abbrev cX3_tail : ByteArray := prog_5_method_45_code
def yX3_tail : MethodName := ⟨RX3, "tail", "(I)I"⟩
abbrev cX3_rings : ByteArray := prog_5_method_46_code
def yX3_rings : MethodName := ⟨RX3, "rings", "()I"⟩
abbrev cX3_never : ByteArray := prog_5_method_47_code
def yX3_never : MethodName := ⟨RX3, "never", "()I"⟩
abbrev cX3_felt : ByteArray := prog_5_method_48_code
def yX3_felt : MethodName := ⟨RX3, "felt", "(II)I"⟩
abbrev cX3_worth : ByteArray := prog_5_method_49_code
def yX3_worth : MethodName := ⟨RX3, "worth", "(II)I"⟩
abbrev cX3_maps : ByteArray := prog_5_method_50_code
def yX3_maps : MethodName := ⟨RX3, "maps", "(III)V"⟩
abbrev cX3_bestMap : ByteArray := prog_5_method_51_code
def yX3_bestMap : MethodName := ⟨RX3, "bestMap", "(II)I"⟩
abbrev cX3_change : ByteArray := prog_5_method_52_code
def yX3_change : MethodName := ⟨RX3, "change", "(I)I"⟩
abbrev cX3_cure : ByteArray := prog_5_method_53_code
def yX3_cure : MethodName := ⟨RX3, "cure", "(II)I"⟩
abbrev cX3_putIn : ByteArray := prog_5_method_54_code
def yX3_putIn : MethodName := ⟨RX3, "putIn", "(III)I"⟩
abbrev cX3_takeOut : ByteArray := prog_5_method_55_code
def yX3_takeOut : MethodName := ⟨RX3, "takeOut", "(II)I"⟩
abbrev cX3_row : ByteArray := prog_5_method_56_code
def yX3_row : MethodName := ⟨RX3, "row", "(I)I"⟩
abbrev cX3_isAsTold : ByteArray := prog_5_method_57_code
def yX3_isAsTold : MethodName := ⟨RX3, "isAsTold", "()Z"⟩
abbrev cX3_fitting : ByteArray := prog_5_method_58_code
def yX3_fitting : MethodName := ⟨RX3, "fitting", "(II)I"⟩
abbrev cX3_judge : ByteArray := prog_5_method_59_code
def yX3_judge : MethodName := ⟨RX3, "judge", "()I"⟩
abbrev cX3_seeds : ByteArray := prog_5_method_60_code
def yX3_seeds : MethodName := ⟨RX3, "seeds", "(II)I"⟩
abbrev cX3_image : ByteArray := prog_5_method_61_code
def yX3_image : MethodName := ⟨RX3, "image", "()I"⟩
abbrev cX3_on : ByteArray := prog_5_method_62_code
def yX3_on : MethodName := ⟨RX3, "on", "()I"⟩
abbrev cX3_count : ByteArray := prog_5_method_63_code
def yX3_count : MethodName := ⟨RX3, "count", "(I)I"⟩
def RJ11 : String := "java/lang/Character"
def TJ11 : u_T := fun k => match k with
  | _ => ("", "", "", false)
def tyJ11 : Nat → FieldType := fun k => match k with
  | _ => .int
abbrev wsJ110 : List Cond := u_ws RJ11 TJ11 0
theorem nmJ11 : ∀ a, a < 0 → ∀ b, b < 0 → a ≠ b → (TJ11 a).2.1 ≠ (TJ11 b).2.1 := by decide +kernel
theorem tyJ11_ok : ∀ k, k < 0 → parseFieldDescriptor (TJ11 k).2.2.1 = some (tyJ11 k) := by decide +kernel
abbrev cJ11_isValidCodePoint_9a6ad : ByteArray := prog_6_method_11_code
def yJ11_isValidCodePoint_9a6ad : MethodName := ⟨RJ11, "isValidCodePoint", "(I)Z"⟩
abbrev cJ11_highSurrogate_5068e : ByteArray := prog_6_method_28_code
def yJ11_highSurrogate_5068e : MethodName := ⟨RJ11, "highSurrogate", "(I)C"⟩
abbrev cJ11_lowSurrogate_5068e : ByteArray := prog_6_method_29_code
def yJ11_lowSurrogate_5068e : MethodName := ⟨RJ11, "lowSurrogate", "(I)C"⟩
def RJ9 : String := "java/lang/Math"
def TJ9 : u_T := fun k => match k with
  | _ => ("", "", "", false)
def tyJ9 : Nat → FieldType := fun k => match k with
  | _ => .int
abbrev wsJ90 : List Cond := u_ws RJ9 TJ9 0
theorem nmJ9 : ∀ a, a < 0 → ∀ b, b < 0 → a ≠ b → (TJ9 a).2.1 ≠ (TJ9 b).2.1 := by decide +kernel
theorem tyJ9_ok : ∀ k, k < 0 → parseFieldDescriptor (TJ9 k).2.2.1 = some (tyJ9 k) := by decide +kernel
abbrev cJ9_max_7cf53 : ByteArray := prog_7_method_65_code
def yJ9_max_7cf53 : MethodName := ⟨RJ9, "max", "(II)I"⟩
abbrev cJ9_min_7cf53 : ByteArray := prog_7_method_69_code
def yJ9_min_7cf53 : MethodName := ⟨RJ9, "min", "(II)I"⟩
def RJ0 : String := "java/lang/String"
def TJ0 : u_T := fun k => match k with
  | _ => ("", "", "", false)
def tyJ0 : Nat → FieldType := fun k => match k with
  | _ => .int
abbrev wsJ00 : List Cond := u_ws RJ0 TJ0 0
theorem nmJ0 : ∀ a, a < 0 → ∀ b, b < 0 → a ≠ b → (TJ0 a).2.1 ≠ (TJ0 b).2.1 := by decide +kernel
theorem tyJ0_ok : ∀ k, k < 0 → parseFieldDescriptor (TJ0 k).2.2.1 = some (tyJ0 k) := by decide +kernel
abbrev cJ0_length_8abf5 : ByteArray := prog_8_method_54_code
def yJ0_length_8abf5 : MethodName := ⟨RJ0, "length", "()I"⟩
abbrev cJ0_indexOf_0f7a4 : ByteArray := prog_8_method_79_code
def yJ0_indexOf_0f7a4 : MethodName := ⟨RJ0, "indexOf", "(I)I"⟩
abbrev cJ0_indexOf_7cf53 : ByteArray := prog_8_method_80_code
def yJ0_indexOf_7cf53 : MethodName := ⟨RJ0, "indexOf", "(II)I"⟩
abbrev cJ0_coder_7d493 : ByteArray := prog_8_method_152_code
def yJ0_coder_7d493 : MethodName := ⟨RJ0, "coder", "()B"⟩
abbrev cJ0_isLatin1_aae02 : ByteArray := prog_8_method_154_code
def yJ0_isLatin1_aae02 : MethodName := ⟨RJ0, "isLatin1", "()Z"⟩
abbrev cJ0_checkBoundsBeginEnd_23922 : ByteArray := prog_8_method_158_code
def yJ0_checkBoundsBeginEnd_23922 : MethodName := ⟨RJ0, "checkBoundsBeginEnd", "(III)V"⟩
def RJ1 : String := "java/lang/StringLatin1"
def TJ1 : u_T := fun k => match k with
  | _ => ("", "", "", false)
def tyJ1 : Nat → FieldType := fun k => match k with
  | _ => .int
abbrev wsJ10 : List Cond := u_ws RJ1 TJ1 0
theorem nmJ1 : ∀ a, a < 0 → ∀ b, b < 0 → a ≠ b → (TJ1 a).2.1 ≠ (TJ1 b).2.1 := by decide +kernel
theorem tyJ1_ok : ∀ k, k < 0 → parseFieldDescriptor (TJ1 k).2.2.1 = some (tyJ1 k) := by decide +kernel
abbrev cJ1_canEncode_9a6ad : ByteArray := prog_9_method_4_code
def yJ1_canEncode_9a6ad : MethodName := ⟨RJ1, "canEncode", "(I)Z"⟩
abbrev cJ1_indexOf_4cfef : ByteArray := prog_9_method_22_code
def yJ1_indexOf_4cfef : MethodName := ⟨RJ1, "indexOf", "([BIII)I"⟩
abbrev cJ1_indexOfChar_4cfef : ByteArray := prog_9_method_23_code
def yJ1_indexOfChar_4cfef : MethodName := ⟨RJ1, "indexOfChar", "([BIII)I"⟩
def RJ2 : String := "java/lang/StringUTF16"
def TJ2 : u_T := fun k => match k with
  | _ => ("", "", "", false)
def tyJ2 : Nat → FieldType := fun k => match k with
  | _ => .int
abbrev wsJ20 : List Cond := u_ws RJ2 TJ2 0
theorem nmJ2 : ∀ a, a < 0 → ∀ b, b < 0 → a ≠ b → (TJ2 a).2.1 ≠ (TJ2 b).2.1 := by decide +kernel
theorem tyJ2_ok : ∀ k, k < 0 → parseFieldDescriptor (TJ2 k).2.2.1 = some (tyJ2 k) := by decide +kernel
abbrev cJ2_getChar_3b067 : ByteArray := prog_10_method_5_code
def yJ2_getChar_3b067 : MethodName := ⟨RJ2, "getChar", "([BI)C"⟩
abbrev cJ2_length_9d52b : ByteArray := prog_10_method_6_code
def yJ2_length_9d52b : MethodName := ⟨RJ2, "length", "([B)I"⟩
abbrev cJ2_indexOf_4cfef : ByteArray := prog_10_method_40_code
def yJ2_indexOf_4cfef : MethodName := ⟨RJ2, "indexOf", "([BIII)I"⟩
abbrev cJ2_indexOfChar_4cfef : ByteArray := prog_10_method_47_code
def yJ2_indexOfChar_4cfef : MethodName := ⟨RJ2, "indexOfChar", "([BIII)I"⟩
abbrev cJ2_indexOfCharUnsafe_4cfef : ByteArray := prog_10_method_48_code
def yJ2_indexOfCharUnsafe_4cfef : MethodName := ⟨RJ2, "indexOfCharUnsafe", "([BIII)I"⟩
abbrev cJ2_indexOfSupplementary_4cfef : ByteArray := prog_10_method_49_code
def yJ2_indexOfSupplementary_4cfef : MethodName := ⟨RJ2, "indexOfSupplementary", "([BIII)I"⟩
abbrev cJ2_checkBoundsBeginEnd_d044e : ByteArray := prog_10_method_93_code
def yJ2_checkBoundsBeginEnd_d044e : MethodName := ⟨RJ2, "checkBoundsBeginEnd", "(II[B)V"⟩
def RJ10 : String := "java/lang/System"
def TJ10 : u_T := fun k => match k with
  | _ => ("", "", "", false)
def tyJ10 : Nat → FieldType := fun k => match k with
  | _ => .int
abbrev wsJ100 : List Cond := u_ws RJ10 TJ10 0
theorem nmJ10 : ∀ a, a < 0 → ∀ b, b < 0 → a ≠ b → (TJ10 a).2.1 ≠ (TJ10 b).2.1 := by decide +kernel
theorem tyJ10_ok : ∀ k, k < 0 → parseFieldDescriptor (TJ10 k).2.2.1 = some (tyJ10 k) := by decide +kernel
def RJ3 : String := "jdk/internal/util/Preconditions"
def TJ3 : u_T := fun k => match k with
  | _ => ("", "", "", false)
def tyJ3 : Nat → FieldType := fun k => match k with
  | _ => .int
abbrev wsJ30 : List Cond := u_ws RJ3 TJ3 0
theorem nmJ3 : ∀ a, a < 0 → ∀ b, b < 0 → a ≠ b → (TJ3 a).2.1 ≠ (TJ3 b).2.1 := by decide +kernel
theorem tyJ3_ok : ∀ k, k < 0 → parseFieldDescriptor (TJ3 k).2.2.1 = some (tyJ3 k) := by decide +kernel
abbrev cJ3_checkFromToIndex_8c36e : ByteArray := prog_12_method_12_code
def yJ3_checkFromToIndex_8c36e : MethodName := ⟨RJ3, "checkFromToIndex", "(IIILjava/util/function/BiFunction;)I"⟩
def RL : String := "PavedByNextLaw"
abbrev cL_law : ByteArray := code
def yL_law : MethodName := ⟨RL, "law", "([I)Z"⟩
abbrev vwCl : List vw_C := [(RX0, TX0, 2), (RX1, TX1, 12), (RX2, TX2, 11), (RX3, TX3, 20)]
