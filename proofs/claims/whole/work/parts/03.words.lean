/-! the links' words, by their places in the tables -/
set_option maxRecDepth 20000 in
theorem wX0 : ∀ w ∈ u_ws RX0 TX0 2, w ∈ WL := by
  show ∀ w ∈ [u_lay RX0 TX0 0, u_lay RX0 TX0 1], w ∈ WL
  exact List.forall_mem_cons.mpr ⟨wl_of 123 rfl rfl, List.forall_mem_cons.mpr ⟨wl_of 125 rfl rfl, fun _ h9 => absurd h9 List.not_mem_nil⟩⟩
set_option maxRecDepth 20000 in
theorem wX1 : ∀ w ∈ u_ws RX1 TX1 12, w ∈ WL := by
  show ∀ w ∈ [u_lay RX1 TX1 0, u_lay RX1 TX1 1, u_lay RX1 TX1 2, u_lay RX1 TX1 3, u_lay RX1 TX1 4, u_lay RX1 TX1 5, u_lay RX1 TX1 6, u_lay RX1 TX1 7, u_lay RX1 TX1 8, u_lay RX1 TX1 9, u_lay RX1 TX1 10, u_lay RX1 TX1 11], w ∈ WL
  exact List.forall_mem_cons.mpr ⟨wl_of 88 rfl rfl, List.forall_mem_cons.mpr ⟨wl_of 90 rfl rfl, List.forall_mem_cons.mpr ⟨wl_of 92 rfl rfl, List.forall_mem_cons.mpr ⟨wl_of 94 rfl rfl, List.forall_mem_cons.mpr ⟨wl_of 96 rfl rfl, List.forall_mem_cons.mpr ⟨wl_of 98 rfl rfl, List.forall_mem_cons.mpr ⟨wl_of 100 rfl rfl, List.forall_mem_cons.mpr ⟨wl_of 102 rfl rfl, List.forall_mem_cons.mpr ⟨wl_of 104 rfl rfl, List.forall_mem_cons.mpr ⟨wl_of 106 rfl rfl, List.forall_mem_cons.mpr ⟨wl_of 108 rfl rfl, List.forall_mem_cons.mpr ⟨wl_of 110 rfl rfl, fun _ h9 => absurd h9 List.not_mem_nil⟩⟩⟩⟩⟩⟩⟩⟩⟩⟩⟩⟩
set_option maxRecDepth 20000 in
theorem wX2 : ∀ w ∈ u_ws RX2 TX2 11, w ∈ WL := by
  show ∀ w ∈ [u_lay RX2 TX2 0, u_lay RX2 TX2 1, u_lay RX2 TX2 2, u_lay RX2 TX2 3, u_lay RX2 TX2 4, u_lay RX2 TX2 5, u_lay RX2 TX2 6, u_lay RX2 TX2 7, u_lay RX2 TX2 8, u_lay RX2 TX2 9, u_lay RX2 TX2 10], w ∈ WL
  exact List.forall_mem_cons.mpr ⟨wl_of 140 rfl rfl, List.forall_mem_cons.mpr ⟨wl_of 142 rfl rfl, List.forall_mem_cons.mpr ⟨wl_of 144 rfl rfl, List.forall_mem_cons.mpr ⟨wl_of 146 rfl rfl, List.forall_mem_cons.mpr ⟨wl_of 148 rfl rfl, List.forall_mem_cons.mpr ⟨wl_of 150 rfl rfl, List.forall_mem_cons.mpr ⟨wl_of 152 rfl rfl, List.forall_mem_cons.mpr ⟨wl_of 154 rfl rfl, List.forall_mem_cons.mpr ⟨wl_of 156 rfl rfl, List.forall_mem_cons.mpr ⟨wl_of 158 rfl rfl, List.forall_mem_cons.mpr ⟨wl_of 160 rfl rfl, fun _ h9 => absurd h9 List.not_mem_nil⟩⟩⟩⟩⟩⟩⟩⟩⟩⟩⟩
set_option maxRecDepth 20000 in
theorem wX3 : ∀ w ∈ u_ws RX3 TX3 20, w ∈ WL := by
  show ∀ w ∈ [u_lay RX3 TX3 0, u_lay RX3 TX3 1, u_lay RX3 TX3 2, u_lay RX3 TX3 3, u_lay RX3 TX3 4, u_lay RX3 TX3 5, u_lay RX3 TX3 6, u_lay RX3 TX3 7, u_lay RX3 TX3 8, u_lay RX3 TX3 9, u_lay RX3 TX3 10, u_lay RX3 TX3 11, u_lay RX3 TX3 12, u_lay RX3 TX3 13, u_lay RX3 TX3 14, u_lay RX3 TX3 15, u_lay RX3 TX3 16, u_lay RX3 TX3 17, u_lay RX3 TX3 18, u_lay RX3 TX3 19], w ∈ WL
  exact List.forall_mem_cons.mpr ⟨wl_of 578 rfl rfl, List.forall_mem_cons.mpr ⟨wl_of 580 rfl rfl, List.forall_mem_cons.mpr ⟨wl_of 582 rfl rfl, List.forall_mem_cons.mpr ⟨wl_of 584 rfl rfl, List.forall_mem_cons.mpr ⟨wl_of 586 rfl rfl, List.forall_mem_cons.mpr ⟨wl_of 588 rfl rfl, List.forall_mem_cons.mpr ⟨wl_of 590 rfl rfl, List.forall_mem_cons.mpr ⟨wl_of 592 rfl rfl, List.forall_mem_cons.mpr ⟨wl_of 594 rfl rfl, List.forall_mem_cons.mpr ⟨wl_of 596 rfl rfl, List.forall_mem_cons.mpr ⟨wl_of 598 rfl rfl, List.forall_mem_cons.mpr ⟨wl_of 600 rfl rfl, List.forall_mem_cons.mpr ⟨wl_of 602 rfl rfl, List.forall_mem_cons.mpr ⟨wl_of 604 rfl rfl, List.forall_mem_cons.mpr ⟨wl_of 606 rfl rfl, List.forall_mem_cons.mpr ⟨wl_of 608 rfl rfl, List.forall_mem_cons.mpr ⟨wl_of 610 rfl rfl, List.forall_mem_cons.mpr ⟨wl_of 612 rfl rfl, List.forall_mem_cons.mpr ⟨wl_of 614 rfl rfl, List.forall_mem_cons.mpr ⟨wl_of 616 rfl rfl, fun _ h9 => absurd h9 List.not_mem_nil⟩⟩⟩⟩⟩⟩⟩⟩⟩⟩⟩⟩⟩⟩⟩⟩⟩⟩⟩⟩
set_option maxRecDepth 20000 in
theorem kc_L_100 : LkV RL 100 yX3_putIn cX3_putIn 7 (some .int) 3 := ⟨wl_of 823 rfl rfl, wl_of 824 rfl rfl, wl_of 825 rfl rfl, wl_of 44 rfl rfl, wl_of 826 rfl rfl, by decide, by decide +kernel⟩
set_option maxRecDepth 20000 in
theorem kc_L_101 : LkV RL 101 yX2_takeOut cX2_takeOut 5 (some .int) 2 := ⟨wl_of 503 rfl rfl, wl_of 504 rfl rfl, wl_of 505 rfl rfl, wl_of 41 rfl rfl, wl_of 506 rfl rfl, by decide, by decide +kernel⟩
set_option maxRecDepth 20000 in
theorem kc_L_104 : LkV RL 104 yX3_takeOut cX3_takeOut 6 (some .int) 2 := ⟨wl_of 827 rfl rfl, wl_of 828 rfl rfl, wl_of 829 rfl rfl, wl_of 44 rfl rfl, wl_of 830 rfl rfl, by decide, by decide +kernel⟩
set_option maxRecDepth 20000 in
theorem kc_L_105 : LkV RL 105 yX2_row cX2_row 3 (some .int) 1 := ⟨wl_of 512 rfl rfl, wl_of 513 rfl rfl, wl_of 514 rfl rfl, wl_of 41 rfl rfl, wl_of 515 rfl rfl, by decide, by decide +kernel⟩
set_option maxRecDepth 20000 in
theorem kc_L_108 : LkV RL 108 yX3_row cX3_row 3 (some .int) 1 := ⟨wl_of 831 rfl rfl, wl_of 832 rfl rfl, wl_of 833 rfl rfl, wl_of 44 rfl rfl, wl_of 834 rfl rfl, by decide, by decide +kernel⟩
set_option maxRecDepth 20000 in
theorem kc_L_109 : LkV RL 109 yX2_fitting cX2_fitting 6 (some .int) 2 := ⟨wl_of 516 rfl rfl, wl_of 517 rfl rfl, wl_of 518 rfl rfl, wl_of 41 rfl rfl, wl_of 519 rfl rfl, by decide, by decide +kernel⟩
set_option maxRecDepth 20000 in
theorem kc_L_112 : LkV RL 112 yX3_fitting cX3_fitting 6 (some .int) 2 := ⟨wl_of 835 rfl rfl, wl_of 836 rfl rfl, wl_of 837 rfl rfl, wl_of 44 rfl rfl, wl_of 838 rfl rfl, by decide, by decide +kernel⟩
set_option maxRecDepth 20000 in
theorem kc_L_113 : LkV RL 113 yX2_judge cX2_judge 2 (some .int) 0 := ⟨wl_of 525 rfl rfl, wl_of 526 rfl rfl, wl_of 527 rfl rfl, wl_of 41 rfl rfl, wl_of 528 rfl rfl, by decide, by decide +kernel⟩
set_option maxRecDepth 20000 in
theorem kc_L_116 : LkV RL 116 yX3_judge cX3_judge 3 (some .int) 0 := ⟨wl_of 843 rfl rfl, wl_of 844 rfl rfl, wl_of 845 rfl rfl, wl_of 44 rfl rfl, wl_of 846 rfl rfl, by decide, by decide +kernel⟩
set_option maxRecDepth 20000 in
theorem kc_L_117 : LkV RL 117 yX2_seeds cX2_seeds 7 (some .int) 2 := ⟨wl_of 529 rfl rfl, wl_of 530 rfl rfl, wl_of 531 rfl rfl, wl_of 41 rfl rfl, wl_of 532 rfl rfl, by decide, by decide +kernel⟩
set_option maxRecDepth 20000 in
theorem kc_L_120 : LkV RL 120 yX3_seeds cX3_seeds 7 (some .int) 2 := ⟨wl_of 847 rfl rfl, wl_of 848 rfl rfl, wl_of 849 rfl rfl, wl_of 44 rfl rfl, wl_of 850 rfl rfl, by decide, by decide +kernel⟩
set_option maxRecDepth 20000 in
theorem kc_L_121 : LkV RL 121 yX2_image cX2_image 1 (some .int) 0 := ⟨wl_of 536 rfl rfl, wl_of 537 rfl rfl, wl_of 538 rfl rfl, wl_of 41 rfl rfl, wl_of 539 rfl rfl, by decide, by decide +kernel⟩
set_option maxRecDepth 20000 in
theorem kc_L_124 : LkV RL 124 yX3_image cX3_image 1 (some .int) 0 := ⟨wl_of 854 rfl rfl, wl_of 855 rfl rfl, wl_of 856 rfl rfl, wl_of 44 rfl rfl, wl_of 857 rfl rfl, by decide, by decide +kernel⟩
set_option maxRecDepth 20000 in
theorem kc_L_125 : LkV RL 125 yX2_on cX2_on 1 (some .int) 0 := ⟨wl_of 540 rfl rfl, wl_of 541 rfl rfl, wl_of 542 rfl rfl, wl_of 41 rfl rfl, wl_of 543 rfl rfl, by decide, by decide +kernel⟩
set_option maxRecDepth 20000 in
theorem kc_L_128 : LkV RL 128 yX3_on cX3_on 1 (some .int) 0 := ⟨wl_of 858 rfl rfl, wl_of 859 rfl rfl, wl_of 860 rfl rfl, wl_of 44 rfl rfl, wl_of 861 rfl rfl, by decide, by decide +kernel⟩
set_option maxRecDepth 20000 in
theorem kc_L_129 : LkV RL 129 yX2_count cX2_count 3 (some .int) 1 := ⟨wl_of 544 rfl rfl, wl_of 545 rfl rfl, wl_of 546 rfl rfl, wl_of 41 rfl rfl, wl_of 547 rfl rfl, by decide, by decide +kernel⟩
set_option maxRecDepth 20000 in
theorem kc_L_13 : LkV RL 13 yX2_letter cX2_letter 3 (some .int) 1 := ⟨wl_of 163 rfl rfl, wl_of 164 rfl rfl, wl_of 165 rfl rfl, wl_of 41 rfl rfl, wl_of 166 rfl rfl, by decide, by decide +kernel⟩
set_option maxRecDepth 20000 in
theorem kc_L_132 : LkV RL 132 yX3_count cX3_count 4 (some .int) 1 := ⟨wl_of 862 rfl rfl, wl_of 863 rfl rfl, wl_of 864 rfl rfl, wl_of 44 rfl rfl, wl_of 865 rfl rfl, by decide, by decide +kernel⟩
set_option maxRecDepth 20000 in
theorem kc_L_17 : LkV RL 17 yX3_letter cX3_letter 3 (some .int) 1 := ⟨wl_of 619 rfl rfl, wl_of 620 rfl rfl, wl_of 621 rfl rfl, wl_of 44 rfl rfl, wl_of 622 rfl rfl, by decide, by decide +kernel⟩
set_option maxRecDepth 20000 in
theorem kc_L_18 : LkV RL 18 yX2_town cX2_town 2 (some .int) 0 := ⟨wl_of 183 rfl rfl, wl_of 184 rfl rfl, wl_of 185 rfl rfl, wl_of 41 rfl rfl, wl_of 186 rfl rfl, by decide, by decide +kernel⟩
set_option maxRecDepth 20000 in
theorem kc_L_22 : LkV RL 22 yX3_town cX3_town 2 (some .int) 0 := ⟨wl_of 630 rfl rfl, wl_of 631 rfl rfl, wl_of 632 rfl rfl, wl_of 44 rfl rfl, wl_of 633 rfl rfl, by decide, by decide +kernel⟩
set_option maxRecDepth 20000 in
theorem kc_L_23 : LkV RL 23 yX2_street cX2_street 3 (some .int) 2 := ⟨wl_of 346 rfl rfl, wl_of 347 rfl rfl, wl_of 348 rfl rfl, wl_of 41 rfl rfl, wl_of 349 rfl rfl, by decide, by decide +kernel⟩
set_option maxRecDepth 20000 in
theorem kc_L_27 : LkV RL 27 yX3_street cX3_street 3 (some .int) 2 := ⟨wl_of 674 rfl rfl, wl_of 675 rfl rfl, wl_of 676 rfl rfl, wl_of 44 rfl rfl, wl_of 677 rfl rfl, by decide, by decide +kernel⟩
set_option maxRecDepth 20000 in
theorem kc_L_28 : LkV RL 28 yX2_mends cX2_mends 4 (some .int) 2 := ⟨wl_of 355 rfl rfl, wl_of 356 rfl rfl, wl_of 357 rfl rfl, wl_of 41 rfl rfl, wl_of 358 rfl rfl, by decide, by decide +kernel⟩
set_option maxRecDepth 20000 in
theorem kc_L_31 : LkV RL 31 yX3_mends cX3_mends 4 (some .int) 2 := ⟨wl_of 690 rfl rfl, wl_of 691 rfl rfl, wl_of 692 rfl rfl, wl_of 44 rfl rfl, wl_of 693 rfl rfl, by decide, by decide +kernel⟩
set_option maxRecDepth 20000 in
theorem kc_L_32 : LkV RL 32 yX2_pence cX2_pence 5 (some .int) 2 := ⟨wl_of 359 rfl rfl, wl_of 360 rfl rfl, wl_of 361 rfl rfl, wl_of 41 rfl rfl, wl_of 362 rfl rfl, by decide, by decide +kernel⟩
set_option maxRecDepth 20000 in
theorem kc_L_35 : LkV RL 35 yX3_pence cX3_pence 3 (some .int) 2 := ⟨wl_of 698 rfl rfl, wl_of 699 rfl rfl, wl_of 700 rfl rfl, wl_of 44 rfl rfl, wl_of 701 rfl rfl, by decide, by decide +kernel⟩
set_option maxRecDepth 20000 in
theorem kc_L_36 : LkV RL 36 yX2_hands cX2_hands 5 (some .int) 2 := ⟨wl_of 363 rfl rfl, wl_of 364 rfl rfl, wl_of 365 rfl rfl, wl_of 41 rfl rfl, wl_of 366 rfl rfl, by decide, by decide +kernel⟩
set_option maxRecDepth 20000 in
theorem kc_L_39 : LkV RL 39 yX3_hands cX3_hands 3 (some .int) 2 := ⟨wl_of 706 rfl rfl, wl_of 707 rfl rfl, wl_of 708 rfl rfl, wl_of 44 rfl rfl, wl_of 709 rfl rfl, by decide, by decide +kernel⟩
set_option maxRecDepth 20000 in
theorem kc_L_40 : LkV RL 40 yX2_year cX2_year 1 (some .int) 0 := ⟨wl_of 367 rfl rfl, wl_of 368 rfl rfl, wl_of 369 rfl rfl, wl_of 41 rfl rfl, wl_of 370 rfl rfl, by decide, by decide +kernel⟩
set_option maxRecDepth 20000 in
theorem kc_L_43 : LkV RL 43 yX3_year cX3_year 1 (some .int) 0 := ⟨wl_of 710 rfl rfl, wl_of 711 rfl rfl, wl_of 712 rfl rfl, wl_of 44 rfl rfl, wl_of 713 rfl rfl, by decide, by decide +kernel⟩
set_option maxRecDepth 20000 in
theorem kc_L_44 : LkV RL 44 yX2_mud cX2_mud 5 (some .int) 2 := ⟨wl_of 397 rfl rfl, wl_of 398 rfl rfl, wl_of 399 rfl rfl, wl_of 41 rfl rfl, wl_of 400 rfl rfl, by decide, by decide +kernel⟩
set_option maxRecDepth 20000 in
theorem kc_L_47 : LkV RL 47 yX3_mud cX3_mud 5 (some .int) 2 := ⟨wl_of 738 rfl rfl, wl_of 739 rfl rfl, wl_of 740 rfl rfl, wl_of 44 rfl rfl, wl_of 741 rfl rfl, by decide, by decide +kernel⟩
set_option maxRecDepth 20000 in
theorem kc_L_48 : LkV RL 48 yX2_worst cX2_worst 5 (some .int) 2 := ⟨wl_of 407 rfl rfl, wl_of 408 rfl rfl, wl_of 409 rfl rfl, wl_of 41 rfl rfl, wl_of 410 rfl rfl, by decide, by decide +kernel⟩
set_option maxRecDepth 20000 in
theorem kc_L_51 : LkV RL 51 yX3_worst cX3_worst 7 (some .int) 2 := ⟨wl_of 754 rfl rfl, wl_of 755 rfl rfl, wl_of 756 rfl rfl, wl_of 44 rfl rfl, wl_of 757 rfl rfl, by decide, by decide +kernel⟩
set_option maxRecDepth 20000 in
theorem kc_L_52 : LkV RL 52 yX2_again cX2_again 2 (some .int) 0 := ⟨wl_of 419 rfl rfl, wl_of 420 rfl rfl, wl_of 421 rfl rfl, wl_of 41 rfl rfl, wl_of 422 rfl rfl, by decide, by decide +kernel⟩
set_option maxRecDepth 20000 in
theorem kc_L_55 : LkV RL 55 yX3_again cX3_again 3 (some .int) 0 := ⟨wl_of 758 rfl rfl, wl_of 759 rfl rfl, wl_of 760 rfl rfl, wl_of 44 rfl rfl, wl_of 761 rfl rfl, by decide, by decide +kernel⟩
set_option maxRecDepth 20000 in
theorem kc_L_56 : LkV RL 56 yX2_way cX2_way 5 (some .int) 2 := ⟨wl_of 427 rfl rfl, wl_of 428 rfl rfl, wl_of 429 rfl rfl, wl_of 41 rfl rfl, wl_of 430 rfl rfl, by decide, by decide +kernel⟩
set_option maxRecDepth 20000 in
theorem kc_L_59 : LkV RL 59 yX3_way cX3_way 3 (some .int) 2 := ⟨wl_of 766 rfl rfl, wl_of 767 rfl rfl, wl_of 768 rfl rfl, wl_of 44 rfl rfl, wl_of 769 rfl rfl, by decide, by decide +kernel⟩
set_option maxRecDepth 20000 in
theorem kc_L_60 : LkV RL 60 yX2_ring cX2_ring 3 (some .int) 0 := ⟨wl_of 435 rfl rfl, wl_of 436 rfl rfl, wl_of 437 rfl rfl, wl_of 41 rfl rfl, wl_of 438 rfl rfl, by decide, by decide +kernel⟩
set_option maxRecDepth 20000 in
theorem kc_L_63 : LkV RL 63 yX3_ring cX3_ring 3 (some .int) 0 := ⟨wl_of 774 rfl rfl, wl_of 775 rfl rfl, wl_of 776 rfl rfl, wl_of 44 rfl rfl, wl_of 777 rfl rfl, by decide, by decide +kernel⟩
set_option maxRecDepth 20000 in
theorem kc_L_64 : LkV RL 64 yX2_tail cX2_tail 4 (some .int) 1 := ⟨wl_of 444 rfl rfl, wl_of 445 rfl rfl, wl_of 446 rfl rfl, wl_of 41 rfl rfl, wl_of 447 rfl rfl, by decide, by decide +kernel⟩
set_option maxRecDepth 20000 in
theorem kc_L_67 : LkV RL 67 yX3_tail cX3_tail 4 (some .int) 1 := ⟨wl_of 782 rfl rfl, wl_of 783 rfl rfl, wl_of 784 rfl rfl, wl_of 44 rfl rfl, wl_of 785 rfl rfl, by decide, by decide +kernel⟩
set_option maxRecDepth 20000 in
theorem kc_L_68 : LkV RL 68 yX2_rings cX2_rings 3 (some .int) 0 := ⟨wl_of 448 rfl rfl, wl_of 449 rfl rfl, wl_of 450 rfl rfl, wl_of 41 rfl rfl, wl_of 451 rfl rfl, by decide, by decide +kernel⟩
set_option maxRecDepth 20000 in
theorem kc_L_71 : LkV RL 71 yX3_rings cX3_rings 5 (some .int) 0 := ⟨wl_of 786 rfl rfl, wl_of 787 rfl rfl, wl_of 788 rfl rfl, wl_of 44 rfl rfl, wl_of 789 rfl rfl, by decide, by decide +kernel⟩
set_option maxRecDepth 20000 in
theorem kc_L_72 : LkV RL 72 yX2_never cX2_never 3 (some .int) 0 := ⟨wl_of 456 rfl rfl, wl_of 457 rfl rfl, wl_of 458 rfl rfl, wl_of 41 rfl rfl, wl_of 459 rfl rfl, by decide, by decide +kernel⟩
set_option maxRecDepth 20000 in
theorem kc_L_75 : LkV RL 75 yX3_never cX3_never 3 (some .int) 0 := ⟨wl_of 790 rfl rfl, wl_of 791 rfl rfl, wl_of 792 rfl rfl, wl_of 44 rfl rfl, wl_of 793 rfl rfl, by decide, by decide +kernel⟩
set_option maxRecDepth 20000 in
theorem kc_L_76 : LkV RL 76 yX2_felt cX2_felt 4 (some .int) 2 := ⟨wl_of 460 rfl rfl, wl_of 461 rfl rfl, wl_of 462 rfl rfl, wl_of 41 rfl rfl, wl_of 463 rfl rfl, by decide, by decide +kernel⟩
set_option maxRecDepth 20000 in
theorem kc_L_79 : LkV RL 79 yX3_felt cX3_felt 5 (some .int) 2 := ⟨wl_of 794 rfl rfl, wl_of 795 rfl rfl, wl_of 796 rfl rfl, wl_of 44 rfl rfl, wl_of 797 rfl rfl, by decide, by decide +kernel⟩
set_option maxRecDepth 20000 in
theorem kc_L_80 : LkV RL 80 yX2_worth cX2_worth 4 (some .int) 2 := ⟨wl_of 464 rfl rfl, wl_of 465 rfl rfl, wl_of 466 rfl rfl, wl_of 41 rfl rfl, wl_of 467 rfl rfl, by decide, by decide +kernel⟩
set_option maxRecDepth 20000 in
theorem kc_L_83 : LkV RL 83 yX3_worth cX3_worth 6 (some .int) 2 := ⟨wl_of 798 rfl rfl, wl_of 799 rfl rfl, wl_of 800 rfl rfl, wl_of 44 rfl rfl, wl_of 801 rfl rfl, by decide, by decide +kernel⟩
set_option maxRecDepth 20000 in
theorem kc_L_84 : LkV RL 84 yX2_bestMap cX2_bestMap 5 (some .int) 2 := ⟨wl_of 469 rfl rfl, wl_of 470 rfl rfl, wl_of 471 rfl rfl, wl_of 41 rfl rfl, wl_of 472 rfl rfl, by decide, by decide +kernel⟩
set_option maxRecDepth 20000 in
theorem kc_L_87 : LkV RL 87 yX3_bestMap cX3_bestMap 4 (some .int) 2 := ⟨wl_of 807 rfl rfl, wl_of 808 rfl rfl, wl_of 809 rfl rfl, wl_of 44 rfl rfl, wl_of 810 rfl rfl, by decide, by decide +kernel⟩
set_option maxRecDepth 20000 in
theorem kc_L_88 : LkV RL 88 yX2_change cX2_change 8 (some .int) 1 := ⟨wl_of 486 rfl rfl, wl_of 487 rfl rfl, wl_of 488 rfl rfl, wl_of 41 rfl rfl, wl_of 489 rfl rfl, by decide, by decide +kernel⟩
set_option maxRecDepth 20000 in
theorem kc_L_91 : LkV RL 91 yX3_change cX3_change 8 (some .int) 1 := ⟨wl_of 815 rfl rfl, wl_of 816 rfl rfl, wl_of 817 rfl rfl, wl_of 44 rfl rfl, wl_of 818 rfl rfl, by decide, by decide +kernel⟩
set_option maxRecDepth 20000 in
theorem kc_L_92 : LkV RL 92 yX2_cure cX2_cure 8 (some .int) 2 := ⟨wl_of 490 rfl rfl, wl_of 491 rfl rfl, wl_of 492 rfl rfl, wl_of 41 rfl rfl, wl_of 493 rfl rfl, by decide, by decide +kernel⟩
set_option maxRecDepth 20000 in
theorem kc_L_95 : LkV RL 95 yX3_cure cX3_cure 8 (some .int) 2 := ⟨wl_of 819 rfl rfl, wl_of 820 rfl rfl, wl_of 821 rfl rfl, wl_of 44 rfl rfl, wl_of 822 rfl rfl, by decide, by decide +kernel⟩
set_option maxRecDepth 20000 in
theorem kc_L_96 : LkV RL 96 yX2_putIn cX2_putIn 4 (some .int) 3 := ⟨wl_of 494 rfl rfl, wl_of 495 rfl rfl, wl_of 496 rfl rfl, wl_of 41 rfl rfl, wl_of 497 rfl rfl, by decide, by decide +kernel⟩
set_option maxRecDepth 20000 in
theorem kc_X0_19 : LkV RX0 19 yX0_isFull cX0_isFull 1 (some .boolean) 0 := ⟨wl_of 182 rfl rfl, wl_of 171 rfl rfl, wl_of 172 rfl rfl, wl_of 43 rfl rfl, wl_of 173 rfl rfl, by decide, by decide +kernel⟩
set_option maxRecDepth 20000 in
theorem kc_X0_23 : LkV RX0 23 yX0_at cX0_at 2 (some .char) 1 := ⟨wl_of 195 rfl rfl, wl_of 196 rfl rfl, wl_of 197 rfl rfl, wl_of 43 rfl rfl, wl_of 198 rfl rfl, by decide, by decide +kernel⟩
set_option maxRecDepth 20000 in
theorem kc_X0_27 : LkS RX0 27 yX0_isDigit cX0_isDigit 1 (some .boolean) 1 := ⟨wl_of 292 rfl rfl, wl_of 293 rfl rfl, wl_of 43 rfl rfl, wl_of 294 rfl rfl, by decide, by decide +kernel⟩
set_option maxRecDepth 20000 in
theorem kc_X0_31 : LkV RX0 31 yX0_digit cX0_digit 2 (some .int) 1 := ⟨wl_of 340 rfl rfl, wl_of 313 rfl rfl, wl_of 314 rfl rfl, wl_of 43 rfl rfl, wl_of 315 rfl rfl, by decide, by decide +kernel⟩
set_option maxRecDepth 20000 in
theorem kc_X0_35 : LkS RX0 35 yX0_dueBehind cX0_dueBehind 2 (some .int) 2 := ⟨wl_of 199 rfl rfl, wl_of 200 rfl rfl, wl_of 43 rfl rfl, wl_of 201 rfl rfl, by decide, by decide +kernel⟩
set_option maxRecDepth 20000 in
theorem kc_X0_39 : LkS RX0 39 yX0_dueInStatement cX0_dueInStatement 1 (some .int) 1 := ⟨wl_of 202 rfl rfl, wl_of 203 rfl rfl, wl_of 43 rfl rfl, wl_of 204 rfl rfl, by decide, by decide +kernel⟩
set_option maxRecDepth 20000 in
theorem kc_X0_50 : LkS RX0 50 yX0_dueAtEnd cX0_dueAtEnd 1 (some .int) 1 := ⟨wl_of 295 rfl rfl, wl_of 296 rfl rfl, wl_of 43 rfl rfl, wl_of 297 rfl rfl, by decide, by decide +kernel⟩
set_option maxRecDepth 20000 in
theorem kc_X1_100 : LkV RX1 100 yX1_mudOf cX1_mudOf 2 (some .int) 1 := ⟨wl_of 415 rfl rfl, wl_of 416 rfl rfl, wl_of 417 rfl rfl, wl_of 42 rfl rfl, wl_of 418 rfl rfl, by decide, by decide +kernel⟩
set_option maxRecDepth 20000 in
theorem kc_X1_43 : LkA RX1 43 := ⟨wl_of 302 rfl rfl, wl_of 304 rfl rfl, wl_of 303 rfl rfl, wl_of 51 rfl rfl⟩
set_option maxRecDepth 20000 in
theorem kc_X1_55 : LkV RX1 55 yX1_isFull cX1_isFull 1 (some .boolean) 0 := ⟨wl_of 320 rfl rfl, wl_of 321 rfl rfl, wl_of 322 rfl rfl, wl_of 42 rfl rfl, wl_of 323 rfl rfl, by decide, by decide +kernel⟩
set_option maxRecDepth 20000 in
theorem kc_X1_59 : LkV RX1 59 yX1_isStreet cX1_isStreet 2 (some .boolean) 1 := ⟨wl_of 324 rfl rfl, wl_of 325 rfl rfl, wl_of 326 rfl rfl, wl_of 42 rfl rfl, wl_of 327 rfl rfl, by decide, by decide +kernel⟩
set_option maxRecDepth 20000 in
theorem kc_X1_63 : LkV RX1 63 yX1_add cX1_add 5 none 4 := ⟨wl_of 328 rfl rfl, wl_of 330 rfl rfl, wl_of 3 rfl rfl, wl_of 42 rfl rfl, wl_of 331 rfl rfl, by decide, by decide +kernel⟩
set_option maxRecDepth 20000 in
theorem kc_X1_67 : LkV RX1 67 yX1_stepFrom cX1_stepFrom 2 (some .int) 1 := ⟨wl_of 443 rfl rfl, wl_of 432 rfl rfl, wl_of 433 rfl rfl, wl_of 42 rfl rfl, wl_of 434 rfl rfl, by decide, by decide +kernel⟩
set_option maxRecDepth 20000 in
theorem kc_X1_71 : LkV RX1 71 yX1_passYear cX1_passYear 3 none 0 := ⟨wl_of 405 rfl rfl, wl_of 372 rfl rfl, wl_of 373 rfl rfl, wl_of 42 rfl rfl, wl_of 374 rfl rfl, by decide, by decide +kernel⟩
set_option maxRecDepth 20000 in
theorem kc_X1_74 : LkV RX1 74 yX1_mudOfAll cX1_mudOfAll 3 (some .int) 0 := ⟨wl_of 406 rfl rfl, wl_of 394 rfl rfl, wl_of 395 rfl rfl, wl_of 42 rfl rfl, wl_of 396 rfl rfl, by decide, by decide +kernel⟩
set_option maxRecDepth 20000 in
theorem kc_X1_78 : LkM RX1 78 := ⟨wl_of 375 rfl rfl, wl_of 238 rfl rfl, wl_of 47 rfl rfl, wl_of 239 rfl rfl⟩
set_option maxRecDepth 20000 in
theorem kc_X1_84 : LkV RX1 84 yX1_workOf cX1_workOf 4 (some .int) 2 := ⟨wl_of 376 rfl rfl, wl_of 378 rfl rfl, wl_of 4 rfl rfl, wl_of 42 rfl rfl, wl_of 379 rfl rfl, by decide, by decide +kernel⟩
set_option maxRecDepth 20000 in
theorem kc_X1_87 : LkX RX1 87 := ⟨wl_of 384 rfl rfl, wl_of 235 rfl rfl, wl_of 47 rfl rfl, wl_of 236 rfl rfl⟩
set_option maxRecDepth 20000 in
theorem kc_X1_90 : LkV RX1 90 yX1_payAll cX1_payAll 3 none 0 := ⟨wl_of 385 rfl rfl, wl_of 387 rfl rfl, wl_of 6 rfl rfl, wl_of 42 rfl rfl, wl_of 388 rfl rfl, by decide, by decide +kernel⟩
set_option maxRecDepth 20000 in
theorem kc_X1_93 : LkV RX1 93 yX1_trustOf cX1_trustOf 2 (some .int) 1 := ⟨wl_of 380 rfl rfl, wl_of 382 rfl rfl, wl_of 5 rfl rfl, wl_of 42 rfl rfl, wl_of 383 rfl rfl, by decide, by decide +kernel⟩
set_option maxRecDepth 20000 in
theorem kc_X1_96 : LkV RX1 96 yX1_pay cX1_pay 3 none 1 := ⟨wl_of 389 rfl rfl, wl_of 391 rfl rfl, wl_of 7 rfl rfl, wl_of 42 rfl rfl, wl_of 392 rfl rfl, by decide, by decide +kernel⟩
set_option maxRecDepth 20000 in
theorem kc_X2_100 : LkV RX2 100 yX1_passYear cX1_passYear 3 none 0 := ⟨wl_of 371 rfl rfl, wl_of 372 rfl rfl, wl_of 373 rfl rfl, wl_of 42 rfl rfl, wl_of 374 rfl rfl, by decide, by decide +kernel⟩
set_option maxRecDepth 20000 in
theorem kc_X2_103 : LkV RX2 103 yX1_mudOfAll cX1_mudOfAll 3 (some .int) 0 := ⟨wl_of 393 rfl rfl, wl_of 394 rfl rfl, wl_of 395 rfl rfl, wl_of 42 rfl rfl, wl_of 396 rfl rfl, by decide, by decide +kernel⟩
set_option maxRecDepth 20000 in
theorem kc_X2_106 : LkV RX2 106 yX1_copyFrom cX1_copyFrom 2 none 1 := ⟨wl_of 298 rfl rfl, wl_of 299 rfl rfl, wl_of 300 rfl rfl, wl_of 42 rfl rfl, wl_of 301 rfl rfl, by decide, by decide +kernel⟩
set_option maxRecDepth 20000 in
theorem kc_X2_110 : LkV RX2 110 yX1_mudBehind cX1_mudBehind 3 (some .int) 1 := ⟨wl_of 401 rfl rfl, wl_of 402 rfl rfl, wl_of 403 rfl rfl, wl_of 42 rfl rfl, wl_of 404 rfl rfl, by decide, by decide +kernel⟩
set_option maxRecDepth 20000 in
theorem kc_X2_113 : LkV RX2 113 yX1_muddiest cX1_muddiest 3 (some .int) 0 := ⟨wl_of 411 rfl rfl, wl_of 412 rfl rfl, wl_of 413 rfl rfl, wl_of 42 rfl rfl, wl_of 414 rfl rfl, by decide, by decide +kernel⟩
set_option maxRecDepth 20000 in
theorem kc_X2_116 : LkV RX2 116 yX1_liesLike cX1_liesLike 3 (some .boolean) 1 := ⟨wl_of 423 rfl rfl, wl_of 424 rfl rfl, wl_of 425 rfl rfl, wl_of 42 rfl rfl, wl_of 426 rfl rfl, by decide, by decide +kernel⟩
set_option maxRecDepth 20000 in
theorem kc_X2_123 : LkV RX2 123 yX1_stepFrom cX1_stepFrom 2 (some .int) 1 := ⟨wl_of 431 rfl rfl, wl_of 432 rfl rfl, wl_of 433 rfl rfl, wl_of 42 rfl rfl, wl_of 434 rfl rfl, by decide, by decide +kernel⟩
set_option maxRecDepth 20000 in
theorem kc_X2_126 : LkV RX2 126 yX1_isOnRing cX1_isOnRing 4 (some .boolean) 1 := ⟨wl_of 439 rfl rfl, wl_of 440 rfl rfl, wl_of 441 rfl rfl, wl_of 42 rfl rfl, wl_of 442 rfl rfl, by decide, by decide +kernel⟩
set_option maxRecDepth 20000 in
theorem kc_X2_129 : LkV RX2 129 yX1_leastOnTheWayFrom cX1_leastOnTheWayFrom 5 (some .int) 1 := ⟨wl_of 452 rfl rfl, wl_of 453 rfl rfl, wl_of 454 rfl rfl, wl_of 42 rfl rfl, wl_of 455 rfl rfl, by decide, by decide +kernel⟩
set_option maxRecDepth 20000 in
theorem kc_X2_136 : LkV RX2 136 yX2_findBestMap cX2_findBestMap 6 (some .int) 1 := ⟨wl_of 473 rfl rfl, wl_of 475 rfl rfl, wl_of 8 rfl rfl, wl_of 41 rfl rfl, wl_of 476 rfl rfl, by decide, by decide +kernel⟩
set_option maxRecDepth 20000 in
theorem kc_X2_139 : LkV RX2 139 yX1_isFull cX1_isFull 1 (some .boolean) 0 := ⟨wl_of 498 rfl rfl, wl_of 321 rfl rfl, wl_of 322 rfl rfl, wl_of 42 rfl rfl, wl_of 323 rfl rfl, by decide, by decide +kernel⟩
set_option maxRecDepth 20000 in
theorem kc_X2_140 : LkV RX2 140 yX1_putBehind cX1_putBehind 4 none 2 := ⟨wl_of 499 rfl rfl, wl_of 500 rfl rfl, wl_of 501 rfl rfl, wl_of 42 rfl rfl, wl_of 502 rfl rfl, by decide, by decide +kernel⟩
set_option maxRecDepth 20000 in
theorem kc_X2_144 : LkV RX2 144 yX1_leave cX1_leave 3 none 1 := ⟨wl_of 507 rfl rfl, wl_of 508 rfl rfl, wl_of 509 rfl rfl, wl_of 42 rfl rfl, wl_of 510 rfl rfl, by decide, by decide +kernel⟩
set_option maxRecDepth 20000 in
theorem kc_X2_148 : LkV RX2 148 yX1_mudOf cX1_mudOf 2 (some .int) 1 := ⟨wl_of 511 rfl rfl, wl_of 416 rfl rfl, wl_of 417 rfl rfl, wl_of 42 rfl rfl, wl_of 418 rfl rfl, by decide, by decide +kernel⟩
set_option maxRecDepth 20000 in
theorem kc_X2_154 : LkV RX2 154 yX2_firstNotAsTold cX2_firstNotAsTold 4 (some .int) 1 := ⟨wl_of 520 rfl rfl, wl_of 522 rfl rfl, wl_of 11 rfl rfl, wl_of 41 rfl rfl, wl_of 523 rfl rfl, by decide, by decide +kernel⟩
set_option maxRecDepth 20000 in
theorem kc_X2_165 : LkV RX2 165 yX1_penceOfAll cX1_penceOfAll 3 (some .int) 0 := ⟨wl_of 548 rfl rfl, wl_of 549 rfl rfl, wl_of 550 rfl rfl, wl_of 42 rfl rfl, wl_of 551 rfl rfl, by decide, by decide +kernel⟩
set_option maxRecDepth 20000 in
theorem kc_X2_168 : LkV RX2 168 yX0_formFault cX0_formFault 3 (some .int) 0 := ⟨wl_of 191 rfl rfl, wl_of 192 rfl rfl, wl_of 193 rfl rfl, wl_of 43 rfl rfl, wl_of 194 rfl rfl, by decide, by decide +kernel⟩
set_option maxRecDepth 20000 in
theorem kc_X2_171 : LkV RX2 171 yX0_at cX0_at 2 (some .char) 1 := ⟨wl_of 305 rfl rfl, wl_of 196 rfl rfl, wl_of 197 rfl rfl, wl_of 43 rfl rfl, wl_of 198 rfl rfl, by decide, by decide +kernel⟩
set_option maxRecDepth 20000 in
theorem kc_X2_175 : LkV RX2 175 yX2_comesToTrial cX2_comesToTrial 3 (some .boolean) 1 := ⟨wl_of 306 rfl rfl, wl_of 308 rfl rfl, wl_of 2 rfl rfl, wl_of 41 rfl rfl, wl_of 309 rfl rfl, by decide, by decide +kernel⟩
set_option maxRecDepth 20000 in
theorem kc_X2_185 : LkV RX2 185 yX0_digit cX0_digit 2 (some .int) 1 := ⟨wl_of 312 rfl rfl, wl_of 313 rfl rfl, wl_of 314 rfl rfl, wl_of 43 rfl rfl, wl_of 315 rfl rfl, by decide, by decide +kernel⟩
set_option maxRecDepth 20000 in
theorem kc_X2_188 : LkV RX2 188 yX1_tell cX1_tell 6 (some .boolean) 4 := ⟨wl_of 316 rfl rfl, wl_of 317 rfl rfl, wl_of 318 rfl rfl, wl_of 42 rfl rfl, wl_of 319 rfl rfl, by decide, by decide +kernel⟩
set_option maxRecDepth 20000 in
theorem kc_X2_192 : LkV RX2 192 yX1_tellWhoMends cX1_tellWhoMends 3 (some .boolean) 2 := ⟨wl_of 332 rfl rfl, wl_of 333 rfl rfl, wl_of 334 rfl rfl, wl_of 42 rfl rfl, wl_of 335 rfl rfl, by decide, by decide +kernel⟩
set_option maxRecDepth 20000 in
theorem kc_X2_196 : LkV RX2 196 yX0_oneOrTwoDigits cX0_oneOrTwoDigits 3 (some .int) 1 := ⟨wl_of 336 rfl rfl, wl_of 337 rfl rfl, wl_of 338 rfl rfl, wl_of 43 rfl rfl, wl_of 339 rfl rfl, by decide, by decide +kernel⟩
set_option maxRecDepth 20000 in
theorem kc_X2_199 : LkV RX2 199 yX1_tellPence cX1_tellPence 3 (some .boolean) 2 := ⟨wl_of 341 rfl rfl, wl_of 342 rfl rfl, wl_of 343 rfl rfl, wl_of 42 rfl rfl, wl_of 344 rfl rfl, by decide, by decide +kernel⟩
set_option maxRecDepth 20000 in
theorem kc_X2_202 : LkM RX2 202 := ⟨wl_of 524 rfl rfl, wl_of 238 rfl rfl, wl_of 47 rfl rfl, wl_of 239 rfl rfl⟩
set_option maxRecDepth 20000 in
theorem kc_X2_208 : LkA RX2 208 := ⟨wl_of 477 rfl rfl, wl_of 304 rfl rfl, wl_of 303 rfl rfl, wl_of 51 rfl rfl⟩
set_option maxRecDepth 20000 in
theorem kc_X2_214 : LkV RX2 214 yX2_goToNextMap cX2_goToNextMap 6 (some .boolean) 1 := ⟨wl_of 478 rfl rfl, wl_of 480 rfl rfl, wl_of 9 rfl rfl, wl_of 41 rfl rfl, wl_of 481 rfl rfl, by decide, by decide +kernel⟩
set_option maxRecDepth 20000 in
theorem kc_X2_217 : LkV RX2 217 yX2_swapInMap cX2_swapInMap 4 none 2 := ⟨wl_of 482 rfl rfl, wl_of 484 rfl rfl, wl_of 10 rfl rfl, wl_of 41 rfl rfl, wl_of 485 rfl rfl, by decide, by decide +kernel⟩
set_option maxRecDepth 20000 in
theorem kc_X2_45 : LkS RX2 45 yX2_refusalOf cX2_refusalOf 4 (some .int) 4 := ⟨wl_of 167 rfl rfl, wl_of 168 rfl rfl, wl_of 41 rfl rfl, wl_of 169 rfl rfl, by decide, by decide +kernel⟩
set_option maxRecDepth 20000 in
theorem kc_X2_49 : LkV RX2 49 yX0_isFull cX0_isFull 1 (some .boolean) 0 := ⟨wl_of 170 rfl rfl, wl_of 171 rfl rfl, wl_of 172 rfl rfl, wl_of 43 rfl rfl, wl_of 173 rfl rfl, by decide, by decide +kernel⟩
set_option maxRecDepth 20000 in
theorem kc_X2_53 : LkV RX2 53 yX2_refuse cX2_refuse 3 (some .int) 1 := ⟨wl_of 174 rfl rfl, wl_of 176 rfl rfl, wl_of 0 rfl rfl, wl_of 41 rfl rfl, wl_of 177 rfl rfl, by decide, by decide +kernel⟩
set_option maxRecDepth 20000 in
theorem kc_X2_57 : LkV RX2 57 yX0_append cX0_append 2 none 1 := ⟨wl_of 178 rfl rfl, wl_of 179 rfl rfl, wl_of 180 rfl rfl, wl_of 43 rfl rfl, wl_of 181 rfl rfl, by decide, by decide +kernel⟩
set_option maxRecDepth 20000 in
theorem kc_X2_65 : LkV RX2 65 yX2_readTown cX2_readTown 5 (some .int) 0 := ⟨wl_of 187 rfl rfl, wl_of 189 rfl rfl, wl_of 1 rfl rfl, wl_of 41 rfl rfl, wl_of 190 rfl rfl, by decide, by decide +kernel⟩
set_option maxRecDepth 20000 in
theorem kc_X2_69 : LkV RX2 69 yX1_isStreet cX1_isStreet 2 (some .boolean) 1 := ⟨wl_of 350 rfl rfl, wl_of 325 rfl rfl, wl_of 326 rfl rfl, wl_of 42 rfl rfl, wl_of 327 rfl rfl, by decide, by decide +kernel⟩
set_option maxRecDepth 20000 in
theorem kc_X2_94 : LkV RX2 94 yX1_fed cX1_fed 4 (some .int) 1 := ⟨wl_of 351 rfl rfl, wl_of 352 rfl rfl, wl_of 353 rfl rfl, wl_of 42 rfl rfl, wl_of 354 rfl rfl, by decide, by decide +kernel⟩
set_option maxRecDepth 20000 in
theorem kc_X3_100 : LkV RX3 100 yX3_readsStatement cX3_readsStatement 3 (some .boolean) 0 := ⟨wl_of 638 rfl rfl, wl_of 640 rfl rfl, wl_of 14 rfl rfl, wl_of 44 rfl rfl, wl_of 641 rfl rfl, by decide, by decide +kernel⟩
set_option maxRecDepth 20000 in
theorem kc_X3_103 : LkV RX3 103 yX3_comes cX3_comes 5 (some .boolean) 1 := ⟨wl_of 667 rfl rfl, wl_of 669 rfl rfl, wl_of 19 rfl rfl, wl_of 44 rfl rfl, wl_of 670 rfl rfl, by decide, by decide +kernel⟩
set_option maxRecDepth 20000 in
theorem kc_X3_106 : LkV RX3 106 yX3_reads cX3_reads 5 (some .int) 0 := ⟨wl_of 634 rfl rfl, wl_of 636 rfl rfl, wl_of 13 rfl rfl, wl_of 44 rfl rfl, wl_of 637 rfl rfl, by decide, by decide +kernel⟩
set_option maxRecDepth 20000 in
theorem kc_X3_109 : LkV RX3 109 yX3_get cX3_get 3 (some .int) 2 := ⟨wl_of 686 rfl rfl, wl_of 688 rfl rfl, wl_of 22 rfl rfl, wl_of 44 rfl rfl, wl_of 689 rfl rfl, by decide, by decide +kernel⟩
set_option maxRecDepth 20000 in
theorem kc_X3_113 : LkV RX3 113 yX3_trustOf cX3_trustOf 2 (some .int) 1 := ⟨wl_of 722 rfl rfl, wl_of 724 rfl rfl, wl_of 27 rfl rfl, wl_of 44 rfl rfl, wl_of 725 rfl rfl, by decide, by decide +kernel⟩
set_option maxRecDepth 20000 in
theorem kc_X3_116 : LkV RX3 116 yX3_puts cX3_puts 4 none 3 := ⟨wl_of 694 rfl rfl, wl_of 696 rfl rfl, wl_of 23 rfl rfl, wl_of 44 rfl rfl, wl_of 697 rfl rfl, by decide, by decide +kernel⟩
set_option maxRecDepth 20000 in
theorem kc_X3_120 : LkV RX3 120 yX3_mendsBy cX3_mendsBy 3 (some .int) 1 := ⟨wl_of 718 rfl rfl, wl_of 720 rfl rfl, wl_of 26 rfl rfl, wl_of 44 rfl rfl, wl_of 721 rfl rfl, by decide, by decide +kernel⟩
set_option maxRecDepth 20000 in
theorem kc_X3_123 : LkV RX3 123 yX3_paysFor cX3_paysFor 4 none 1 := ⟨wl_of 726 rfl rfl, wl_of 728 rfl rfl, wl_of 28 rfl rfl, wl_of 44 rfl rfl, wl_of 729 rfl rfl, by decide, by decide +kernel⟩
set_option maxRecDepth 20000 in
theorem kc_X3_127 : LkV RX3 127 yX3_goes cX3_goes 4 none 0 := ⟨wl_of 714 rfl rfl, wl_of 716 rfl rfl, wl_of 25 rfl rfl, wl_of 44 rfl rfl, wl_of 717 rfl rfl, by decide, by decide +kernel⟩
set_option maxRecDepth 20000 in
theorem kc_X3_130 : LkV RX3 130 yX3_mudOf cX3_mudOf 4 (some .int) 1 := ⟨wl_of 734 rfl rfl, wl_of 736 rfl rfl, wl_of 30 rfl rfl, wl_of 44 rfl rfl, wl_of 737 rfl rfl, by decide, by decide +kernel⟩
set_option maxRecDepth 20000 in
theorem kc_X3_133 : LkV RX3 133 yX3_goesFor cX3_goesFor 3 none 1 := ⟨wl_of 746 rfl rfl, wl_of 748 rfl rfl, wl_of 32 rfl rfl, wl_of 44 rfl rfl, wl_of 749 rfl rfl, by decide, by decide +kernel⟩
set_option maxRecDepth 20000 in
theorem kc_X3_136 : LkV RX3 136 yX3_allMud cX3_allMud 1 (some .int) 0 := ⟨wl_of 730 rfl rfl, wl_of 732 rfl rfl, wl_of 29 rfl rfl, wl_of 44 rfl rfl, wl_of 733 rfl rfl, by decide, by decide +kernel⟩
set_option maxRecDepth 20000 in
theorem kc_X3_139 : LkV RX3 139 yX3_ends cX3_ends 1 none 0 := ⟨wl_of 750 rfl rfl, wl_of 752 rfl rfl, wl_of 33 rfl rfl, wl_of 44 rfl rfl, wl_of 753 rfl rfl, by decide, by decide +kernel⟩
set_option maxRecDepth 20000 in
theorem kc_X3_142 : LkV RX3 142 yX3_isStreet cX3_isStreet 2 (some .boolean) 1 := ⟨wl_of 678 rfl rfl, wl_of 680 rfl rfl, wl_of 20 rfl rfl, wl_of 44 rfl rfl, wl_of 681 rfl rfl, by decide, by decide +kernel⟩
set_option maxRecDepth 20000 in
theorem kc_X3_145 : LkV RX3 145 yX3_fed cX3_fed 4 (some .int) 1 := ⟨wl_of 682 rfl rfl, wl_of 684 rfl rfl, wl_of 21 rfl rfl, wl_of 44 rfl rfl, wl_of 685 rfl rfl, by decide, by decide +kernel⟩
set_option maxRecDepth 20000 in
theorem kc_X3_148 : LkV RX3 148 yX3_becomes cX3_becomes 7 (some .int) 4 := ⟨wl_of 702 rfl rfl, wl_of 704 rfl rfl, wl_of 24 rfl rfl, wl_of 44 rfl rfl, wl_of 705 rfl rfl, by decide, by decide +kernel⟩
set_option maxRecDepth 20000 in
theorem kc_X3_152 : LkV RX3 152 yX3_begins cX3_begins 1 none 0 := ⟨wl_of 742 rfl rfl, wl_of 744 rfl rfl, wl_of 31 rfl rfl, wl_of 44 rfl rfl, wl_of 745 rfl rfl, by decide, by decide +kernel⟩
set_option maxRecDepth 20000 in
theorem kc_X3_155 : LkV RX3 155 yX3_isAsThen cX3_isAsThen 3 (some .boolean) 0 := ⟨wl_of 762 rfl rfl, wl_of 764 rfl rfl, wl_of 34 rfl rfl, wl_of 44 rfl rfl, wl_of 765 rfl rfl, by decide, by decide +kernel⟩
set_option maxRecDepth 20000 in
theorem kc_X3_158 : LkV RX3 158 yX3_wayOf cX3_wayOf 5 (some .int) 2 := ⟨wl_of 770 rfl rfl, wl_of 772 rfl rfl, wl_of 35 rfl rfl, wl_of 44 rfl rfl, wl_of 773 rfl rfl, by decide, by decide +kernel⟩
set_option maxRecDepth 20000 in
theorem kc_X3_161 : LkV RX3 161 yX3_isOnRing cX3_isOnRing 2 (some .boolean) 1 := ⟨wl_of 778 rfl rfl, wl_of 780 rfl rfl, wl_of 36 rfl rfl, wl_of 44 rfl rfl, wl_of 781 rfl rfl, by decide, by decide +kernel⟩
set_option maxRecDepth 20000 in
theorem kc_X3_165 : LkV RX3 165 yX3_mudBehind cX3_mudBehind 3 (some .int) 1 := ⟨wl_of 803 rfl rfl, wl_of 805 rfl rfl, wl_of 37 rfl rfl, wl_of 44 rfl rfl, wl_of 806 rfl rfl, by decide, by decide +kernel⟩
set_option maxRecDepth 20000 in
theorem kc_X3_171 : LkV RX3 171 yX3_maps cX3_maps 6 none 3 := ⟨wl_of 811 rfl rfl, wl_of 813 rfl rfl, wl_of 38 rfl rfl, wl_of 44 rfl rfl, wl_of 814 rfl rfl, by decide, by decide +kernel⟩
set_option maxRecDepth 20000 in
theorem kc_X3_177 : LkV RX3 177 yX3_isAsTold cX3_isAsTold 2 (some .boolean) 0 := ⟨wl_of 839 rfl rfl, wl_of 841 rfl rfl, wl_of 39 rfl rfl, wl_of 44 rfl rfl, wl_of 842 rfl rfl, by decide, by decide +kernel⟩
set_option maxRecDepth 20000 in
theorem kc_X3_56 : LkS RX3 56 yX3_lays cX3_lays 3 none 2 := ⟨wl_of 664 rfl rfl, wl_of 665 rfl rfl, wl_of 44 rfl rfl, wl_of 666 rfl rfl, by decide, by decide +kernel⟩
set_option maxRecDepth 20000 in
theorem kc_X3_60 : LkS RX3 60 yX3_isIn cX3_isIn 2 (some .boolean) 2 := ⟨wl_of 657 rfl rfl, wl_of 658 rfl rfl, wl_of 44 rfl rfl, wl_of 659 rfl rfl, by decide, by decide +kernel⟩
set_option maxRecDepth 20000 in
theorem kc_X3_64 : LkS RX3 64 yX3_within cX3_within 3 (some .int) 3 := ⟨wl_of 623 rfl rfl, wl_of 624 rfl rfl, wl_of 44 rfl rfl, wl_of 625 rfl rfl, by decide, by decide +kernel⟩
set_option maxRecDepth 20000 in
theorem kc_X3_71 : LkV RX3 71 yX3_refuse cX3_refuse 2 (some .int) 1 := ⟨wl_of 626 rfl rfl, wl_of 628 rfl rfl, wl_of 12 rfl rfl, wl_of 44 rfl rfl, wl_of 629 rfl rfl, by decide, by decide +kernel⟩
set_option maxRecDepth 20000 in
theorem kc_X3_78 : LkV RX3 78 yX3_sign cX3_sign 1 (some .int) 0 := ⟨wl_of 642 rfl rfl, wl_of 644 rfl rfl, wl_of 15 rfl rfl, wl_of 44 rfl rfl, wl_of 645 rfl rfl, by decide, by decide +kernel⟩
set_option maxRecDepth 20000 in
theorem kc_X3_82 : LkS RX3 82 yX3_kindOf cX3_kindOf 1 (some .int) 1 := ⟨wl_of 650 rfl rfl, wl_of 651 rfl rfl, wl_of 44 rfl rfl, wl_of 652 rfl rfl, by decide, by decide +kernel⟩
set_option maxRecDepth 20000 in
theorem kc_X3_85 : LkV RX3 85 yX3_readsKind cX3_readsKind 1 (some .boolean) 0 := ⟨wl_of 646 rfl rfl, wl_of 648 rfl rfl, wl_of 16 rfl rfl, wl_of 44 rfl rfl, wl_of 649 rfl rfl, by decide, by decide +kernel⟩
set_option maxRecDepth 20000 in
theorem kc_X3_89 : LkV RX3 89 yX3_readsNumber cX3_readsNumber 4 (some .boolean) 2 := ⟨wl_of 653 rfl rfl, wl_of 655 rfl rfl, wl_of 17 rfl rfl, wl_of 44 rfl rfl, wl_of 656 rfl rfl, by decide, by decide +kernel⟩
set_option maxRecDepth 20000 in
theorem kc_X3_92 : LkV RX3 92 yX3_takes cX3_takes 2 (some .boolean) 1 := ⟨wl_of 660 rfl rfl, wl_of 662 rfl rfl, wl_of 18 rfl rfl, wl_of 44 rfl rfl, wl_of 663 rfl rfl, by decide, by decide +kernel⟩
set_option maxRecDepth 20000 in
theorem kc_X3_96 : LkS RX3 96 yX3_setIn cX3_setIn 4 none 4 := ⟨wl_of 671 rfl rfl, wl_of 672 rfl rfl, wl_of 44 rfl rfl, wl_of 673 rfl rfl, by decide, by decide +kernel⟩
set_option maxRecDepth 20000 in
theorem kf_X0_15 : FLk RX0 15 0 1 := ⟨RX0, TX0, 2, rfl, by decide, wX0, wl_of 121 rfl rfl⟩
set_option maxRecDepth 20000 in
theorem kf_X0_9 : FLk RX0 9 0 0 := ⟨RX0, TX0, 2, rfl, by decide, wX0, wl_of 120 rfl rfl⟩
set_option maxRecDepth 20000 in
theorem kf_X1_15 : FLk RX1 15 1 1 := ⟨RX1, TX1, 12, rfl, by decide, wX1, wl_of 68 rfl rfl⟩
set_option maxRecDepth 20000 in
theorem kf_X1_18 : FLk RX1 18 1 2 := ⟨RX1, TX1, 12, rfl, by decide, wX1, wl_of 70 rfl rfl⟩
set_option maxRecDepth 20000 in
theorem kf_X1_21 : FLk RX1 21 1 3 := ⟨RX1, TX1, 12, rfl, by decide, wX1, wl_of 72 rfl rfl⟩
set_option maxRecDepth 20000 in
theorem kf_X1_24 : FLk RX1 24 1 4 := ⟨RX1, TX1, 12, rfl, by decide, wX1, wl_of 74 rfl rfl⟩
set_option maxRecDepth 20000 in
theorem kf_X1_27 : FLk RX1 27 1 5 := ⟨RX1, TX1, 12, rfl, by decide, wX1, wl_of 76 rfl rfl⟩
set_option maxRecDepth 20000 in
theorem kf_X1_30 : FLk RX1 30 1 6 := ⟨RX1, TX1, 12, rfl, by decide, wX1, wl_of 78 rfl rfl⟩
set_option maxRecDepth 20000 in
theorem kf_X1_33 : FLk RX1 33 1 7 := ⟨RX1, TX1, 12, rfl, by decide, wX1, wl_of 80 rfl rfl⟩
set_option maxRecDepth 20000 in
theorem kf_X1_36 : FLk RX1 36 1 10 := ⟨RX1, TX1, 12, rfl, by decide, wX1, wl_of 85 rfl rfl⟩
set_option maxRecDepth 20000 in
theorem kf_X1_40 : FLk RX1 40 1 11 := ⟨RX1, TX1, 12, rfl, by decide, wX1, wl_of 87 rfl rfl⟩
set_option maxRecDepth 20000 in
theorem kf_X1_49 : FLk RX1 49 1 8 := ⟨RX1, TX1, 12, rfl, by decide, wX1, wl_of 81 rfl rfl⟩
set_option maxRecDepth 20000 in
theorem kf_X1_52 : FLk RX1 52 1 9 := ⟨RX1, TX1, 12, rfl, by decide, wX1, wl_of 83 rfl rfl⟩
set_option maxRecDepth 20000 in
theorem kf_X1_9 : FLk RX1 9 1 0 := ⟨RX1, TX1, 12, rfl, by decide, wX1, wl_of 66 rfl rfl⟩
set_option maxRecDepth 20000 in
theorem kf_X2_12 : FLk RX2 12 2 0 := ⟨RX2, TX2, 11, rfl, by decide, wX2, wl_of 129 rfl rfl⟩
set_option maxRecDepth 20000 in
theorem kf_X2_120 : FLn RX2 120 1 8 := ⟨rfl, RX1, TX1, 12, rfl, by decide, wX1, List.mem_of_getElem? (i := 7) rfl⟩
set_option maxRecDepth 20000 in
theorem kf_X2_132 : FLn RX2 132 1 10 := ⟨rfl, RX1, TX1, 12, rfl, by decide, wX1, List.mem_of_getElem? (i := 9) rfl⟩
set_option maxRecDepth 20000 in
theorem kf_X2_151 : FLk RX2 151 2 9 := ⟨RX2, TX2, 11, rfl, by decide, wX2, wl_of 138 rfl rfl⟩
set_option maxRecDepth 20000 in
theorem kf_X2_16 : FLk RX2 16 2 1 := ⟨RX2, TX2, 11, rfl, by decide, wX2, wl_of 130 rfl rfl⟩
set_option maxRecDepth 20000 in
theorem kf_X2_161 : FLk RX2 161 2 10 := ⟨RX2, TX2, 11, rfl, by decide, wX2, wl_of 139 rfl rfl⟩
set_option maxRecDepth 20000 in
theorem kf_X2_19 : FLk RX2 19 2 2 := ⟨RX2, TX2, 11, rfl, by decide, wX2, wl_of 131 rfl rfl⟩
set_option maxRecDepth 20000 in
theorem kf_X2_22 : FLk RX2 22 2 3 := ⟨RX2, TX2, 11, rfl, by decide, wX2, wl_of 132 rfl rfl⟩
set_option maxRecDepth 20000 in
theorem kf_X2_28 : FLk RX2 28 2 4 := ⟨RX2, TX2, 11, rfl, by decide, wX2, wl_of 133 rfl rfl⟩
set_option maxRecDepth 20000 in
theorem kf_X2_32 : FLk RX2 32 2 5 := ⟨RX2, TX2, 11, rfl, by decide, wX2, wl_of 134 rfl rfl⟩
set_option maxRecDepth 20000 in
theorem kf_X2_36 : FLk RX2 36 2 6 := ⟨RX2, TX2, 11, rfl, by decide, wX2, wl_of 135 rfl rfl⟩
set_option maxRecDepth 20000 in
theorem kf_X2_39 : FLk RX2 39 2 7 := ⟨RX2, TX2, 11, rfl, by decide, wX2, wl_of 136 rfl rfl⟩
set_option maxRecDepth 20000 in
theorem kf_X2_42 : FLk RX2 42 2 8 := ⟨RX2, TX2, 11, rfl, by decide, wX2, wl_of 137 rfl rfl⟩
set_option maxRecDepth 20000 in
theorem kf_X2_61 : FLn RX2 61 0 1 := ⟨rfl, RX0, TX0, 2, rfl, by decide, wX0, List.mem_of_getElem? (i := 10) rfl⟩
set_option maxRecDepth 20000 in
theorem kf_X2_73 : FLn RX2 73 1 0 := ⟨rfl, RX1, TX1, 12, rfl, by decide, wX1, List.mem_of_getElem? (i := 0) rfl⟩
set_option maxRecDepth 20000 in
theorem kf_X2_76 : FLn RX2 76 1 1 := ⟨rfl, RX1, TX1, 12, rfl, by decide, wX1, List.mem_of_getElem? (i := 1) rfl⟩
set_option maxRecDepth 20000 in
theorem kf_X2_79 : FLn RX2 79 1 2 := ⟨rfl, RX1, TX1, 12, rfl, by decide, wX1, List.mem_of_getElem? (i := 2) rfl⟩
set_option maxRecDepth 20000 in
theorem kf_X2_82 : FLn RX2 82 1 3 := ⟨rfl, RX1, TX1, 12, rfl, by decide, wX1, List.mem_of_getElem? (i := 3) rfl⟩
set_option maxRecDepth 20000 in
theorem kf_X2_85 : FLn RX2 85 1 4 := ⟨rfl, RX1, TX1, 12, rfl, by decide, wX1, List.mem_of_getElem? (i := 4) rfl⟩
set_option maxRecDepth 20000 in
theorem kf_X2_88 : FLn RX2 88 1 5 := ⟨rfl, RX1, TX1, 12, rfl, by decide, wX1, List.mem_of_getElem? (i := 5) rfl⟩
set_option maxRecDepth 20000 in
theorem kf_X2_91 : FLn RX2 91 1 6 := ⟨rfl, RX1, TX1, 12, rfl, by decide, wX1, List.mem_of_getElem? (i := 6) rfl⟩
set_option maxRecDepth 20000 in
theorem kf_X2_97 : FLn RX2 97 1 9 := ⟨rfl, RX1, TX1, 12, rfl, by decide, wX1, List.mem_of_getElem? (i := 8) rfl⟩
set_option maxRecDepth 20000 in
theorem kf_X3_13 : FLk RX3 13 3 1 := ⟨RX3, TX3, 20, rfl, by decide, wX3, wl_of 559 rfl rfl⟩
set_option maxRecDepth 20000 in
theorem kf_X3_16 : FLk RX3 16 3 2 := ⟨RX3, TX3, 20, rfl, by decide, wX3, wl_of 560 rfl rfl⟩
set_option maxRecDepth 20000 in
theorem kf_X3_168 : FLk RX3 168 3 17 := ⟨RX3, TX3, 20, rfl, by decide, wX3, wl_of 575 rfl rfl⟩
set_option maxRecDepth 20000 in
theorem kf_X3_174 : FLk RX3 174 3 19 := ⟨RX3, TX3, 20, rfl, by decide, wX3, wl_of 577 rfl rfl⟩
set_option maxRecDepth 20000 in
theorem kf_X3_183 : FLk RX3 183 3 5 := ⟨RX3, TX3, 20, rfl, by decide, wX3, wl_of 563 rfl rfl⟩
set_option maxRecDepth 20000 in
theorem kf_X3_19 : FLk RX3 19 3 3 := ⟨RX3, TX3, 20, rfl, by decide, wX3, wl_of 561 rfl rfl⟩
set_option maxRecDepth 20000 in
theorem kf_X3_22 : FLk RX3 22 3 4 := ⟨RX3, TX3, 20, rfl, by decide, wX3, wl_of 562 rfl rfl⟩
set_option maxRecDepth 20000 in
theorem kf_X3_25 : FLk RX3 25 3 6 := ⟨RX3, TX3, 20, rfl, by decide, wX3, wl_of 564 rfl rfl⟩
set_option maxRecDepth 20000 in
theorem kf_X3_29 : FLk RX3 29 3 7 := ⟨RX3, TX3, 20, rfl, by decide, wX3, wl_of 565 rfl rfl⟩
set_option maxRecDepth 20000 in
theorem kf_X3_32 : FLk RX3 32 3 8 := ⟨RX3, TX3, 20, rfl, by decide, wX3, wl_of 566 rfl rfl⟩
set_option maxRecDepth 20000 in
theorem kf_X3_35 : FLk RX3 35 3 9 := ⟨RX3, TX3, 20, rfl, by decide, wX3, wl_of 567 rfl rfl⟩
set_option maxRecDepth 20000 in
theorem kf_X3_38 : FLk RX3 38 3 12 := ⟨RX3, TX3, 20, rfl, by decide, wX3, wl_of 570 rfl rfl⟩
set_option maxRecDepth 20000 in
theorem kf_X3_41 : FLk RX3 41 3 13 := ⟨RX3, TX3, 20, rfl, by decide, wX3, wl_of 571 rfl rfl⟩
set_option maxRecDepth 20000 in
theorem kf_X3_44 : FLk RX3 44 3 14 := ⟨RX3, TX3, 20, rfl, by decide, wX3, wl_of 572 rfl rfl⟩
set_option maxRecDepth 20000 in
theorem kf_X3_47 : FLk RX3 47 3 15 := ⟨RX3, TX3, 20, rfl, by decide, wX3, wl_of 573 rfl rfl⟩
set_option maxRecDepth 20000 in
theorem kf_X3_50 : FLk RX3 50 3 16 := ⟨RX3, TX3, 20, rfl, by decide, wX3, wl_of 574 rfl rfl⟩
set_option maxRecDepth 20000 in
theorem kf_X3_53 : FLk RX3 53 3 18 := ⟨RX3, TX3, 20, rfl, by decide, wX3, wl_of 576 rfl rfl⟩
set_option maxRecDepth 20000 in
theorem kf_X3_68 : FLk RX3 68 3 10 := ⟨RX3, TX3, 20, rfl, by decide, wX3, wl_of 568 rfl rfl⟩
set_option maxRecDepth 20000 in
theorem kf_X3_7 : FLk RX3 7 3 0 := ⟨RX3, TX3, 20, rfl, by decide, wX3, wl_of 558 rfl rfl⟩
set_option maxRecDepth 20000 in
theorem kf_X3_75 : FLk RX3 75 3 11 := ⟨RX3, TX3, 20, rfl, by decide, wX3, wl_of 569 rfl rfl⟩
set_option maxRecDepth 20000 in
theorem kk_X2_135 : Cond.constant RX2 135 (1000000000) ∈ WL := wl_of 468 rfl rfl
set_option maxRecDepth 20000 in
theorem kk_X2_158 : Cond.constant RX2 158 (1664525) ∈ WL := wl_of 533 rfl rfl
set_option maxRecDepth 20000 in
theorem kk_X2_159 : Cond.constant RX2 159 (1013904223) ∈ WL := wl_of 534 rfl rfl
set_option maxRecDepth 20000 in
theorem kk_X2_160 : Cond.constant RX2 160 (2147483647) ∈ WL := wl_of 535 rfl rfl
set_option maxRecDepth 20000 in
theorem kk_X3_164 : Cond.constant RX3 164 (1000000000) ∈ WL := wl_of 802 rfl rfl
set_option maxRecDepth 20000 in
theorem kk_X3_180 : Cond.constant RX3 180 (1664525) ∈ WL := wl_of 851 rfl rfl
set_option maxRecDepth 20000 in
theorem kk_X3_181 : Cond.constant RX3 181 (1013904223) ∈ WL := wl_of 852 rfl rfl
set_option maxRecDepth 20000 in
theorem kk_X3_182 : Cond.constant RX3 182 (2147483647) ∈ WL := wl_of 853 rfl rfl
set_option maxRecDepth 20000 in
theorem kp_X0_15 : FPk RX0 15 0 1 .int := ⟨RX0, TX0, 2, rfl, by decide, wX0, wl_of 121 rfl rfl, rfl, rfl, ⟨tyX0, tyX0_ok⟩, nmX0⟩
set_option maxRecDepth 20000 in
theorem kp_X1_36 : FPk RX1 36 1 10 .int := ⟨RX1, TX1, 12, rfl, by decide, wX1, wl_of 85 rfl rfl, rfl, rfl, ⟨tyX1, tyX1_ok⟩, nmX1⟩
set_option maxRecDepth 20000 in
theorem kp_X1_40 : FPk RX1 40 1 11 .int := ⟨RX1, TX1, 12, rfl, by decide, wX1, wl_of 87 rfl rfl, rfl, rfl, ⟨tyX1, tyX1_ok⟩, nmX1⟩
set_option maxRecDepth 20000 in
theorem kp_X1_49 : FPk RX1 49 1 8 .int := ⟨RX1, TX1, 12, rfl, by decide, wX1, wl_of 81 rfl rfl, rfl, rfl, ⟨tyX1, tyX1_ok⟩, nmX1⟩
set_option maxRecDepth 20000 in
theorem kp_X1_52 : FPk RX1 52 1 9 .int := ⟨RX1, TX1, 12, rfl, by decide, wX1, wl_of 83 rfl rfl, rfl, rfl, ⟨tyX1, tyX1_ok⟩, nmX1⟩
set_option maxRecDepth 20000 in
theorem kp_X2_132 : FPn RX2 132 1 10 .int := ⟨rfl, RX1, TX1, 12, rfl, by decide, wX1, List.mem_of_getElem? (i := 9) rfl, rfl, rfl, ⟨tyX1, tyX1_ok⟩, nmX1⟩
set_option maxRecDepth 20000 in
theorem kp_X2_151 : FPk RX2 151 2 9 .int := ⟨RX2, TX2, 11, rfl, by decide, wX2, wl_of 138 rfl rfl, rfl, rfl, ⟨tyX2, tyX2_ok⟩, nmX2⟩
set_option maxRecDepth 20000 in
theorem kp_X2_161 : FPk RX2 161 2 10 .boolean := ⟨RX2, TX2, 11, rfl, by decide, wX2, wl_of 139 rfl rfl, rfl, rfl, ⟨tyX2, tyX2_ok⟩, nmX2⟩
set_option maxRecDepth 20000 in
theorem kp_X2_61 : FPn RX2 61 0 1 .int := ⟨rfl, RX0, TX0, 2, rfl, by decide, wX0, List.mem_of_getElem? (i := 10) rfl, rfl, rfl, ⟨tyX0, tyX0_ok⟩, nmX0⟩
set_option maxRecDepth 20000 in
theorem kp_X3_168 : FPk RX3 168 3 17 .int := ⟨RX3, TX3, 20, rfl, by decide, wX3, wl_of 575 rfl rfl, rfl, rfl, ⟨tyX3, tyX3_ok⟩, nmX3⟩
set_option maxRecDepth 20000 in
theorem kp_X3_174 : FPk RX3 174 3 19 .int := ⟨RX3, TX3, 20, rfl, by decide, wX3, wl_of 577 rfl rfl, rfl, rfl, ⟨tyX3, tyX3_ok⟩, nmX3⟩
set_option maxRecDepth 20000 in
theorem kp_X3_183 : FPk RX3 183 3 5 .boolean := ⟨RX3, TX3, 20, rfl, by decide, wX3, wl_of 563 rfl rfl, rfl, rfl, ⟨tyX3, tyX3_ok⟩, nmX3⟩
set_option maxRecDepth 20000 in
theorem kp_X3_25 : FPk RX3 25 3 6 .int := ⟨RX3, TX3, 20, rfl, by decide, wX3, wl_of 564 rfl rfl, rfl, rfl, ⟨tyX3, tyX3_ok⟩, nmX3⟩
set_option maxRecDepth 20000 in
theorem kp_X3_29 : FPk RX3 29 3 7 .int := ⟨RX3, TX3, 20, rfl, by decide, wX3, wl_of 565 rfl rfl, rfl, rfl, ⟨tyX3, tyX3_ok⟩, nmX3⟩
set_option maxRecDepth 20000 in
theorem kp_X3_68 : FPk RX3 68 3 10 .int := ⟨RX3, TX3, 20, rfl, by decide, wX3, wl_of 568 rfl rfl, rfl, rfl, ⟨tyX3, tyX3_ok⟩, nmX3⟩
set_option maxRecDepth 20000 in
theorem kp_X3_75 : FPk RX3 75 3 11 .int := ⟨RX3, TX3, 20, rfl, by decide, wX3, wl_of 569 rfl rfl, rfl, rfl, ⟨tyX3, tyX3_ok⟩, nmX3⟩
